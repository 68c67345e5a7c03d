abbrev rm_X4_requireRange : Room := { frames := 6, cells := 1, slots := 6, locals := 84 }
abbrev q_X4_requireRange (D : va_G) (cI : ClassId) (v : Int32) (lo : Nat) (hi : Nat) (A : Nat → Prop) : Array Value → State → Outcome → State → Prop := muQv D (fun (uu : Unit) => inR v lo hi) (fun (uu : Unit) => []) A
abbrev x_X4_requireRange (D : va_G) (cI : ClassId) (v : Int32) (lo : Nat) (hi : Nat) (A : Nat → Prop) : String → State → State → Prop := exX D (fun (E : String) (uu : Unit) => E = eA ∧ ¬ inR v lo hi) (fun (uu : Unit) => []) A
set_option maxHeartbeats 8000000 in
set_option maxRecDepth 100000 in
theorem c_X4_requireRange (l : Launch) (hfl : l.stackTraces = false) (D : va_G) (cI : ClassId) (v : Int32) (lo : Nat) (hi : Nat) (sz : Nat)  : vy_Met l yX4_requireRange wsX4_requireRange rm_X4_requireRange (exP D (tI cI) [.int v, .int (nI lo), .int (nI hi)] [] sz) (q_X4_requireRange D cI v lo hi (va_A [] sz)) (x_X4_requireRange D cI v lo hi (va_A [] sz)) 1 6 (va_A [] sz) := by
  refine vyOf (Qc := fun A => q_X4_requireRange D cI v lo hi A) (XC := fun A => x_X4_requireRange D cI v lo hi A) (cc := cX4_requireRange) (maxL := 3) (ret := none) (by decide) rfl (Nat.le_of_ble_eq_true rfl) ?_
  intro p e s m below meth c ls A hx hb hml hown hts hr hlocks hte hP hK hZ hD hA hS hX hl
  have hown : s.vm.findClass RX4 = some m.cls := hown
  have hl : lv_has ls 3 [(0, .int v), (1, .int (nI lo)), (2, .int (nI hi))] := hl
  have hF : CallFix p m c cX4_requireRange 3 s [.int v, .int (nI lo), .int (nI hi)].toArray wsX4_requireRange RX4 := ⟨hx, hb, hml, hown, hts⟩
  refine lv_iload_n hx hb dX4_requireRange_0 rfl (lv_at hl 0 rfl) ?_
  refine lv_iload_n hx hb dX4_requireRange_1 rfl (lv_at hl 1 rfl) ?_
  refine lv_icmp_lt hx hb (tgt := 10) dX4_requireRange_2 (by decide) (fun b2 => ?_) (fun b2 => ?_)
  · skip
    obtain ⟨tx_1, htx_1⟩ := hZ.2.2.2.1
    exact vy_W (vx_throwS (own := RX4) (cls := "java/lang/IllegalArgumentException") (names := ["java/lang/RuntimeException", "java/lang/Exception"]) hx hb hfl hown (by decide +kernel) (by decide +kernel) (hts (.classLink RX4 189 "java/lang/IllegalArgumentException") (by decide +kernel)) (hts (.initialized "java/lang/IllegalArgumentException") (by decide +kernel)) htx_1 (vx_hat (L := vx_atS RX4 193 "java/lang/IllegalArgumentException" ["java/lang/RuntimeException", "java/lang/Exception"]) (B := [.castable "java/lang/IllegalArgumentException" "java/lang/IllegalArgumentException", .declares ⟨"java/lang/RuntimeException", "<init>", "(Ljava/lang/String;)V"⟩, .declares ⟨"java/lang/Exception", "<init>", "(Ljava/lang/String;)V"⟩, .declares ⟨"java/lang/Throwable", "<init>", "(Ljava/lang/String;)V"⟩]) (fun w hw => hts w ((by decide +kernel : ∀ w ∈ (vx_atS RX4 193 "java/lang/IllegalArgumentException" ["java/lang/RuntimeException", "java/lang/Exception"]).filter goodWord, w ∈ wsX4_requireRange) w hw)) (by decide +kernel) (vx_c (va_Nw.use rfl hZ.1.1) (vx_c (va_Nw.use rfl hZ.2.1.1) (vx_c (va_Nw.use rfl hZ.2.1.2.1) (vx_c (va_Nw.use rfl hZ.2.1.2.2) vx_n))))) (by decide +kernel) hX.1 hX.2 hS (hl.1.trans hml.symm) dX4_requireRange_10 dX4_requireRange_13 dX4_requireRange_14 dX4_requireRange_16 dX4_requireRange_19 (fun x hx => (hte x hx).elim) (Nat.le_of_ble_eq_true rfl) (Nat.le_of_ble_eq_true rfl) (Nat.le_of_ble_eq_true rfl) (Nat.le_of_ble_eq_true rfl) hlocks (fun t ha hz hq => ⟨(), trivial, ⟨⟨rfl, by first | exact inR_lt b2 | exact inR_gt b7⟩, hP.kept (fun k q hk => hq _ (hP k q hk).lt), hD⟩, Nat.le_trans hS.1 hz, fun q h1 h2 => (hq q (Nat.lt_of_lt_of_le h1 hS.1)).trans (hS.2.1 q h1 h2)⟩) hS.2.2 (Nat.le_of_ble_eq_true rfl) (Nat.le_of_ble_eq_true rfl))
  · skip
    refine lv_iload_n hx hb dX4_requireRange_5 rfl (lv_at hl 0 rfl) ?_
    refine lv_iload_n hx hb dX4_requireRange_6 rfl (lv_at hl 2 rfl) ?_
    refine lv_icmp_le hx hb (tgt := 20) dX4_requireRange_7 (by decide) (fun b7 => ?_) (fun b7 => ?_)
    · skip
      refine vy_ret ?_
      exact muRv hx hb hr hlocks () (⟨b2, b7⟩) hP hD hS dX4_requireRange_20
    · skip
      obtain ⟨tx_2, htx_2⟩ := hZ.2.2.2.1
      exact vy_W (vx_throwS (own := RX4) (cls := "java/lang/IllegalArgumentException") (names := ["java/lang/RuntimeException", "java/lang/Exception"]) hx hb hfl hown (by decide +kernel) (by decide +kernel) (hts (.classLink RX4 189 "java/lang/IllegalArgumentException") (by decide +kernel)) (hts (.initialized "java/lang/IllegalArgumentException") (by decide +kernel)) htx_2 (vx_hat (L := vx_atS RX4 193 "java/lang/IllegalArgumentException" ["java/lang/RuntimeException", "java/lang/Exception"]) (B := [.castable "java/lang/IllegalArgumentException" "java/lang/IllegalArgumentException", .declares ⟨"java/lang/RuntimeException", "<init>", "(Ljava/lang/String;)V"⟩, .declares ⟨"java/lang/Exception", "<init>", "(Ljava/lang/String;)V"⟩, .declares ⟨"java/lang/Throwable", "<init>", "(Ljava/lang/String;)V"⟩]) (fun w hw => hts w ((by decide +kernel : ∀ w ∈ (vx_atS RX4 193 "java/lang/IllegalArgumentException" ["java/lang/RuntimeException", "java/lang/Exception"]).filter goodWord, w ∈ wsX4_requireRange) w hw)) (by decide +kernel) (vx_c (va_Nw.use rfl hZ.1.1) (vx_c (va_Nw.use rfl hZ.2.1.1) (vx_c (va_Nw.use rfl hZ.2.1.2.1) (vx_c (va_Nw.use rfl hZ.2.1.2.2) vx_n))))) (by decide +kernel) hX.1 hX.2 hS (hl.1.trans hml.symm) dX4_requireRange_10 dX4_requireRange_13 dX4_requireRange_14 dX4_requireRange_16 dX4_requireRange_19 (fun x hx => (hte x hx).elim) (Nat.le_of_ble_eq_true rfl) (Nat.le_of_ble_eq_true rfl) (Nat.le_of_ble_eq_true rfl) (Nat.le_of_ble_eq_true rfl) hlocks (fun t ha hz hq => ⟨(), trivial, ⟨⟨rfl, by first | exact inR_lt b2 | exact inR_gt b7⟩, hP.kept (fun k q hk => hq _ (hP k q hk).lt), hD⟩, Nat.le_trans hS.1 hz, fun q h1 h2 => (hq q (Nat.lt_of_lt_of_le h1 hS.1)).trans (hS.2.1 q h1 h2)⟩) hS.2.2 (Nat.le_of_ble_eq_true rfl) (Nat.le_of_ble_eq_true rfl))

abbrev rm_X4_requireId : Room := { frames := 7, cells := 1, slots := 6, locals := 106 }
abbrev q_X4_requireId (D : va_G) (cI : ClassId) (k : Int32) (A : Nat → Prop) : Array Value → State → Outcome → State → Prop := muQv D (fun (uu : Unit) => inR k 0 19) (fun (uu : Unit) => []) A
abbrev x_X4_requireId (D : va_G) (cI : ClassId) (k : Int32) (A : Nat → Prop) : String → State → State → Prop := exX D (fun (E : String) (uu : Unit) => E = eA ∧ ¬ inR k 0 19) (fun (uu : Unit) => []) A
set_option maxHeartbeats 8000000 in
set_option maxRecDepth 100000 in
theorem c_X4_requireId (l : Launch) (hfl : l.stackTraces = false) (D : va_G) (cI : ClassId) (k : Int32) (sz : Nat)  : vy_Met l yX4_requireId wsX4_requireId rm_X4_requireId (exP D (tI cI) [.int k] [] sz) (q_X4_requireId D cI k (va_A [] sz)) (x_X4_requireId D cI k (va_A [] sz)) 1 6 (va_A [] sz) := by
  refine vyOf (Qc := fun A => q_X4_requireId D cI k A) (XC := fun A => x_X4_requireId D cI k A) (cc := cX4_requireId) (maxL := 1) (ret := none) (by decide) rfl (Nat.le_of_ble_eq_true rfl) ?_
  intro p e s m below meth c ls A hx hb hml hown hts hr hlocks hte hP hK hZ hD hA hS hX hl
  have hown : s.vm.findClass RX4 = some m.cls := hown
  have hl : lv_has ls 1 [(0, .int k)] := hl
  have hF : CallFix p m c cX4_requireId 1 s [.int k].toArray wsX4_requireId RX4 := ⟨hx, hb, hml, hown, hts⟩
  refine lv_iload_n hx hb dX4_requireId_0 rfl (lv_at hl 0 rfl) ?_
  refine lv_iconst (v := nI 0) hx hb dX4_requireId_1 (by decide) ?_
  refine lv_bipush (v := nI 19) hx hb dX4_requireId_2 (by decide) ?_
  refine vyCv (wr := []) (wB := (fun _ => [])) (wBx := (fun _ => [])) (vy_runS (As := [.int k, .int (nI 0), .int (nI 19)]) (rest := []) hF (c_X4_requireRange l hfl D cI k 0 19 s.heap.size ) (va_cwS 3 hts gX4_requireId_X4_requireRange rfl rfl rfl (by decide +kernel) ⟨Nat.le_of_ble_eq_true rfl, Nat.le_of_ble_eq_true rfl⟩) (exS hK hZ hX hS hA [0] rfl hP hD [] (by decide) rfl) rfl rfl hl.1 rfl (lv_room (Nat.le_of_ble_eq_true rfl)) dX4_requireId_4 ⟨Nat.le_of_ble_eq_true rfl, Nat.le_of_ble_eq_true rfl⟩) hP hD hS hA [] [] [] rfl rfl (by decide) (by decide) (by decide) (fun _ => rfl) (fun _ => rfl) (fun E ce q9 u_4 H locs hw_2 hP hD hS h7 h8 h9 => ?_) (fun u_3 H locs hw_2 hP hD hS => ?_)
  · skip
    have hP : va_P D vwCl [] H := hP
    have hD : va_D A [] := hD
    exact vy_Wx (vx_widen (k := 1) (n := 6) (Nat.le_of_ble_eq_true rfl) (Nat.le_of_ble_eq_true rfl) (vx_out (fun x hx => (hte x hx).elim) hlocks h7 h8 h9 (fun t ht hW => ⟨(), trivial, ⟨hw_2, by rw [ht]; exact hP, hD⟩, hS.F ht⟩) hS.2.2 (Nat.le_of_ble_eq_true rfl) (Nat.le_of_ble_eq_true rfl)))
  · skip
    have hw_2 : inR k 0 19 := hw_2
    have hP : va_P D vwCl [] H := hP
    have hD : va_D A [] := hD
    refine vy_ret ?_
    exact muRv hx hb hr hlocks () (hw_2) hP hD hS dX4_requireId_7

abbrev rm_X4_requireKind : Room := { frames := 7, cells := 1, slots := 6, locals := 106 }
abbrev q_X4_requireKind (D : va_G) (cI : ClassId) (k : Int32) (A : Nat → Prop) : Array Value → State → Outcome → State → Prop := muQv D (fun (uu : Unit) => inR k 0 9) (fun (uu : Unit) => []) A
abbrev x_X4_requireKind (D : va_G) (cI : ClassId) (k : Int32) (A : Nat → Prop) : String → State → State → Prop := exX D (fun (E : String) (uu : Unit) => E = eA ∧ ¬ inR k 0 9) (fun (uu : Unit) => []) A
set_option maxHeartbeats 8000000 in
set_option maxRecDepth 100000 in
theorem c_X4_requireKind (l : Launch) (hfl : l.stackTraces = false) (D : va_G) (cI : ClassId) (k : Int32) (sz : Nat)  : vy_Met l yX4_requireKind wsX4_requireKind rm_X4_requireKind (exP D (tI cI) [.int k] [] sz) (q_X4_requireKind D cI k (va_A [] sz)) (x_X4_requireKind D cI k (va_A [] sz)) 1 6 (va_A [] sz) := by
  refine vyOf (Qc := fun A => q_X4_requireKind D cI k A) (XC := fun A => x_X4_requireKind D cI k A) (cc := cX4_requireKind) (maxL := 1) (ret := none) (by decide) rfl (Nat.le_of_ble_eq_true rfl) ?_
  intro p e s m below meth c ls A hx hb hml hown hts hr hlocks hte hP hK hZ hD hA hS hX hl
  have hown : s.vm.findClass RX4 = some m.cls := hown
  have hl : lv_has ls 1 [(0, .int k)] := hl
  have hF : CallFix p m c cX4_requireKind 1 s [.int k].toArray wsX4_requireKind RX4 := ⟨hx, hb, hml, hown, hts⟩
  refine lv_iload_n hx hb dX4_requireKind_0 rfl (lv_at hl 0 rfl) ?_
  refine lv_iconst (v := nI 0) hx hb dX4_requireKind_1 (by decide) ?_
  refine lv_bipush (v := nI 9) hx hb dX4_requireKind_2 (by decide) ?_
  refine vyCv (wr := []) (wB := (fun _ => [])) (wBx := (fun _ => [])) (vy_runS (As := [.int k, .int (nI 0), .int (nI 9)]) (rest := []) hF (c_X4_requireRange l hfl D cI k 0 9 s.heap.size ) (va_cwS 3 hts gX4_requireKind_X4_requireRange rfl rfl rfl (by decide +kernel) ⟨Nat.le_of_ble_eq_true rfl, Nat.le_of_ble_eq_true rfl⟩) (exS hK hZ hX hS hA [0] rfl hP hD [] (by decide) rfl) rfl rfl hl.1 rfl (lv_room (Nat.le_of_ble_eq_true rfl)) dX4_requireKind_4 ⟨Nat.le_of_ble_eq_true rfl, Nat.le_of_ble_eq_true rfl⟩) hP hD hS hA [] [] [] rfl rfl (by decide) (by decide) (by decide) (fun _ => rfl) (fun _ => rfl) (fun E ce q9 u_4 H locs hw_2 hP hD hS h7 h8 h9 => ?_) (fun u_3 H locs hw_2 hP hD hS => ?_)
  · skip
    have hP : va_P D vwCl [] H := hP
    have hD : va_D A [] := hD
    exact vy_Wx (vx_widen (k := 1) (n := 6) (Nat.le_of_ble_eq_true rfl) (Nat.le_of_ble_eq_true rfl) (vx_out (fun x hx => (hte x hx).elim) hlocks h7 h8 h9 (fun t ht hW => ⟨(), trivial, ⟨hw_2, by rw [ht]; exact hP, hD⟩, hS.F ht⟩) hS.2.2 (Nat.le_of_ble_eq_true rfl) (Nat.le_of_ble_eq_true rfl)))
  · skip
    have hw_2 : inR k 0 9 := hw_2
    have hP : va_P D vwCl [] H := hP
    have hD : va_D A [] := hD
    refine vy_ret ?_
    exact muRv hx hb hr hlocks () (hw_2) hP hD hS dX4_requireKind_7

abbrev rm_X4_requireDay : Room := { frames := 7, cells := 1, slots := 6, locals := 106 }
abbrev q_X4_requireDay (D : va_G) (cI : ClassId) (k : Int32) (A : Nat → Prop) : Array Value → State → Outcome → State → Prop := muQv D (fun (uu : Unit) => inR k 0 19) (fun (uu : Unit) => []) A
abbrev x_X4_requireDay (D : va_G) (cI : ClassId) (k : Int32) (A : Nat → Prop) : String → State → State → Prop := exX D (fun (E : String) (uu : Unit) => E = eA ∧ ¬ inR k 0 19) (fun (uu : Unit) => []) A
set_option maxHeartbeats 8000000 in
set_option maxRecDepth 100000 in
theorem c_X4_requireDay (l : Launch) (hfl : l.stackTraces = false) (D : va_G) (cI : ClassId) (k : Int32) (sz : Nat)  : vy_Met l yX4_requireDay wsX4_requireDay rm_X4_requireDay (exP D (tI cI) [.int k] [] sz) (q_X4_requireDay D cI k (va_A [] sz)) (x_X4_requireDay D cI k (va_A [] sz)) 1 6 (va_A [] sz) := by
  refine vyOf (Qc := fun A => q_X4_requireDay D cI k A) (XC := fun A => x_X4_requireDay D cI k A) (cc := cX4_requireDay) (maxL := 1) (ret := none) (by decide) rfl (Nat.le_of_ble_eq_true rfl) ?_
  intro p e s m below meth c ls A hx hb hml hown hts hr hlocks hte hP hK hZ hD hA hS hX hl
  have hown : s.vm.findClass RX4 = some m.cls := hown
  have hl : lv_has ls 1 [(0, .int k)] := hl
  have hF : CallFix p m c cX4_requireDay 1 s [.int k].toArray wsX4_requireDay RX4 := ⟨hx, hb, hml, hown, hts⟩
  refine lv_iload_n hx hb dX4_requireDay_0 rfl (lv_at hl 0 rfl) ?_
  refine lv_iconst (v := nI 0) hx hb dX4_requireDay_1 (by decide) ?_
  refine lv_bipush (v := nI 19) hx hb dX4_requireDay_2 (by decide) ?_
  refine vyCv (wr := []) (wB := (fun _ => [])) (wBx := (fun _ => [])) (vy_runS (As := [.int k, .int (nI 0), .int (nI 19)]) (rest := []) hF (c_X4_requireRange l hfl D cI k 0 19 s.heap.size ) (va_cwS 3 hts gX4_requireDay_X4_requireRange rfl rfl rfl (by decide +kernel) ⟨Nat.le_of_ble_eq_true rfl, Nat.le_of_ble_eq_true rfl⟩) (exS hK hZ hX hS hA [0] rfl hP hD [] (by decide) rfl) rfl rfl hl.1 rfl (lv_room (Nat.le_of_ble_eq_true rfl)) dX4_requireDay_4 ⟨Nat.le_of_ble_eq_true rfl, Nat.le_of_ble_eq_true rfl⟩) hP hD hS hA [] [] [] rfl rfl (by decide) (by decide) (by decide) (fun _ => rfl) (fun _ => rfl) (fun E ce q9 u_4 H locs hw_2 hP hD hS h7 h8 h9 => ?_) (fun u_3 H locs hw_2 hP hD hS => ?_)
  · skip
    have hP : va_P D vwCl [] H := hP
    have hD : va_D A [] := hD
    exact vy_Wx (vx_widen (k := 1) (n := 6) (Nat.le_of_ble_eq_true rfl) (Nat.le_of_ble_eq_true rfl) (vx_out (fun x hx => (hte x hx).elim) hlocks h7 h8 h9 (fun t ht hW => ⟨(), trivial, ⟨hw_2, by rw [ht]; exact hP, hD⟩, hS.F ht⟩) hS.2.2 (Nat.le_of_ble_eq_true rfl) (Nat.le_of_ble_eq_true rfl)))
  · skip
    have hw_2 : inR k 0 19 := hw_2
    have hP : va_P D vwCl [] H := hP
    have hD : va_D A [] := hD
    refine vy_ret ?_
    exact muRv hx hb hr hlocks () (hw_2) hP hD hS dX4_requireDay_7

abbrev rm_X4_requireBelow : Room := { frames := 6, cells := 1, slots := 6, locals := 84 }
abbrev q_X4_requireBelow (D : va_G) (cI : ClassId) (k : Int32) (b : Nat) (A : Nat → Prop) : Array Value → State → Outcome → State → Prop := muQv D (fun (uu : Unit) => inB k b) (fun (uu : Unit) => []) A
abbrev x_X4_requireBelow (D : va_G) (cI : ClassId) (k : Int32) (b : Nat) (A : Nat → Prop) : String → State → State → Prop := exX D (fun (E : String) (uu : Unit) => E = eX ∧ ¬ inB k b) (fun (uu : Unit) => []) A
set_option maxHeartbeats 8000000 in
set_option maxRecDepth 100000 in
theorem c_X4_requireBelow (l : Launch) (hfl : l.stackTraces = false) (D : va_G) (cI : ClassId) (k : Int32) (b : Nat) (sz : Nat)  : vy_Met l yX4_requireBelow wsX4_requireBelow rm_X4_requireBelow (exP D (tI cI) [.int k, .int (nI b)] [] sz) (q_X4_requireBelow D cI k b (va_A [] sz)) (x_X4_requireBelow D cI k b (va_A [] sz)) 1 6 (va_A [] sz) := by
  refine vyOf (Qc := fun A => q_X4_requireBelow D cI k b A) (XC := fun A => x_X4_requireBelow D cI k b A) (cc := cX4_requireBelow) (maxL := 2) (ret := none) (by decide) rfl (Nat.le_of_ble_eq_true rfl) ?_
  intro p e s m below meth c ls A hx hb hml hown hts hr hlocks hte hP hK hZ hD hA hS hX hl
  have hown : s.vm.findClass RX4 = some m.cls := hown
  have hl : lv_has ls 2 [(0, .int k), (1, .int (nI b))] := hl
  have hF : CallFix p m c cX4_requireBelow 2 s [.int k, .int (nI b)].toArray wsX4_requireBelow RX4 := ⟨hx, hb, hml, hown, hts⟩
  refine lv_iload_n hx hb dX4_requireBelow_0 rfl (lv_at hl 0 rfl) ?_
  refine lv_if_lt hx hb (tgt := 9) dX4_requireBelow_1 (by decide) (fun b1 => ?_) (fun b1 => ?_)
  · skip
    obtain ⟨tx_1, htx_1⟩ := hZ.2.2.2.2.2.2.1
    exact vy_W (vx_throwS (own := RX4) (cls := "java/lang/IndexOutOfBoundsException") (names := ["java/lang/RuntimeException", "java/lang/Exception"]) hx hb hfl hown (by decide +kernel) (by decide +kernel) (hts (.classLink RX4 166 "java/lang/IndexOutOfBoundsException") (by decide +kernel)) (hts (.initialized "java/lang/IndexOutOfBoundsException") (by decide +kernel)) htx_1 (vx_hat (L := vx_atS RX4 170 "java/lang/IndexOutOfBoundsException" ["java/lang/RuntimeException", "java/lang/Exception"]) (B := [.castable "java/lang/IndexOutOfBoundsException" "java/lang/IndexOutOfBoundsException", .declares ⟨"java/lang/RuntimeException", "<init>", "(Ljava/lang/String;)V"⟩, .declares ⟨"java/lang/Exception", "<init>", "(Ljava/lang/String;)V"⟩, .declares ⟨"java/lang/Throwable", "<init>", "(Ljava/lang/String;)V"⟩]) (fun w hw => hts w ((by decide +kernel : ∀ w ∈ (vx_atS RX4 170 "java/lang/IndexOutOfBoundsException" ["java/lang/RuntimeException", "java/lang/Exception"]).filter goodWord, w ∈ wsX4_requireBelow) w hw)) (by decide +kernel) (vx_c (va_Nw.use rfl hZ.1.2.2) (vx_c (va_Nw.use rfl hZ.2.1.1) (vx_c (va_Nw.use rfl hZ.2.1.2.1) (vx_c (va_Nw.use rfl hZ.2.1.2.2) vx_n))))) (by decide +kernel) hX.1 hX.2 hS (hl.1.trans hml.symm) dX4_requireBelow_9 dX4_requireBelow_12 dX4_requireBelow_13 dX4_requireBelow_15 dX4_requireBelow_18 (fun x hx => (hte x hx).elim) (Nat.le_of_ble_eq_true rfl) (Nat.le_of_ble_eq_true rfl) (Nat.le_of_ble_eq_true rfl) (Nat.le_of_ble_eq_true rfl) hlocks (fun t ha hz hq => ⟨(), trivial, ⟨⟨rfl, by first | exact (fun q => q.1 b1) | exact (fun q => b6 q.2)⟩, hP.kept (fun k q hk => hq _ (hP k q hk).lt), hD⟩, Nat.le_trans hS.1 hz, fun q h1 h2 => (hq q (Nat.lt_of_lt_of_le h1 hS.1)).trans (hS.2.1 q h1 h2)⟩) hS.2.2 (Nat.le_of_ble_eq_true rfl) (Nat.le_of_ble_eq_true rfl))
  · skip
    refine lv_iload_n hx hb dX4_requireBelow_4 rfl (lv_at hl 0 rfl) ?_
    refine lv_iload_n hx hb dX4_requireBelow_5 rfl (lv_at hl 1 rfl) ?_
    refine lv_icmp_lt hx hb (tgt := 19) dX4_requireBelow_6 (by decide) (fun b6 => ?_) (fun b6 => ?_)
    · skip
      refine vy_ret ?_
      exact muRv hx hb hr hlocks () (⟨b1, b6⟩) hP hD hS dX4_requireBelow_19
    · skip
      obtain ⟨tx_2, htx_2⟩ := hZ.2.2.2.2.2.2.1
      exact vy_W (vx_throwS (own := RX4) (cls := "java/lang/IndexOutOfBoundsException") (names := ["java/lang/RuntimeException", "java/lang/Exception"]) hx hb hfl hown (by decide +kernel) (by decide +kernel) (hts (.classLink RX4 166 "java/lang/IndexOutOfBoundsException") (by decide +kernel)) (hts (.initialized "java/lang/IndexOutOfBoundsException") (by decide +kernel)) htx_2 (vx_hat (L := vx_atS RX4 170 "java/lang/IndexOutOfBoundsException" ["java/lang/RuntimeException", "java/lang/Exception"]) (B := [.castable "java/lang/IndexOutOfBoundsException" "java/lang/IndexOutOfBoundsException", .declares ⟨"java/lang/RuntimeException", "<init>", "(Ljava/lang/String;)V"⟩, .declares ⟨"java/lang/Exception", "<init>", "(Ljava/lang/String;)V"⟩, .declares ⟨"java/lang/Throwable", "<init>", "(Ljava/lang/String;)V"⟩]) (fun w hw => hts w ((by decide +kernel : ∀ w ∈ (vx_atS RX4 170 "java/lang/IndexOutOfBoundsException" ["java/lang/RuntimeException", "java/lang/Exception"]).filter goodWord, w ∈ wsX4_requireBelow) w hw)) (by decide +kernel) (vx_c (va_Nw.use rfl hZ.1.2.2) (vx_c (va_Nw.use rfl hZ.2.1.1) (vx_c (va_Nw.use rfl hZ.2.1.2.1) (vx_c (va_Nw.use rfl hZ.2.1.2.2) vx_n))))) (by decide +kernel) hX.1 hX.2 hS (hl.1.trans hml.symm) dX4_requireBelow_9 dX4_requireBelow_12 dX4_requireBelow_13 dX4_requireBelow_15 dX4_requireBelow_18 (fun x hx => (hte x hx).elim) (Nat.le_of_ble_eq_true rfl) (Nat.le_of_ble_eq_true rfl) (Nat.le_of_ble_eq_true rfl) (Nat.le_of_ble_eq_true rfl) hlocks (fun t ha hz hq => ⟨(), trivial, ⟨⟨rfl, by first | exact (fun q => q.1 b1) | exact (fun q => b6 q.2)⟩, hP.kept (fun k q hk => hq _ (hP k q hk).lt), hD⟩, Nat.le_trans hS.1 hz, fun q h1 h2 => (hq q (Nat.lt_of_lt_of_le h1 hS.1)).trans (hS.2.1 q h1 h2)⟩) hS.2.2 (Nat.le_of_ble_eq_true rfl) (Nat.le_of_ble_eq_true rfl))

abbrev rm_X4_timelineOf : Room := { frames := 1, cells := 0, slots := 0, locals := 23 }
abbrev q_X4_timelineOf (D : va_G) (cI : ClassId) (h : Nat) (au : Nat) (al : Nat) (af : Nat) (ad : Nat) (at_ : Nat) (as_ : Nat) (gp : Nat) (us : Nat → Nat) (ai : Nat) (ak : Nat) (am : Nat) (ao : Nat) (ids : Nat → Nat) (kd : Nat → Int32) (tms : Nat → Nat) (ord : Nat → Nat) (n : Nat) (tn : Nat) (tk : Nat) (tt : Nat) (na : Nat → Nat) (ka : Nat → Int32) (ta : Nat → Nat) (tc : Nat) (u : Nat) (A : Nat → Prop) : Array Value → State → Outcome → State → Prop := muQa D at_ (fun (uu : (Nat → Nat) × (Nat → Int32) × (Nat → Nat) × Nat) => match uu with | (na2, ka2, ta2, tc2) => TLok us ids kd tms ord n u na2 ka2 ta2 tc2 ∧ ∀ k, ta2 k < 2000) (fun (uu : (Nat → Nat) × (Nat → Int32) × (Nat → Nat) × Nat) => match uu with | (na2, ka2, ta2, tc2) => [(h, .inr (4, [.ref au, .ref al, .ref af, .ref ad, .ref at_, .ref as_, .int (nI gp)])), (au, .inl (cI, 20, .inl (nF us))), (al, .inr (1, [.ref ai, .ref ak, .ref am, .ref ao, .int (nI n)])), (ai, .inl (cI, 250, .inl (nF ids))), (ak, .inl (cI, 250, .inl kd)), (am, .inl (cI, 250, .inl (nF tms))), (ao, .inl (cI, 250, .inl (nF ord))), (at_, .inr (3, [.ref tn, .ref tk, .ref tt, .int (nI tc2)])), (tn, .inl (cI, 250, .inl (nF na2))), (tk, .inl (cI, 250, .inl ka2)), (tt, .inl (cI, 250, .inl (nF ta2)))]) A
set_option maxHeartbeats 8000000 in
set_option maxRecDepth 100000 in
theorem c_X4_timelineOf (l : Launch) (D : va_G) (cI : ClassId) (h : Nat) (au : Nat) (al : Nat) (af : Nat) (ad : Nat) (at_ : Nat) (as_ : Nat) (gp : Nat) (us : Nat → Nat) (ai : Nat) (ak : Nat) (am : Nat) (ao : Nat) (ids : Nat → Nat) (kd : Nat → Int32) (tms : Nat → Nat) (ord : Nat → Nat) (n : Nat) (tn : Nat) (tk : Nat) (tt : Nat) (na : Nat → Nat) (ka : Nat → Int32) (ta : Nat → Nat) (tc : Nat) (u : Nat) (sz : Nat) (hI : Inv us ids tms ord n) (hta : ∀ k, ta k < 2000) (hu : u < 20) : Met l yX4_timelineOf wsX4_timelineOf rm_X4_timelineOf (muP D (tI cI) [.ref h, .int (nI u)] [(h, .inr (4, [.ref au, .ref al, .ref af, .ref ad, .ref at_, .ref as_, .int (nI gp)])), (au, .inl (cI, 20, .inl (nF us))), (al, .inr (1, [.ref ai, .ref ak, .ref am, .ref ao, .int (nI n)])), (ai, .inl (cI, 250, .inl (nF ids))), (ak, .inl (cI, 250, .inl kd)), (am, .inl (cI, 250, .inl (nF tms))), (ao, .inl (cI, 250, .inl (nF ord))), (at_, .inr (3, [.ref tn, .ref tk, .ref tt, .int (nI tc)])), (tn, .inl (cI, 250, .inl (nF na))), (tk, .inl (cI, 250, .inl ka)), (tt, .inl (cI, 250, .inl (nF ta)))] sz) (q_X4_timelineOf D cI h au al af ad at_ as_ gp us ai ak am ao ids kd tms ord n tn tk tt na ka ta tc u (va_A [(h, .inr (4, [.ref au, .ref al, .ref af, .ref ad, .ref at_, .ref as_, .int (nI gp)])), (au, .inl (cI, 20, .inl (nF us))), (al, .inr (1, [.ref ai, .ref ak, .ref am, .ref ao, .int (nI n)])), (ai, .inl (cI, 250, .inl (nF ids))), (ak, .inl (cI, 250, .inl kd)), (am, .inl (cI, 250, .inl (nF tms))), (ao, .inl (cI, 250, .inl (nF ord))), (at_, .inr (3, [.ref tn, .ref tk, .ref tt, .int (nI tc)])), (tn, .inl (cI, 250, .inl (nF na))), (tk, .inl (cI, 250, .inl ka)), (tt, .inl (cI, 250, .inl (nF ta)))] sz)) 0 0 (va_A [(h, .inr (4, [.ref au, .ref al, .ref af, .ref ad, .ref at_, .ref as_, .int (nI gp)])), (au, .inl (cI, 20, .inl (nF us))), (al, .inr (1, [.ref ai, .ref ak, .ref am, .ref ao, .int (nI n)])), (ai, .inl (cI, 250, .inl (nF ids))), (ak, .inl (cI, 250, .inl kd)), (am, .inl (cI, 250, .inl (nF tms))), (ao, .inl (cI, 250, .inl (nF ord))), (at_, .inr (3, [.ref tn, .ref tk, .ref tt, .int (nI tc)])), (tn, .inl (cI, 250, .inl (nF na))), (tk, .inl (cI, 250, .inl ka)), (tt, .inl (cI, 250, .inl (nF ta)))] sz) := by
  refine muOf (Qc := fun A => q_X4_timelineOf D cI h au al af ad at_ as_ gp us ai ak am ao ids kd tms ord n tn tk tt na ka ta tc u A) (cc := cX4_timelineOf) (maxL := 3) (ret := (some (.object "FunnelFold$Timeline"))) (by decide) rfl (Nat.le_of_ble_eq_true rfl) ?_
  intro p e s m below meth c ls A hx hb hml hown hts hr hlocks hnm hP hK hZ hD hA hS hl
  have hown : s.vm.findClass RX4 = some m.cls := hown
  have hl : lv_has ls 3 [(0, .ref h), (1, .int (nI u))] := hl
  have hF : CallFix p m c cX4_timelineOf 3 s [.ref h, .int (nI u)].toArray wsX4_timelineOf RX4 := ⟨hx, hb, hml, hown, hts⟩
  have hinX4 : ∀ w ∈ wsX40, w ∈ wsX4_timelineOf := by decide +kernel
  have hk37 := hts (.fieldLink RX4 37 "FunnelFold" "timeline" "LFunnelFold$Timeline;") (by decide +kernel)
  have hk16 := hts (.fieldLink RX4 16 "FunnelFold" "log" "LFunnelFold$EventLog;") (by decide +kernel)
  have hk9 := hts (.fieldLink RX4 9 "FunnelFold" "userById" "[I") (by decide +kernel)
  have hn250 := hI.hn
  refine lv_aload_n hx hb dX4_timelineOf_0 rfl (lv_at hl 0 rfl) ?_
  refine va_get (D := D) (ci := 4) (v := .ref at_) (C := RX4) (T := TX4) (N := 7) hx hb hts hinX4 hown hK hP 0 rfl rfl 4 (by decide) hk37 (fun _ h9 => h9) rfl dX4_timelineOf_1 ?_
  refine muCv (wr := [(h, .inr (4, [.ref au, .ref al, .ref af, .ref ad, .ref at_, .ref as_, .int (nI gp)])), (au, .inl (cI, 20, .inl (nF us))), (al, .inr (1, [.ref ai, .ref ak, .ref am, .ref ao, .int (nI n)])), (ai, .inl (cI, 250, .inl (nF ids))), (ak, .inl (cI, 250, .inl kd)), (am, .inl (cI, 250, .inl (nF tms))), (ao, .inl (cI, 250, .inl (nF ord)))]) (wB := (fun _ => [(h, .inr (4, [.ref au, .ref al, .ref af, .ref ad, .ref at_, .ref as_, .int (nI gp)])), (au, .inl (cI, 20, .inl (nF us))), (al, .inr (1, [.ref ai, .ref ak, .ref am, .ref ao, .int (nI n)])), (ai, .inl (cI, 250, .inl (nF ids))), (ak, .inl (cI, 250, .inl kd)), (am, .inl (cI, 250, .inl (nF tms))), (ao, .inl (cI, 250, .inl (nF ord))), (at_, .inr (3, [.ref tn, .ref tk, .ref tt, .int (nI 0)])), (tn, .inl (cI, 250, .inl (nF na))), (tk, .inl (cI, 250, .inl ka)), (tt, .inl (cI, 250, .inl (nF ta)))])) (va_runV (As := []) (rest := []) hF (c_X3_clear l D cI at_ tn tk tt na ka ta tc s.heap.size ) (cwV 0 hts gX4_timelineOf_X3_clear rfl rfl rfl (by decide +kernel) ⟨Nat.le_of_ble_eq_true rfl, Nat.le_of_ble_eq_true rfl⟩) (muV hK hZ [0] rfl hP hD [7, 8, 9, 10] (by decide) rfl 7 (ci := 3) rfl rfl) rfl rfl hl.1 rfl (lv_room (Nat.le_of_ble_eq_true rfl)) dX4_timelineOf_4 ⟨Nat.le_of_ble_eq_true rfl, Nat.le_of_ble_eq_true rfl⟩) hP hD hS hA [7, 8, 9, 10] [0, 1, 2, 3, 4, 5, 6] [0, 1, 2, 3, 4, 5, 6, 7, 8, 9, 10] rfl rfl (by decide) (by decide) (by decide) (fun _ => rfl) (fun u_3 H locs hw_2 hP hD hS => ?_)
  have hP : va_P D vwCl [(h, .inr (4, [.ref au, .ref al, .ref af, .ref ad, .ref at_, .ref as_, .int (nI gp)])), (au, .inl (cI, 20, .inl (nF us))), (al, .inr (1, [.ref ai, .ref ak, .ref am, .ref ao, .int (nI n)])), (ai, .inl (cI, 250, .inl (nF ids))), (ak, .inl (cI, 250, .inl kd)), (am, .inl (cI, 250, .inl (nF tms))), (ao, .inl (cI, 250, .inl (nF ord))), (at_, .inr (3, [.ref tn, .ref tk, .ref tt, .int (nI 0)])), (tn, .inl (cI, 250, .inl (nF na))), (tk, .inl (cI, 250, .inl ka)), (tt, .inl (cI, 250, .inl (nF ta)))] H := hP
  have hD : va_D A [(h, .inr (4, [.ref au, .ref al, .ref af, .ref ad, .ref at_, .ref as_, .int (nI gp)])), (au, .inl (cI, 20, .inl (nF us))), (al, .inr (1, [.ref ai, .ref ak, .ref am, .ref ao, .int (nI n)])), (ai, .inl (cI, 250, .inl (nF ids))), (ak, .inl (cI, 250, .inl kd)), (am, .inl (cI, 250, .inl (nF tms))), (ao, .inl (cI, 250, .inl (nF ord))), (at_, .inr (3, [.ref tn, .ref tk, .ref tt, .int (nI 0)])), (tn, .inl (cI, 250, .inl (nF na))), (tk, .inl (cI, 250, .inl ka)), (tt, .inl (cI, 250, .inl (nF ta)))] := hD
  refine lv_iconst (v := nI 0) hx hb dX4_timelineOf_7 (by decide) ?_
  refine lv_istore_n (lv' := [(2, .int (nI 0)), (0, .ref h), (1, .int (nI u))]) hx hb dX4_timelineOf_8 rfl hl (by decide) rfl (fun ls hl => ?_)
  have key9 : ∀ (fuel : Nat) (j : Nat) (na1 : Nat → Nat) (ka1 : Nat → Int32) (ta1 : Nat → Nat) (tc1 : Nat) (H : Heap) (locs : List Loc) (ls : Array Slot), n - j < fuel → (j ≤ n) → (TLok us ids kd tms ord j u na1 ka1 ta1 tc1) → (∀ k, ta1 k < 2000) → va_P D vwCl [(h, .inr (4, [.ref au, .ref al, .ref af, .ref ad, .ref at_, .ref as_, .int (nI gp)])), (au, .inl (cI, 20, .inl (nF us))), (al, .inr (1, [.ref ai, .ref ak, .ref am, .ref ao, .int (nI n)])), (ai, .inl (cI, 250, .inl (nF ids))), (ak, .inl (cI, 250, .inl kd)), (am, .inl (cI, 250, .inl (nF tms))), (ao, .inl (cI, 250, .inl (nF ord))), (at_, .inr (3, [.ref tn, .ref tk, .ref tt, .int (nI tc1)])), (tn, .inl (cI, 250, .inl (nF na1))), (tk, .inl (cI, 250, .inl ka1)), (tt, .inl (cI, 250, .inl (nF ta1)))] H → va_D A [(h, .inr (4, [.ref au, .ref al, .ref af, .ref ad, .ref at_, .ref as_, .int (nI gp)])), (au, .inl (cI, 20, .inl (nF us))), (al, .inr (1, [.ref ai, .ref ak, .ref am, .ref ao, .int (nI n)])), (ai, .inl (cI, 250, .inl (nF ids))), (ak, .inl (cI, 250, .inl kd)), (am, .inl (cI, 250, .inl (nF tms))), (ao, .inl (cI, 250, .inl (nF ord))), (at_, .inr (3, [.ref tn, .ref tk, .ref tt, .int (nI tc1)])), (tn, .inl (cI, 250, .inl (nF na1))), (tk, .inl (cI, 250, .inl ka1)), (tt, .inl (cI, 250, .inl (nF ta1)))] → va_S A s.heap H locs → lv_has ls 3 [(0, .ref h), (1, .int (nI u)), (2, .int (nI j))] → W p l e rm_X4_timelineOf s m [.ref h, .int (nI u)].toArray below meth c H locs 0 0 (MQ below (q_X4_timelineOf D cI h au al af ad at_ as_ gp us ai ak am ao ids kd tms ord n tn tk tt na ka ta tc u A) [.ref h, .int (nI u)].toArray s 0 0 A) (F0 m 9 ls []) := by
    intro fuel
    induction fuel with
    | zero => intro j na1 ka1 ta1 tc1 H locs ls hfu; exact absurd hfu (Nat.not_lt_zero _)
    | succ fuel ih9 =>
      intro j na1 ka1 ta1 tc1 H locs ls hfu hj hT hta1 hP hD hS hl
      have hle := hT.le
      refine lv_iload_n hx hb dX4_timelineOf_9 rfl (lv_at hl 2 rfl) ?_
      refine lv_aload_n hx hb dX4_timelineOf_10 rfl (lv_at hl 0 rfl) ?_
      refine va_get (D := D) (ci := 4) (v := .ref al) (C := RX4) (T := TX4) (N := 7) hx hb hts hinX4 hown hK hP 0 rfl rfl 1 (by decide) hk16 (fun _ h9 => h9) rfl dX4_timelineOf_11 ?_
      refine roC (va_runV (As := []) (rest := [.int (nI j)]) hF (c_X1_count l D cI al ai ak am ao n ) (cwV 0 hts gX4_timelineOf_X1_count rfl rfl rfl (by decide +kernel) ⟨Nat.le_of_ble_eq_true rfl, Nat.le_of_ble_eq_true rfl⟩) (roV hK hZ [0] rfl hP [2] rfl 2 (ci := 1) rfl rfl) rfl rfl hl.1 rfl (lv_room (Nat.le_of_ble_eq_true rfl)) dX4_timelineOf_14 ⟨Nat.le_of_ble_eq_true rfl, Nat.le_of_ble_eq_true rfl⟩) ?_
      refine f_ge hx hb (by omega) (by omega) (tgt := 74) dX4_timelineOf_17 (by decide) (fun b17 => ?_) (fun b17 => ?_)
      · skip
        refine lv_aload_n hx hb dX4_timelineOf_74 rfl (lv_at hl 0 rfl) ?_
        refine va_get (D := D) (ci := 4) (v := .ref at_) (C := RX4) (T := TX4) (N := 7) hx hb hts hinX4 hown hK hP 0 rfl rfl 4 (by decide) hk37 (fun _ h9 => h9) rfl dX4_timelineOf_75 ?_
        exact muRa hx hb hr hlocks ⟨_, rfl⟩ (na1, ka1, ta1, tc1) (⟨by rw [show n = j by omega]; exact hT, hta1⟩) hP hD hS dX4_timelineOf_78
      · skip
        refine lv_aload_n hx hb dX4_timelineOf_20 rfl (lv_at hl 0 rfl) ?_
        refine va_get (D := D) (ci := 4) (v := .ref au) (C := RX4) (T := TX4) (N := 7) hx hb hts hinX4 hown hK hP 0 rfl rfl 0 (by decide) hk9 (fun _ h9 => h9) rfl dX4_timelineOf_21 ?_
        refine lv_aload_n hx hb dX4_timelineOf_24 rfl (lv_at hl 0 rfl) ?_
        refine va_get (D := D) (ci := 4) (v := .ref al) (C := RX4) (T := TX4) (N := 7) hx hb hts hinX4 hown hK hP 0 rfl rfl 1 (by decide) hk16 (fun _ h9 => h9) rfl dX4_timelineOf_25 ?_
        refine lv_iload_n hx hb dX4_timelineOf_28 rfl (lv_at hl 2 rfl) ?_
        refine roC (va_runV (As := [.int (nI j)]) (rest := [.ref au]) hF (c_X1_idAt l D cI al ai ak am ao ids kd tms ord n j (by first | assumption | omega) (hI.hor _)) (cwV 1 hts gX4_timelineOf_X1_idAt rfl rfl rfl (by decide +kernel) ⟨Nat.le_of_ble_eq_true rfl, Nat.le_of_ble_eq_true rfl⟩) (roV hK hZ [0] rfl hP [2, 3, 4, 5, 6] rfl 2 (ci := 1) rfl rfl) rfl rfl hl.1 rfl (lv_room (Nat.le_of_ble_eq_true rfl)) dX4_timelineOf_29 ⟨Nat.le_of_ble_eq_true rfl, Nat.le_of_ble_eq_true rfl⟩) ?_
        refine f_ald hx hb hK hP 1 0 rfl rfl (hI.hids _) (by decide) dX4_timelineOf_32 ?_
        have hux := hI.hus (ids (ord j))
        refine lv_iload_n hx hb dX4_timelineOf_33 rfl (lv_at hl 1 rfl) ?_
        refine f_ne hx hb (by omega) (by omega) (tgt := 68) dX4_timelineOf_34 (by decide) (fun b34 => ?_) (fun b34 => ?_)
        · skip
          refine lv_iinc (v := nI (j + 1)) (lv' := [(2, .int (nI (j + 1))), (0, .ref h), (1, .int (nI u))]) hx hb dX4_timelineOf_68 hl (k := 2) rfl (ii_1 _) (by decide) rfl (fun ls hl => ?_)
          refine lv_goto (tgt := 9) hx hb dX4_timelineOf_71 (by decide) ?_
          exact ih9 (j + 1) na1 ka1 ta1 tc1 _ _ _ (by omega) (by omega) (TLok_n hT b34) hta1 hP hD hS (lv_sub hl [1, 2, 0] rfl)
        · skip
          refine lv_aload_n hx hb dX4_timelineOf_37 rfl (lv_at hl 0 rfl) ?_
          refine va_get (D := D) (ci := 4) (v := .ref at_) (C := RX4) (T := TX4) (N := 7) hx hb hts hinX4 hown hK hP 0 rfl rfl 4 (by decide) hk37 (fun _ h9 => h9) rfl dX4_timelineOf_38 ?_
          refine lv_aload_n hx hb dX4_timelineOf_41 rfl (lv_at hl 0 rfl) ?_
          refine va_get (D := D) (ci := 4) (v := .ref al) (C := RX4) (T := TX4) (N := 7) hx hb hts hinX4 hown hK hP 0 rfl rfl 1 (by decide) hk16 (fun _ h9 => h9) rfl dX4_timelineOf_42 ?_
          refine lv_iload_n hx hb dX4_timelineOf_45 rfl (lv_at hl 2 rfl) ?_
          refine roC (va_runV (As := [.int (nI j)]) (rest := [.ref at_]) hF (c_X1_numberAt l D cI al ai ak am ao ids kd tms ord n j (by first | assumption | omega)) (cwV 1 hts gX4_timelineOf_X1_numberAt rfl rfl rfl (by decide +kernel) ⟨Nat.le_of_ble_eq_true rfl, Nat.le_of_ble_eq_true rfl⟩) (roV hK hZ [0] rfl hP [2, 3, 4, 5, 6] rfl 2 (ci := 1) rfl rfl) rfl rfl hl.1 rfl (lv_room (Nat.le_of_ble_eq_true rfl)) dX4_timelineOf_46 ⟨Nat.le_of_ble_eq_true rfl, Nat.le_of_ble_eq_true rfl⟩) ?_
          refine lv_aload_n hx hb dX4_timelineOf_49 rfl (lv_at hl 0 rfl) ?_
          refine va_get (D := D) (ci := 4) (v := .ref al) (C := RX4) (T := TX4) (N := 7) hx hb hts hinX4 hown hK hP 0 rfl rfl 1 (by decide) hk16 (fun _ h9 => h9) rfl dX4_timelineOf_50 ?_
          refine lv_iload_n hx hb dX4_timelineOf_53 rfl (lv_at hl 2 rfl) ?_
          refine roC (va_runV (As := [.int (nI j)]) (rest := [.int (nI (ord j)), .ref at_]) hF (c_X1_kindAt l D cI al ai ak am ao ids kd tms ord n j (by first | assumption | omega) (hI.hor _)) (cwV 1 hts gX4_timelineOf_X1_kindAt rfl rfl rfl (by decide +kernel) ⟨Nat.le_of_ble_eq_true rfl, Nat.le_of_ble_eq_true rfl⟩) (roV hK hZ [0] rfl hP [2, 3, 4, 5, 6] rfl 2 (ci := 1) rfl rfl) rfl rfl hl.1 rfl (lv_room (Nat.le_of_ble_eq_true rfl)) dX4_timelineOf_54 ⟨Nat.le_of_ble_eq_true rfl, Nat.le_of_ble_eq_true rfl⟩) ?_
          refine lv_aload_n hx hb dX4_timelineOf_57 rfl (lv_at hl 0 rfl) ?_
          refine va_get (D := D) (ci := 4) (v := .ref al) (C := RX4) (T := TX4) (N := 7) hx hb hts hinX4 hown hK hP 0 rfl rfl 1 (by decide) hk16 (fun _ h9 => h9) rfl dX4_timelineOf_58 ?_
          refine lv_iload_n hx hb dX4_timelineOf_61 rfl (lv_at hl 2 rfl) ?_
          refine roC (va_runV (As := [.int (nI j)]) (rest := [.int (kd (ord j)), .int (nI (ord j)), .ref at_]) hF (c_X1_timeAt l D cI al ai ak am ao ids kd tms ord n j (by first | assumption | omega) (hI.hor _)) (cwV 1 hts gX4_timelineOf_X1_timeAt rfl rfl rfl (by decide +kernel) ⟨Nat.le_of_ble_eq_true rfl, Nat.le_of_ble_eq_true rfl⟩) (roV hK hZ [0] rfl hP [2, 3, 4, 5, 6] rfl 2 (ci := 1) rfl rfl) rfl rfl hl.1 rfl (lv_room (Nat.le_of_ble_eq_true rfl)) dX4_timelineOf_62 ⟨Nat.le_of_ble_eq_true rfl, Nat.le_of_ble_eq_true rfl⟩) ?_
          refine muCv (wr := [(h, .inr (4, [.ref au, .ref al, .ref af, .ref ad, .ref at_, .ref as_, .int (nI gp)])), (au, .inl (cI, 20, .inl (nF us))), (al, .inr (1, [.ref ai, .ref ak, .ref am, .ref ao, .int (nI n)])), (ai, .inl (cI, 250, .inl (nF ids))), (ak, .inl (cI, 250, .inl kd)), (am, .inl (cI, 250, .inl (nF tms))), (ao, .inl (cI, 250, .inl (nF ord)))]) (wB := (fun _ => [(h, .inr (4, [.ref au, .ref al, .ref af, .ref ad, .ref at_, .ref as_, .int (nI gp)])), (au, .inl (cI, 20, .inl (nF us))), (al, .inr (1, [.ref ai, .ref ak, .ref am, .ref ao, .int (nI n)])), (ai, .inl (cI, 250, .inl (nF ids))), (ak, .inl (cI, 250, .inl kd)), (am, .inl (cI, 250, .inl (nF tms))), (ao, .inl (cI, 250, .inl (nF ord))), (at_, .inr (3, [.ref tn, .ref tk, .ref tt, .int (nI (tc1 + 1))])), (tn, .inl (cI, 250, .inl (nF (va_up na1 tc1 (ord j))))), (tk, .inl (cI, 250, .inl (upd ka1 tc1 (kd (ord j))))), (tt, .inl (cI, 250, .inl (nF (va_up ta1 tc1 (tms (ord j))))))])) (va_runV (As := [.int (nI (ord j)), .int (kd (ord j)), .int (nI (tms (ord j)))]) (rest := []) hF (c_X3_append l D cI at_ tn tk tt na1 ka1 ta1 tc1 (ord j) (kd (ord j)) (tms (ord j)) H.size (by first | assumption | omega)) (cwV 3 hts gX4_timelineOf_X3_append rfl rfl rfl (by decide +kernel) ⟨Nat.le_of_ble_eq_true rfl, Nat.le_of_ble_eq_true rfl⟩) (muV hK hZ [0] rfl hP hD [7, 8, 9, 10] (by decide) rfl 7 (ci := 3) rfl rfl) rfl rfl hl.1 rfl (lv_room (Nat.le_of_ble_eq_true rfl)) dX4_timelineOf_65 ⟨Nat.le_of_ble_eq_true rfl, Nat.le_of_ble_eq_true rfl⟩) hP hD hS hA [7, 8, 9, 10] [0, 1, 2, 3, 4, 5, 6] [0, 1, 2, 3, 4, 5, 6, 7, 8, 9, 10] rfl rfl (by decide) (by decide) (by decide) (fun _ => rfl) (fun u_6 H locs hw_5 hP hD hS => ?_)
          have hP : va_P D vwCl [(h, .inr (4, [.ref au, .ref al, .ref af, .ref ad, .ref at_, .ref as_, .int (nI gp)])), (au, .inl (cI, 20, .inl (nF us))), (al, .inr (1, [.ref ai, .ref ak, .ref am, .ref ao, .int (nI n)])), (ai, .inl (cI, 250, .inl (nF ids))), (ak, .inl (cI, 250, .inl kd)), (am, .inl (cI, 250, .inl (nF tms))), (ao, .inl (cI, 250, .inl (nF ord))), (at_, .inr (3, [.ref tn, .ref tk, .ref tt, .int (nI (tc1 + 1))])), (tn, .inl (cI, 250, .inl (nF (va_up na1 tc1 (ord j))))), (tk, .inl (cI, 250, .inl (upd ka1 tc1 (kd (ord j))))), (tt, .inl (cI, 250, .inl (nF (va_up ta1 tc1 (tms (ord j))))))] H := hP
          have hD : va_D A [(h, .inr (4, [.ref au, .ref al, .ref af, .ref ad, .ref at_, .ref as_, .int (nI gp)])), (au, .inl (cI, 20, .inl (nF us))), (al, .inr (1, [.ref ai, .ref ak, .ref am, .ref ao, .int (nI n)])), (ai, .inl (cI, 250, .inl (nF ids))), (ak, .inl (cI, 250, .inl kd)), (am, .inl (cI, 250, .inl (nF tms))), (ao, .inl (cI, 250, .inl (nF ord))), (at_, .inr (3, [.ref tn, .ref tk, .ref tt, .int (nI (tc1 + 1))])), (tn, .inl (cI, 250, .inl (nF (va_up na1 tc1 (ord j))))), (tk, .inl (cI, 250, .inl (upd ka1 tc1 (kd (ord j))))), (tt, .inl (cI, 250, .inl (nF (va_up ta1 tc1 (tms (ord j))))))] := hD
          refine lv_iinc (v := nI (j + 1)) (lv' := [(2, .int (nI (j + 1))), (0, .ref h), (1, .int (nI u))]) hx hb dX4_timelineOf_68 hl (k := 2) rfl (ii_1 _) (by decide) rfl (fun ls hl => ?_)
          refine lv_goto (tgt := 9) hx hb dX4_timelineOf_71 (by decide) ?_
          exact ih9 (j + 1) (va_up na1 tc1 (ord j)) (upd ka1 tc1 (kd (ord j))) (va_up ta1 tc1 (tms (ord j))) (tc1 + 1) _ _ _ (by omega) (by omega) (TLok_y hT b34) (up_lt hta1 (hI.htm _)) hP hD hS (lv_sub hl [1, 2, 0] rfl)
  exact key9 (n - 0 + 1) 0 na ka ta 0 _ _ _ (by omega) (Nat.zero_le _) TLok_0 hta hP hD hS (lv_sub hl [1, 2, 0] rfl)

abbrev rm_X4_firstPlaceOf : Room := { frames := 7, cells := 1, slots := 6, locals := 105 }
abbrev q_X4_firstPlaceOf (D : va_G) (cI : ClassId) (h : Nat) (au : Nat) (al : Nat) (af : Nat) (ad : Nat) (at_ : Nat) (as_ : Nat) (gp : Nat) (tn : Nat) (tk : Nat) (tt : Nat) (na : Nat → Nat) (ka : Nat → Int32) (ta : Nat → Nat) (tc : Nat) (k : Int32) (A : Nat → Prop) : Array Value → State → Outcome → State → Prop := muQi D (fun (r : Int32) (uu : Unit) => sbL (bs ta gp) k tc 0 < tc ∧ r = nI (sbL (bs ta gp) k tc 0)) (fun (uu : Unit) => [(h, .inr (4, [.ref au, .ref al, .ref af, .ref ad, .ref at_, .ref as_, .int (nI gp)])), (at_, .inr (3, [.ref tn, .ref tk, .ref tt, .int (nI tc)])), (tn, .inl (cI, 250, .inl (nF na))), (tk, .inl (cI, 250, .inl ka)), (tt, .inl (cI, 250, .inl (nF ta)))]) A
abbrev x_X4_firstPlaceOf (D : va_G) (cI : ClassId) (h : Nat) (au : Nat) (al : Nat) (af : Nat) (ad : Nat) (at_ : Nat) (as_ : Nat) (gp : Nat) (tn : Nat) (tk : Nat) (tt : Nat) (na : Nat → Nat) (ka : Nat → Int32) (ta : Nat → Nat) (tc : Nat) (k : Int32) (A : Nat → Prop) : String → State → State → Prop := exX D (fun (E : String) (uu : Unit) => E = eX ∧ ¬ sbL (bs ta gp) k tc 0 < tc) (fun (uu : Unit) => [(h, .inr (4, [.ref au, .ref al, .ref af, .ref ad, .ref at_, .ref as_, .int (nI gp)])), (at_, .inr (3, [.ref tn, .ref tk, .ref tt, .int (nI tc)])), (tn, .inl (cI, 250, .inl (nF na))), (tk, .inl (cI, 250, .inl ka)), (tt, .inl (cI, 250, .inl (nF ta)))]) A
set_option maxHeartbeats 8000000 in
set_option maxRecDepth 100000 in
theorem c_X4_firstPlaceOf (l : Launch) (hfl : l.stackTraces = false) (D : va_G) (cI : ClassId) (h : Nat) (au : Nat) (al : Nat) (af : Nat) (ad : Nat) (at_ : Nat) (as_ : Nat) (gp : Nat) (tn : Nat) (tk : Nat) (tt : Nat) (na : Nat → Nat) (ka : Nat → Int32) (ta : Nat → Nat) (tc : Nat) (k : Int32) (sz : Nat) (hc : tc ≤ 250) (hta : ∀ k, ta k < 2000) (hg : gp ≤ 500) : vy_Met l yX4_firstPlaceOf wsX4_firstPlaceOf rm_X4_firstPlaceOf (exP D (tI cI) [.ref h, .int k, .ref at_] [(h, .inr (4, [.ref au, .ref al, .ref af, .ref ad, .ref at_, .ref as_, .int (nI gp)])), (at_, .inr (3, [.ref tn, .ref tk, .ref tt, .int (nI tc)])), (tn, .inl (cI, 250, .inl (nF na))), (tk, .inl (cI, 250, .inl ka)), (tt, .inl (cI, 250, .inl (nF ta)))] sz) (q_X4_firstPlaceOf D cI h au al af ad at_ as_ gp tn tk tt na ka ta tc k (va_A [(h, .inr (4, [.ref au, .ref al, .ref af, .ref ad, .ref at_, .ref as_, .int (nI gp)])), (at_, .inr (3, [.ref tn, .ref tk, .ref tt, .int (nI tc)])), (tn, .inl (cI, 250, .inl (nF na))), (tk, .inl (cI, 250, .inl ka)), (tt, .inl (cI, 250, .inl (nF ta)))] sz)) (x_X4_firstPlaceOf D cI h au al af ad at_ as_ gp tn tk tt na ka ta tc k (va_A [(h, .inr (4, [.ref au, .ref al, .ref af, .ref ad, .ref at_, .ref as_, .int (nI gp)])), (at_, .inr (3, [.ref tn, .ref tk, .ref tt, .int (nI tc)])), (tn, .inl (cI, 250, .inl (nF na))), (tk, .inl (cI, 250, .inl ka)), (tt, .inl (cI, 250, .inl (nF ta)))] sz)) 1 6 (va_A [(h, .inr (4, [.ref au, .ref al, .ref af, .ref ad, .ref at_, .ref as_, .int (nI gp)])), (at_, .inr (3, [.ref tn, .ref tk, .ref tt, .int (nI tc)])), (tn, .inl (cI, 250, .inl (nF na))), (tk, .inl (cI, 250, .inl ka)), (tt, .inl (cI, 250, .inl (nF ta)))] sz) := by
  refine vyOf (Qc := fun A => q_X4_firstPlaceOf D cI h au al af ad at_ as_ gp tn tk tt na ka ta tc k A) (XC := fun A => x_X4_firstPlaceOf D cI h au al af ad at_ as_ gp tn tk tt na ka ta tc k A) (cc := cX4_firstPlaceOf) (maxL := 4) (ret := (some .int)) (by decide) rfl (Nat.le_of_ble_eq_true rfl) ?_
  intro p e s m below meth c ls A hx hb hml hown hts hr hlocks hte hP hK hZ hD hA hS hX hl
  have hown : s.vm.findClass RX4 = some m.cls := hown
  have hl : lv_has ls 4 [(0, .ref h), (1, .int k), (2, .ref at_)] := hl
  have hF : CallFix p m c cX4_firstPlaceOf 4 s [.ref h, .int k, .ref at_].toArray wsX4_firstPlaceOf RX4 := ⟨hx, hb, hml, hown, hts⟩
  have hinX4 : ∀ w ∈ wsX40, w ∈ wsX4_firstPlaceOf := by decide +kernel
  have hk44 := hts (.fieldLink RX4 44 "FunnelFold" "gapMinutes" "I") (by decide +kernel)
  have hsb := sbL_le (bs ta gp) k tc 0
  refine lv_aload_n hx hb dX4_firstPlaceOf_0 rfl (lv_at hl 2 rfl) ?_
  refine lv_iload_n hx hb dX4_firstPlaceOf_1 rfl (lv_at hl 1 rfl) ?_
  refine lv_aload_n hx hb dX4_firstPlaceOf_2 rfl (lv_at hl 0 rfl) ?_
  refine va_get (D := D) (ci := 4) (v := .int (nI gp)) (C := RX4) (T := TX4) (N := 7) hx hb hts hinX4 hown hK hP 0 rfl rfl 6 (by decide) hk44 (fun _ h9 => h9) rfl dX4_firstPlaceOf_3 ?_
  refine roC (va_runV (As := [.int k, .int (nI gp)]) (rest := []) hF (c_X3_sessionBegin l D cI at_ tn tk tt na ka ta tc k gp (by first | assumption | omega) (by first | assumption | omega) (by first | assumption | omega)) (cwV 2 hts gX4_firstPlaceOf_X3_sessionBegin rfl rfl rfl (by decide +kernel) ⟨Nat.le_of_ble_eq_true rfl, Nat.le_of_ble_eq_true rfl⟩) (roV hK hZ [0] rfl hP [1, 2, 3, 4] rfl 1 (ci := 3) rfl rfl) rfl rfl hl.1 rfl (lv_room (Nat.le_of_ble_eq_true rfl)) dX4_firstPlaceOf_6 ⟨Nat.le_of_ble_eq_true rfl, Nat.le_of_ble_eq_true rfl⟩) ?_
  refine lv_istore_n (lv' := [(3, .int (nI (sbL (bs ta gp) k tc 0))), (0, .ref h), (1, .int k), (2, .ref at_)]) hx hb dX4_firstPlaceOf_9 rfl hl (by decide) rfl (fun ls hl => ?_)
  refine lv_iload_n hx hb dX4_firstPlaceOf_10 rfl (lv_at hl 0 rfl) ?_
  refine lv_aload_n hx hb dX4_firstPlaceOf_11 rfl (lv_at hl 3 rfl) ?_
  refine roC (va_runV (As := []) (rest := [.int (nI (sbL (bs ta gp) k tc 0))]) hF (c_X3_count l D cI at_ tn tk tt tc ) (cwV 0 hts gX4_firstPlaceOf_X3_count rfl rfl rfl (by decide +kernel) ⟨Nat.le_of_ble_eq_true rfl, Nat.le_of_ble_eq_true rfl⟩) (roV hK hZ [0] rfl hP [1] rfl 1 (ci := 3) rfl rfl) rfl rfl hl.1 rfl (lv_room (Nat.le_of_ble_eq_true rfl)) dX4_firstPlaceOf_12 ⟨Nat.le_of_ble_eq_true rfl, Nat.le_of_ble_eq_true rfl⟩) ?_
  refine vyCv (wr := [(h, .inr (4, [.ref au, .ref al, .ref af, .ref ad, .ref at_, .ref as_, .int (nI gp)])), (at_, .inr (3, [.ref tn, .ref tk, .ref tt, .int (nI tc)])), (tn, .inl (cI, 250, .inl (nF na))), (tk, .inl (cI, 250, .inl ka)), (tt, .inl (cI, 250, .inl (nF ta)))]) (wB := (fun _ => [(h, .inr (4, [.ref au, .ref al, .ref af, .ref ad, .ref at_, .ref as_, .int (nI gp)])), (at_, .inr (3, [.ref tn, .ref tk, .ref tt, .int (nI tc)])), (tn, .inl (cI, 250, .inl (nF na))), (tk, .inl (cI, 250, .inl ka)), (tt, .inl (cI, 250, .inl (nF ta)))])) (wBx := (fun _ => [(h, .inr (4, [.ref au, .ref al, .ref af, .ref ad, .ref at_, .ref as_, .int (nI gp)])), (at_, .inr (3, [.ref tn, .ref tk, .ref tt, .int (nI tc)])), (tn, .inl (cI, 250, .inl (nF na))), (tk, .inl (cI, 250, .inl ka)), (tt, .inl (cI, 250, .inl (nF ta)))])) (vy_runS (As := [.int (nI (sbL (bs ta gp) k tc 0)), .int (nI tc)]) (rest := []) hF (c_X4_requireBelow l hfl D cI (nI (sbL (bs ta gp) k tc 0)) tc s.heap.size ) (va_cwS 2 hts gX4_firstPlaceOf_X4_requireBelow rfl rfl rfl (by decide +kernel) ⟨Nat.le_of_ble_eq_true rfl, Nat.le_of_ble_eq_true rfl⟩) (exS hK hZ hX hS hA [0] rfl hP hD [] (by decide) rfl) rfl rfl hl.1 rfl (lv_room (Nat.le_of_ble_eq_true rfl)) dX4_firstPlaceOf_15 ⟨Nat.le_of_ble_eq_true rfl, Nat.le_of_ble_eq_true rfl⟩) hP hD hS hA [] [0, 1, 2, 3, 4] [0, 1, 2, 3, 4] rfl rfl (by decide) (by decide) (by decide) (fun _ => rfl) (fun _ => rfl) (fun E ce q9 u_4 H locs hw_2 hP hD hS h7 h8 h9 => ?_) (fun u_3 H locs hw_2 hP hD hS => ?_)
  · skip
    have hP : va_P D vwCl [(h, .inr (4, [.ref au, .ref al, .ref af, .ref ad, .ref at_, .ref as_, .int (nI gp)])), (at_, .inr (3, [.ref tn, .ref tk, .ref tt, .int (nI tc)])), (tn, .inl (cI, 250, .inl (nF na))), (tk, .inl (cI, 250, .inl ka)), (tt, .inl (cI, 250, .inl (nF ta)))] H := hP
    have hD : va_D A [(h, .inr (4, [.ref au, .ref al, .ref af, .ref ad, .ref at_, .ref as_, .int (nI gp)])), (at_, .inr (3, [.ref tn, .ref tk, .ref tt, .int (nI tc)])), (tn, .inl (cI, 250, .inl (nF na))), (tk, .inl (cI, 250, .inl ka)), (tt, .inl (cI, 250, .inl (nF ta)))] := hD
    exact vy_Wx (vx_widen (k := 1) (n := 6) (Nat.le_of_ble_eq_true rfl) (Nat.le_of_ble_eq_true rfl) (vx_out (fun x hx => (hte x hx).elim) hlocks h7 h8 h9 (fun t ht hW => ⟨(), trivial, ⟨⟨hw_2.1, fun q => hw_2.2 ((inB_nI (by omega) (by omega)).mpr q)⟩, by rw [ht]; exact hP, hD⟩, hS.F ht⟩) hS.2.2 (Nat.le_of_ble_eq_true rfl) (Nat.le_of_ble_eq_true rfl)))
  · skip
    have hw_2 : inB (nI (sbL (bs ta gp) k tc 0)) tc := hw_2
    have hP : va_P D vwCl [(h, .inr (4, [.ref au, .ref al, .ref af, .ref ad, .ref at_, .ref as_, .int (nI gp)])), (at_, .inr (3, [.ref tn, .ref tk, .ref tt, .int (nI tc)])), (tn, .inl (cI, 250, .inl (nF na))), (tk, .inl (cI, 250, .inl ka)), (tt, .inl (cI, 250, .inl (nF ta)))] H := hP
    have hD : va_D A [(h, .inr (4, [.ref au, .ref al, .ref af, .ref ad, .ref at_, .ref as_, .int (nI gp)])), (at_, .inr (3, [.ref tn, .ref tk, .ref tt, .int (nI tc)])), (tn, .inl (cI, 250, .inl (nF na))), (tk, .inl (cI, 250, .inl ka)), (tt, .inl (cI, 250, .inl (nF ta)))] := hD
    refine lv_iload_n hx hb dX4_firstPlaceOf_18 rfl (lv_at hl 0 rfl) ?_
    refine vy_ret ?_
    exact muRi hx hb hr hlocks () (⟨(inB_nI (by omega) (by omega)).mp hw_2, rfl⟩) hP hD hS dX4_firstPlaceOf_19

abbrev rm_X4_activeSet : Room := { frames := 1, cells := 0, slots := 0, locals := 21 }
set_option maxHeartbeats 8000000 in
set_option maxRecDepth 100000 in
theorem c_X4_activeSet (l : Launch) (D : va_G) (cI : ClassId) (h : Nat) (au : Nat) (al : Nat) (af : Nat) (ad : Nat) (at_ : Nat) (as_ : Nat) (gp : Nat) (us : Nat → Nat) (ai : Nat) (ak : Nat) (am : Nat) (ao : Nat) (ids : Nat → Nat) (kd : Nat → Int32) (tms : Nat → Nat) (ord : Nat → Nat) (n : Nat) (dy : Nat) (hI : Inv us ids tms ord n) (hdy : dy < 20) : Met l yX4_activeSet wsX4_activeSet rm_X4_activeSet (roP D (tI cI) [.ref h, .int (nI dy)] [(h, .inr (4, [.ref au, .ref al, .ref af, .ref ad, .ref at_, .ref as_, .int (nI gp)])), (au, .inl (cI, 20, .inl (nF us))), (al, .inr (1, [.ref ai, .ref ak, .ref am, .ref ao, .int (nI n)])), (ai, .inl (cI, 250, .inl (nF ids))), (ak, .inl (cI, 250, .inl kd)), (am, .inl (cI, 250, .inl (nF tms))), (ao, .inl (cI, 250, .inl (nF ord)))]) (QcRead (acS us ids tms ord dy n)) 0 0 (fun _ => False) := by
  refine roOf (cc := cX4_activeSet) (maxL := 4) (ret := (some .int)) (by decide) rfl (Nat.le_of_ble_eq_true rfl) ?_
  intro p e s m below meth c ls hx hb hml hown hts hr hlocks hP hK hZ hl
  have hown : s.vm.findClass RX4 = some m.cls := hown
  have hl : lv_has ls 4 [(0, .ref h), (1, .int (nI dy))] := hl
  have hF : CallFix p m c cX4_activeSet 4 s [.ref h, .int (nI dy)].toArray wsX4_activeSet RX4 := ⟨hx, hb, hml, hown, hts⟩
  have hinX4 : ∀ w ∈ wsX40, w ∈ wsX4_activeSet := by decide +kernel
  have hk16 := hts (.fieldLink RX4 16 "FunnelFold" "log" "LFunnelFold$EventLog;") (by decide +kernel)
  have hk9 := hts (.fieldLink RX4 9 "FunnelFold" "userById" "[I") (by decide +kernel)
  have hn250 := hI.hn
  refine lv_iconst (v := nI 0) hx hb dX4_activeSet_0 (by decide) ?_
  refine lv_istore_n (lv' := [(2, .int (nI 0)), (0, .ref h), (1, .int (nI dy))]) hx hb dX4_activeSet_1 rfl hl (by decide) rfl (fun ls hl => ?_)
  refine lv_iconst (v := nI 0) hx hb dX4_activeSet_2 (by decide) ?_
  refine lv_istore_n (lv' := [(3, .int (nI 0)), (2, .int (nI 0)), (0, .ref h), (1, .int (nI dy))]) hx hb dX4_activeSet_3 rfl hl (by decide) rfl (fun ls hl => ?_)
  have key4 : ∀ (fuel : Nat) (j : Nat) (x : Int32) (ls : Array Slot), n - j < fuel → (j ≤ n) → (x = acS us ids tms ord dy j) → lv_has ls 4 [(0, .ref h), (1, .int (nI dy)), (2, .int x), (3, .int (nI j))] → W p l e rm_X4_activeSet s m [.ref h, .int (nI dy)].toArray below meth c s.heap [] 0 0 (MQ below (QcRead (acS us ids tms ord dy n)) [.ref h, .int (nI dy)].toArray s 0 0 (fun _ => False)) (F0 m 4 ls []) := by
    intro fuel
    induction fuel with
    | zero => intro j x ls hfu; exact absurd hfu (Nat.not_lt_zero _)
    | succ fuel ih4 =>
      intro j x ls hfu hj hx2 hl
      refine lv_iload_n hx hb dX4_activeSet_4 rfl (lv_at hl 3 rfl) ?_
      refine lv_aload_n hx hb dX4_activeSet_5 rfl (lv_at hl 0 rfl) ?_
      refine va_get (D := D) (ci := 4) (v := .ref al) (C := RX4) (T := TX4) (N := 7) hx hb hts hinX4 hown hK hP 0 rfl rfl 1 (by decide) hk16 (fun _ h9 => h9) rfl dX4_activeSet_6 ?_
      refine roC (va_runV (As := []) (rest := [.int (nI j)]) hF (c_X1_count l D cI al ai ak am ao n ) (cwV 0 hts gX4_activeSet_X1_count rfl rfl rfl (by decide +kernel) ⟨Nat.le_of_ble_eq_true rfl, Nat.le_of_ble_eq_true rfl⟩) (roV hK hZ [0] rfl hP [2] rfl 2 (ci := 1) rfl rfl) rfl rfl hl.1 rfl (lv_room (Nat.le_of_ble_eq_true rfl)) dX4_activeSet_9 ⟨Nat.le_of_ble_eq_true rfl, Nat.le_of_ble_eq_true rfl⟩) ?_
      refine f_ge hx hb (by omega) (by omega) (tgt := 54) dX4_activeSet_12 (by decide) (fun b12 => ?_) (fun b12 => ?_)
      · skip
        refine lv_iload_n hx hb dX4_activeSet_54 rfl (lv_at hl 2 rfl) ?_
        exact roRi hx hb hr hlocks ((by rw [hx2, show j = n by omega])) dX4_activeSet_55
      · skip
        have htj := hI.htm (ord j)
        refine lv_aload_n hx hb dX4_activeSet_15 rfl (lv_at hl 0 rfl) ?_
        refine va_get (D := D) (ci := 4) (v := .ref al) (C := RX4) (T := TX4) (N := 7) hx hb hts hinX4 hown hK hP 0 rfl rfl 1 (by decide) hk16 (fun _ h9 => h9) rfl dX4_activeSet_16 ?_
        refine lv_iload_n hx hb dX4_activeSet_19 rfl (lv_at hl 3 rfl) ?_
        refine roC (va_runV (As := [.int (nI j)]) (rest := []) hF (c_X1_timeAt l D cI al ai ak am ao ids kd tms ord n j (by first | assumption | omega) (hI.hor _)) (cwV 1 hts gX4_activeSet_X1_timeAt rfl rfl rfl (by decide +kernel) ⟨Nat.le_of_ble_eq_true rfl, Nat.le_of_ble_eq_true rfl⟩) (roV hK hZ [0] rfl hP [2, 3, 4, 5, 6] rfl 2 (ci := 1) rfl rfl) rfl rfl hl.1 rfl (lv_room (Nat.le_of_ble_eq_true rfl)) dX4_activeSet_20 ⟨Nat.le_of_ble_eq_true rfl, Nat.le_of_ble_eq_true rfl⟩) ?_
        refine roC (va_runS (As := [.int (nI (tms (ord j)))]) (rest := []) hF (c_X4_dayOf l (tms (ord j)) (by omega)) (va_cwS 1 hts gX4_activeSet_X4_dayOf rfl rfl rfl (by decide +kernel) ⟨Nat.le_of_ble_eq_true rfl, Nat.le_of_ble_eq_true rfl⟩) preEq rfl rfl hl.1 rfl (lv_room (Nat.le_of_ble_eq_true rfl)) dX4_activeSet_23 ⟨Nat.le_of_ble_eq_true rfl, Nat.le_of_ble_eq_true rfl⟩) ?_
        refine lv_iload_n hx hb dX4_activeSet_26 rfl (lv_at hl 1 rfl) ?_
        refine f_ne hx hb (by omega) (by omega) (tgt := 48) dX4_activeSet_27 (by decide) (fun b27 => ?_) (fun b27 => ?_)
        · skip
          refine lv_iinc (v := nI (j + 1)) (lv' := [(3, .int (nI (j + 1))), (0, .ref h), (1, .int (nI dy)), (2, .int x)]) hx hb dX4_activeSet_48 hl (k := 3) rfl (ii_1 _) (by decide) rfl (fun ls hl => ?_)
          refine lv_goto (tgt := 4) hx hb dX4_activeSet_51 (by decide) ?_
          exact ih4 (j + 1) x _ (by omega) (by omega) (by rw [acS_n b27, hx2]) (lv_sub hl [1, 2, 3, 0] rfl)
        · skip
          refine lv_iload_n hx hb dX4_activeSet_30 rfl (lv_at hl 2 rfl) ?_
          refine lv_iconst (v := nI 1) hx hb dX4_activeSet_31 (by decide) ?_
          refine lv_aload_n hx hb dX4_activeSet_32 rfl (lv_at hl 0 rfl) ?_
          refine va_get (D := D) (ci := 4) (v := .ref au) (C := RX4) (T := TX4) (N := 7) hx hb hts hinX4 hown hK hP 0 rfl rfl 0 (by decide) hk9 (fun _ h9 => h9) rfl dX4_activeSet_33 ?_
          refine lv_aload_n hx hb dX4_activeSet_36 rfl (lv_at hl 0 rfl) ?_
          refine va_get (D := D) (ci := 4) (v := .ref al) (C := RX4) (T := TX4) (N := 7) hx hb hts hinX4 hown hK hP 0 rfl rfl 1 (by decide) hk16 (fun _ h9 => h9) rfl dX4_activeSet_37 ?_
          refine lv_iload_n hx hb dX4_activeSet_40 rfl (lv_at hl 3 rfl) ?_
          refine roC (va_runV (As := [.int (nI j)]) (rest := [.ref au, .int (nI 1), .int x]) hF (c_X1_idAt l D cI al ai ak am ao ids kd tms ord n j (by first | assumption | omega) (hI.hor _)) (cwV 1 hts gX4_activeSet_X1_idAt rfl rfl rfl (by decide +kernel) ⟨Nat.le_of_ble_eq_true rfl, Nat.le_of_ble_eq_true rfl⟩) (roV hK hZ [0] rfl hP [2, 3, 4, 5, 6] rfl 2 (ci := 1) rfl rfl) rfl rfl hl.1 rfl (lv_room (Nat.le_of_ble_eq_true rfl)) dX4_activeSet_41 ⟨Nat.le_of_ble_eq_true rfl, Nat.le_of_ble_eq_true rfl⟩) ?_
          refine f_ald hx hb hK hP 1 0 rfl rfl (hI.hids _) (by decide) dX4_activeSet_44 ?_
          refine lv_ishl hx hb dX4_activeSet_45 ?_
          refine lv_ior hx hb dX4_activeSet_46 ?_
          refine lv_istore_n (lv' := [(2, .int (x ||| ((nI 1) <<< ((nI (us (ids (ord j)))) &&& 31)))), (0, .ref h), (1, .int (nI dy)), (3, .int (nI j))]) hx hb dX4_activeSet_47 rfl hl (by decide) rfl (fun ls hl => ?_)
          refine lv_iinc (v := nI (j + 1)) (lv' := [(3, .int (nI (j + 1))), (2, .int (x ||| ((nI 1) <<< ((nI (us (ids (ord j)))) &&& 31)))), (0, .ref h), (1, .int (nI dy))]) hx hb dX4_activeSet_48 hl (k := 3) rfl (ii_1 _) (by decide) rfl (fun ls hl => ?_)
          refine lv_goto (tgt := 4) hx hb dX4_activeSet_51 (by decide) ?_
          exact ih4 (j + 1) (x ||| ((nI 1) <<< ((nI (us (ids (ord j)))) &&& 31))) _ (by omega) (by omega) (by rw [acS_y b27, hx2]; rfl) (lv_sub hl [2, 3, 1, 0] rfl)
  exact key4 (n - 0 + 1) 0 (nI 0) _ (by omega) (Nat.zero_le _) rfl (lv_sub hl [2, 3, 1, 0] rfl)

abbrev rm_X4_cohortSet : Room := { frames := 1, cells := 0, slots := 0, locals := 21 }
set_option maxHeartbeats 8000000 in
set_option maxRecDepth 100000 in
theorem c_X4_cohortSet (l : Launch) (D : va_G) (cI : ClassId) (h : Nat) (au : Nat) (al : Nat) (af : Nat) (ad : Nat) (at_ : Nat) (as_ : Nat) (gp : Nat) (us : Nat → Nat) (ai : Nat) (ak : Nat) (am : Nat) (ao : Nat) (ids : Nat → Nat) (kd : Nat → Int32) (tms : Nat → Nat) (ord : Nat → Nat) (n : Nat) (dy : Nat) (hI : Inv us ids tms ord n) (hdy : dy < 20) : Met l yX4_cohortSet wsX4_cohortSet rm_X4_cohortSet (roP D (tI cI) [.ref h, .int (nI dy)] [(h, .inr (4, [.ref au, .ref al, .ref af, .ref ad, .ref at_, .ref as_, .int (nI gp)])), (au, .inl (cI, 20, .inl (nF us))), (al, .inr (1, [.ref ai, .ref ak, .ref am, .ref ao, .int (nI n)])), (ai, .inl (cI, 250, .inl (nF ids))), (ak, .inl (cI, 250, .inl kd)), (am, .inl (cI, 250, .inl (nF tms))), (ao, .inl (cI, 250, .inl (nF ord)))]) (QcRead (coS us ids tms ord dy n)) 0 0 (fun _ => False) := by
  refine roOf (cc := cX4_cohortSet) (maxL := 6) (ret := (some .int)) (by decide) rfl (Nat.le_of_ble_eq_true rfl) ?_
  intro p e s m below meth c ls hx hb hml hown hts hr hlocks hP hK hZ hl
  have hown : s.vm.findClass RX4 = some m.cls := hown
  have hl : lv_has ls 6 [(0, .ref h), (1, .int (nI dy))] := hl
  have hF : CallFix p m c cX4_cohortSet 6 s [.ref h, .int (nI dy)].toArray wsX4_cohortSet RX4 := ⟨hx, hb, hml, hown, hts⟩
  have hinX4 : ∀ w ∈ wsX40, w ∈ wsX4_cohortSet := by decide +kernel
  have hk16 := hts (.fieldLink RX4 16 "FunnelFold" "log" "LFunnelFold$EventLog;") (by decide +kernel)
  have hk9 := hts (.fieldLink RX4 9 "FunnelFold" "userById" "[I") (by decide +kernel)
  have hn250 := hI.hn
  refine lv_iconst (v := nI 0) hx hb dX4_cohortSet_0 (by decide) ?_
  refine lv_istore_n (lv' := [(2, .int (nI 0)), (0, .ref h), (1, .int (nI dy))]) hx hb dX4_cohortSet_1 rfl hl (by decide) rfl (fun ls hl => ?_)
  refine lv_iconst (v := nI 0) hx hb dX4_cohortSet_2 (by decide) ?_
  refine lv_istore_n (lv' := [(3, .int (nI 0)), (2, .int (nI 0)), (0, .ref h), (1, .int (nI dy))]) hx hb dX4_cohortSet_3 rfl hl (by decide) rfl (fun ls hl => ?_)
  refine lv_iconst (v := nI 0) hx hb dX4_cohortSet_4 (by decide) ?_
  refine lv_istore (lv' := [(4, .int (nI 0)), (3, .int (nI 0)), (2, .int (nI 0)), (0, .ref h), (1, .int (nI dy))]) hx hb dX4_cohortSet_5 hl (by decide) rfl (fun ls hl => ?_)
  have key7 : ∀ (fuel : Nat) (j : Nat) (x : Int32) (y : Int32) (ls : Array Slot), n - j < fuel → (j ≤ n) → (x = seS us ids ord j) → (y = coS us ids tms ord dy j) → lv_has ls 6 [(0, .ref h), (1, .int (nI dy)), (2, .int x), (3, .int y), (4, .int (nI j))] → W p l e rm_X4_cohortSet s m [.ref h, .int (nI dy)].toArray below meth c s.heap [] 0 0 (MQ below (QcRead (coS us ids tms ord dy n)) [.ref h, .int (nI dy)].toArray s 0 0 (fun _ => False)) (F0 m 7 ls []) := by
    intro fuel
    induction fuel with
    | zero => intro j x y ls hfu; exact absurd hfu (Nat.not_lt_zero _)
    | succ fuel ih7 =>
      intro j x y ls hfu hj hx2 hy2 hl
      refine lv_iload hx hb dX4_cohortSet_7 (lv_at hl 4 rfl) ?_
      refine lv_aload_n hx hb dX4_cohortSet_9 rfl (lv_at hl 0 rfl) ?_
      refine va_get (D := D) (ci := 4) (v := .ref al) (C := RX4) (T := TX4) (N := 7) hx hb hts hinX4 hown hK hP 0 rfl rfl 1 (by decide) hk16 (fun _ h9 => h9) rfl dX4_cohortSet_10 ?_
      refine roC (va_runV (As := []) (rest := [.int (nI j)]) hF (c_X1_count l D cI al ai ak am ao n ) (cwV 0 hts gX4_cohortSet_X1_count rfl rfl rfl (by decide +kernel) ⟨Nat.le_of_ble_eq_true rfl, Nat.le_of_ble_eq_true rfl⟩) (roV hK hZ [0] rfl hP [2] rfl 2 (ci := 1) rfl rfl) rfl rfl hl.1 rfl (lv_room (Nat.le_of_ble_eq_true rfl)) dX4_cohortSet_13 ⟨Nat.le_of_ble_eq_true rfl, Nat.le_of_ble_eq_true rfl⟩) ?_
      refine f_ge hx hb (by omega) (by omega) (tgt := 76) dX4_cohortSet_16 (by decide) (fun b16 => ?_) (fun b16 => ?_)
      · skip
        refine lv_iload_n hx hb dX4_cohortSet_76 rfl (lv_at hl 3 rfl) ?_
        exact roRi hx hb hr hlocks ((by rw [hy2, show j = n by omega])) dX4_cohortSet_77
      · skip
        refine lv_iconst (v := nI 1) hx hb dX4_cohortSet_19 (by decide) ?_
        refine lv_aload_n hx hb dX4_cohortSet_20 rfl (lv_at hl 0 rfl) ?_
        refine va_get (D := D) (ci := 4) (v := .ref au) (C := RX4) (T := TX4) (N := 7) hx hb hts hinX4 hown hK hP 0 rfl rfl 0 (by decide) hk9 (fun _ h9 => h9) rfl dX4_cohortSet_21 ?_
        refine lv_aload_n hx hb dX4_cohortSet_24 rfl (lv_at hl 0 rfl) ?_
        refine va_get (D := D) (ci := 4) (v := .ref al) (C := RX4) (T := TX4) (N := 7) hx hb hts hinX4 hown hK hP 0 rfl rfl 1 (by decide) hk16 (fun _ h9 => h9) rfl dX4_cohortSet_25 ?_
        refine lv_iload hx hb dX4_cohortSet_28 (lv_at hl 4 rfl) ?_
        refine roC (va_runV (As := [.int (nI j)]) (rest := [.ref au, .int (nI 1)]) hF (c_X1_idAt l D cI al ai ak am ao ids kd tms ord n j (by first | assumption | omega) (hI.hor _)) (cwV 1 hts gX4_cohortSet_X1_idAt rfl rfl rfl (by decide +kernel) ⟨Nat.le_of_ble_eq_true rfl, Nat.le_of_ble_eq_true rfl⟩) (roV hK hZ [0] rfl hP [2, 3, 4, 5, 6] rfl 2 (ci := 1) rfl rfl) rfl rfl hl.1 rfl (lv_room (Nat.le_of_ble_eq_true rfl)) dX4_cohortSet_30 ⟨Nat.le_of_ble_eq_true rfl, Nat.le_of_ble_eq_true rfl⟩) ?_
        refine f_ald hx hb hK hP 1 0 rfl rfl (hI.hids _) (by decide) dX4_cohortSet_33 ?_
        refine lv_ishl hx hb dX4_cohortSet_34 ?_
        refine f_to (y := bit1 (us (ids (ord j)))) rfl ?_
        refine lv_istore (lv' := [(5, .int (bit1 (us (ids (ord j))))), (0, .ref h), (1, .int (nI dy)), (2, .int x), (3, .int y), (4, .int (nI j))]) hx hb dX4_cohortSet_35 hl (by decide) rfl (fun ls hl => ?_)
        refine lv_iload_n hx hb dX4_cohortSet_37 rfl (lv_at hl 3 rfl) ?_
        refine lv_iload hx hb dX4_cohortSet_38 (lv_at hl 0 rfl) ?_
        refine lv_iand hx hb dX4_cohortSet_40 ?_
        refine lv_if_ne hx hb (tgt := 65) dX4_cohortSet_41 (by decide) (fun b41 => ?_) (fun b41 => ?_)
        · skip
          refine lv_iload_n hx hb dX4_cohortSet_65 rfl (lv_at hl 3 rfl) ?_
          refine lv_iload hx hb dX4_cohortSet_66 (lv_at hl 0 rfl) ?_
          refine lv_ior hx hb dX4_cohortSet_68 ?_
          refine lv_istore_n (lv' := [(2, .int (x ||| (bit1 (us (ids (ord j)))))), (5, .int (bit1 (us (ids (ord j))))), (0, .ref h), (1, .int (nI dy)), (3, .int y), (4, .int (nI j))]) hx hb dX4_cohortSet_69 rfl hl (by decide) rfl (fun ls hl => ?_)
          refine lv_iinc (v := nI (j + 1)) (lv' := [(4, .int (nI (j + 1))), (2, .int (x ||| (bit1 (us (ids (ord j)))))), (5, .int (bit1 (us (ids (ord j))))), (0, .ref h), (1, .int (nI dy)), (3, .int y)]) hx hb dX4_cohortSet_70 hl (k := 5) rfl (ii_1 _) (by decide) rfl (fun ls hl => ?_)
          refine lv_goto (tgt := 7) hx hb dX4_cohortSet_73 (by decide) ?_
          exact ih7 (j + 1) (x ||| (bit1 (us (ids (ord j))))) y _ (by omega) (by omega) (by rw [hx2]; rfl) (by first | (rw [coS_n1 (by rw [← hx2]; exact b41), hy2]; done) | (rw [coS_n2 b57, hy2]; done)) (lv_sub hl [3, 4, 1, 5, 0] rfl)
        · skip
          have htj := hI.htm (ord j)
          refine lv_aload_n hx hb dX4_cohortSet_44 rfl (lv_at hl 1 rfl) ?_
          refine va_get (D := D) (ci := 4) (v := .ref al) (C := RX4) (T := TX4) (N := 7) hx hb hts hinX4 hown hK hP 0 rfl rfl 1 (by decide) hk16 (fun _ h9 => h9) rfl dX4_cohortSet_45 ?_
          refine lv_iload hx hb dX4_cohortSet_48 (lv_at hl 5 rfl) ?_
          refine roC (va_runV (As := [.int (nI j)]) (rest := []) hF (c_X1_timeAt l D cI al ai ak am ao ids kd tms ord n j (by first | assumption | omega) (hI.hor _)) (cwV 1 hts gX4_cohortSet_X1_timeAt rfl rfl rfl (by decide +kernel) ⟨Nat.le_of_ble_eq_true rfl, Nat.le_of_ble_eq_true rfl⟩) (roV hK hZ [0] rfl hP [2, 3, 4, 5, 6] rfl 2 (ci := 1) rfl rfl) rfl rfl hl.1 rfl (lv_room (Nat.le_of_ble_eq_true rfl)) dX4_cohortSet_50 ⟨Nat.le_of_ble_eq_true rfl, Nat.le_of_ble_eq_true rfl⟩) ?_
          refine roC (va_runS (As := [.int (nI (tms (ord j)))]) (rest := []) hF (c_X4_dayOf l (tms (ord j)) (by first | assumption | omega)) (va_cwS 1 hts gX4_cohortSet_X4_dayOf rfl rfl rfl (by decide +kernel) ⟨Nat.le_of_ble_eq_true rfl, Nat.le_of_ble_eq_true rfl⟩) preEq rfl rfl hl.1 rfl (lv_room (Nat.le_of_ble_eq_true rfl)) dX4_cohortSet_53 ⟨Nat.le_of_ble_eq_true rfl, Nat.le_of_ble_eq_true rfl⟩) ?_
          refine lv_iload_n hx hb dX4_cohortSet_56 rfl (lv_at hl 2 rfl) ?_
          refine f_ne hx hb (by omega) (by omega) (tgt := 65) dX4_cohortSet_57 (by decide) (fun b57 => ?_) (fun b57 => ?_)
          · skip
            refine lv_iload_n hx hb dX4_cohortSet_65 rfl (lv_at hl 3 rfl) ?_
            refine lv_iload hx hb dX4_cohortSet_66 (lv_at hl 0 rfl) ?_
            refine lv_ior hx hb dX4_cohortSet_68 ?_
            refine lv_istore_n (lv' := [(2, .int (x ||| (bit1 (us (ids (ord j)))))), (5, .int (bit1 (us (ids (ord j))))), (0, .ref h), (1, .int (nI dy)), (3, .int y), (4, .int (nI j))]) hx hb dX4_cohortSet_69 rfl hl (by decide) rfl (fun ls hl => ?_)
            refine lv_iinc (v := nI (j + 1)) (lv' := [(4, .int (nI (j + 1))), (2, .int (x ||| (bit1 (us (ids (ord j)))))), (5, .int (bit1 (us (ids (ord j))))), (0, .ref h), (1, .int (nI dy)), (3, .int y)]) hx hb dX4_cohortSet_70 hl (k := 5) rfl (ii_1 _) (by decide) rfl (fun ls hl => ?_)
            refine lv_goto (tgt := 7) hx hb dX4_cohortSet_73 (by decide) ?_
            exact ih7 (j + 1) (x ||| (bit1 (us (ids (ord j))))) y _ (by omega) (by omega) (by rw [hx2]; rfl) (by first | (rw [coS_n1 (by rw [← hx2]; exact b41), hy2]; done) | (rw [coS_n2 b57, hy2]; done)) (lv_sub hl [3, 4, 1, 5, 0] rfl)
          · skip
            refine lv_iload_n hx hb dX4_cohortSet_60 rfl (lv_at hl 4 rfl) ?_
            refine lv_iload hx hb dX4_cohortSet_61 (lv_at hl 0 rfl) ?_
            refine lv_ior hx hb dX4_cohortSet_63 ?_
            refine lv_istore_n (lv' := [(3, .int (y ||| (bit1 (us (ids (ord j)))))), (5, .int (bit1 (us (ids (ord j))))), (0, .ref h), (1, .int (nI dy)), (2, .int x), (4, .int (nI j))]) hx hb dX4_cohortSet_64 rfl hl (by decide) rfl (fun ls hl => ?_)
            refine lv_iload_n hx hb dX4_cohortSet_65 rfl (lv_at hl 4 rfl) ?_
            refine lv_iload hx hb dX4_cohortSet_66 (lv_at hl 1 rfl) ?_
            refine lv_ior hx hb dX4_cohortSet_68 ?_
            refine lv_istore_n (lv' := [(2, .int (x ||| (bit1 (us (ids (ord j)))))), (3, .int (y ||| (bit1 (us (ids (ord j)))))), (5, .int (bit1 (us (ids (ord j))))), (0, .ref h), (1, .int (nI dy)), (4, .int (nI j))]) hx hb dX4_cohortSet_69 rfl hl (by decide) rfl (fun ls hl => ?_)
            refine lv_iinc (v := nI (j + 1)) (lv' := [(4, .int (nI (j + 1))), (2, .int (x ||| (bit1 (us (ids (ord j)))))), (3, .int (y ||| (bit1 (us (ids (ord j)))))), (5, .int (bit1 (us (ids (ord j))))), (0, .ref h), (1, .int (nI dy))]) hx hb dX4_cohortSet_70 hl (k := 5) rfl (ii_1 _) (by decide) rfl (fun ls hl => ?_)
            refine lv_goto (tgt := 7) hx hb dX4_cohortSet_73 (by decide) ?_
            exact ih7 (j + 1) (x ||| (bit1 (us (ids (ord j))))) (y ||| (bit1 (us (ids (ord j))))) _ (by omega) (by omega) (by rw [hx2]; rfl) (by rw [coS_y (by rw [← hx2]; exact b41) b57, hy2]) (lv_sub hl [4, 5, 1, 2, 0] rfl)
  exact key7 (n - 0 + 1) 0 (nI 0) (nI 0) _ (by omega) (Nat.zero_le _) rfl rfl (lv_sub hl [3, 4, 2, 1, 0] rfl)

abbrev rm_X4_users : Room := { frames := 1, cells := 0, slots := 0, locals := 21 }
set_option maxHeartbeats 8000000 in
set_option maxRecDepth 100000 in
theorem c_X4_users (l : Launch) (D : va_G) (cI : ClassId) (h : Nat) (au : Nat) (al : Nat) (af : Nat) (ad : Nat) (at_ : Nat) (as_ : Nat) (gp : Nat) (us : Nat → Nat) (ai : Nat) (ak : Nat) (am : Nat) (ao : Nat) (ids : Nat → Nat) (kd : Nat → Int32) (tms : Nat → Nat) (ord : Nat → Nat) (n : Nat) (hI : Inv us ids tms ord n) : Met l yX4_users wsX4_users rm_X4_users (roP D (tI cI) [.ref h] [(h, .inr (4, [.ref au, .ref al, .ref af, .ref ad, .ref at_, .ref as_, .int (nI gp)])), (au, .inl (cI, 20, .inl (nF us))), (al, .inr (1, [.ref ai, .ref ak, .ref am, .ref ao, .int (nI n)])), (ai, .inl (cI, 250, .inl (nF ids))), (ak, .inl (cI, 250, .inl kd)), (am, .inl (cI, 250, .inl (nF tms))), (ao, .inl (cI, 250, .inl (nF ord)))]) (QcRead (bcJ (seS us ids ord n))) 0 0 (fun _ => False) := by
  refine roOf (cc := cX4_users) (maxL := 3) (ret := (some .int)) (by decide) rfl (Nat.le_of_ble_eq_true rfl) ?_
  intro p e s m below meth c ls hx hb hml hown hts hr hlocks hP hK hZ hl
  have hown : s.vm.findClass RX4 = some m.cls := hown
  have hl : lv_has ls 3 [(0, .ref h)] := hl
  have hF : CallFix p m c cX4_users 3 s [.ref h].toArray wsX4_users RX4 := ⟨hx, hb, hml, hown, hts⟩
  have hinX4 : ∀ w ∈ wsX40, w ∈ wsX4_users := by decide +kernel
  have hk16 := hts (.fieldLink RX4 16 "FunnelFold" "log" "LFunnelFold$EventLog;") (by decide +kernel)
  have hk9 := hts (.fieldLink RX4 9 "FunnelFold" "userById" "[I") (by decide +kernel)
  have hn250 := hI.hn
  refine lv_iconst (v := nI 0) hx hb dX4_users_0 (by decide) ?_
  refine lv_istore_n (lv' := [(1, .int (nI 0)), (0, .ref h)]) hx hb dX4_users_1 rfl hl (by decide) rfl (fun ls hl => ?_)
  refine lv_iconst (v := nI 0) hx hb dX4_users_2 (by decide) ?_
  refine lv_istore_n (lv' := [(2, .int (nI 0)), (1, .int (nI 0)), (0, .ref h)]) hx hb dX4_users_3 rfl hl (by decide) rfl (fun ls hl => ?_)
  have key4 : ∀ (fuel : Nat) (j : Nat) (x : Int32) (ls : Array Slot), n - j < fuel → (j ≤ n) → (x = seS us ids ord j) → lv_has ls 3 [(0, .ref h), (1, .int x), (2, .int (nI j))] → W p l e rm_X4_users s m [.ref h].toArray below meth c s.heap [] 0 0 (MQ below (QcRead (bcJ (seS us ids ord n))) [.ref h].toArray s 0 0 (fun _ => False)) (F0 m 4 ls []) := by
    intro fuel
    induction fuel with
    | zero => intro j x ls hfu; exact absurd hfu (Nat.not_lt_zero _)
    | succ fuel ih4 =>
      intro j x ls hfu hj hx2 hl
      refine lv_iload_n hx hb dX4_users_4 rfl (lv_at hl 2 rfl) ?_
      refine lv_aload_n hx hb dX4_users_5 rfl (lv_at hl 0 rfl) ?_
      refine va_get (D := D) (ci := 4) (v := .ref al) (C := RX4) (T := TX4) (N := 7) hx hb hts hinX4 hown hK hP 0 rfl rfl 1 (by decide) hk16 (fun _ h9 => h9) rfl dX4_users_6 ?_
      refine roC (va_runV (As := []) (rest := [.int (nI j)]) hF (c_X1_count l D cI al ai ak am ao n ) (cwV 0 hts gX4_users_X1_count rfl rfl rfl (by decide +kernel) ⟨Nat.le_of_ble_eq_true rfl, Nat.le_of_ble_eq_true rfl⟩) (roV hK hZ [0] rfl hP [2] rfl 2 (ci := 1) rfl rfl) rfl rfl hl.1 rfl (lv_room (Nat.le_of_ble_eq_true rfl)) dX4_users_9 ⟨Nat.le_of_ble_eq_true rfl, Nat.le_of_ble_eq_true rfl⟩) ?_
      refine f_ge hx hb (by omega) (by omega) (tgt := 39) dX4_users_12 (by decide) (fun b12 => ?_) (fun b12 => ?_)
      · skip
        refine lv_iload_n hx hb dX4_users_39 rfl (lv_at hl 1 rfl) ?_
        refine roC (va_runS (As := [.int x]) (rest := []) hF (c_J6_bitCount_0f7a4 l x ) (va_cwS 1 hts gX4_users_J6_bitCount_0f7a4 rfl rfl rfl (by decide +kernel) ⟨Nat.le_of_ble_eq_true rfl, Nat.le_of_ble_eq_true rfl⟩) preEq rfl rfl hl.1 rfl (lv_room (Nat.le_of_ble_eq_true rfl)) dX4_users_40 ⟨Nat.le_of_ble_eq_true rfl, Nat.le_of_ble_eq_true rfl⟩) ?_
        exact roRi hx hb hr hlocks ((by rw [hx2, show j = n by omega])) dX4_users_43
      · skip
        refine lv_iload_n hx hb dX4_users_15 rfl (lv_at hl 1 rfl) ?_
        refine lv_iconst (v := nI 1) hx hb dX4_users_16 (by decide) ?_
        refine lv_aload_n hx hb dX4_users_17 rfl (lv_at hl 0 rfl) ?_
        refine va_get (D := D) (ci := 4) (v := .ref au) (C := RX4) (T := TX4) (N := 7) hx hb hts hinX4 hown hK hP 0 rfl rfl 0 (by decide) hk9 (fun _ h9 => h9) rfl dX4_users_18 ?_
        refine lv_aload_n hx hb dX4_users_21 rfl (lv_at hl 0 rfl) ?_
        refine va_get (D := D) (ci := 4) (v := .ref al) (C := RX4) (T := TX4) (N := 7) hx hb hts hinX4 hown hK hP 0 rfl rfl 1 (by decide) hk16 (fun _ h9 => h9) rfl dX4_users_22 ?_
        refine lv_iload_n hx hb dX4_users_25 rfl (lv_at hl 2 rfl) ?_
        refine roC (va_runV (As := [.int (nI j)]) (rest := [.ref au, .int (nI 1), .int x]) hF (c_X1_idAt l D cI al ai ak am ao ids kd tms ord n j (by first | assumption | omega) (hI.hor _)) (cwV 1 hts gX4_users_X1_idAt rfl rfl rfl (by decide +kernel) ⟨Nat.le_of_ble_eq_true rfl, Nat.le_of_ble_eq_true rfl⟩) (roV hK hZ [0] rfl hP [2, 3, 4, 5, 6] rfl 2 (ci := 1) rfl rfl) rfl rfl hl.1 rfl (lv_room (Nat.le_of_ble_eq_true rfl)) dX4_users_26 ⟨Nat.le_of_ble_eq_true rfl, Nat.le_of_ble_eq_true rfl⟩) ?_
        refine f_ald hx hb hK hP 1 0 rfl rfl (hI.hids _) (by decide) dX4_users_29 ?_
        refine lv_ishl hx hb dX4_users_30 ?_
        refine lv_ior hx hb dX4_users_31 ?_
        refine lv_istore_n (lv' := [(1, .int (x ||| ((nI 1) <<< ((nI (us (ids (ord j)))) &&& 31)))), (0, .ref h), (2, .int (nI j))]) hx hb dX4_users_32 rfl hl (by decide) rfl (fun ls hl => ?_)
        refine lv_iinc (v := nI (j + 1)) (lv' := [(2, .int (nI (j + 1))), (1, .int (x ||| ((nI 1) <<< ((nI (us (ids (ord j)))) &&& 31)))), (0, .ref h)]) hx hb dX4_users_33 hl (k := 2) rfl (ii_1 _) (by decide) rfl (fun ls hl => ?_)
        refine lv_goto (tgt := 4) hx hb dX4_users_36 (by decide) ?_
        exact ih4 (j + 1) (x ||| ((nI 1) <<< ((nI (us (ids (ord j)))) &&& 31))) _ (by omega) (by omega) (by rw [hx2]; rfl) (lv_sub hl [2, 1, 0] rfl)
  exact key4 (n - 0 + 1) 0 (nI 0) _ (by omega) (Nat.zero_le _) rfl (lv_sub hl [2, 1, 0] rfl)

abbrev rm_X4_events : Room := { frames := 1, cells := 0, slots := 0, locals := 20 }
set_option maxHeartbeats 8000000 in
set_option maxRecDepth 100000 in
theorem c_X4_events (l : Launch) (D : va_G) (cI : ClassId) (h : Nat) (au : Nat) (al : Nat) (af : Nat) (ad : Nat) (at_ : Nat) (as_ : Nat) (gp : Nat) (ai : Nat) (ak : Nat) (am : Nat) (ao : Nat) (n : Nat)  : Met l yX4_events wsX4_events rm_X4_events (roP D (tI cI) [.ref h] [(h, .inr (4, [.ref au, .ref al, .ref af, .ref ad, .ref at_, .ref as_, .int (nI gp)])), (al, .inr (1, [.ref ai, .ref ak, .ref am, .ref ao, .int (nI n)]))]) (QcRead (nI n)) 0 0 (fun _ => False) := by
  refine roOf (cc := cX4_events) (maxL := 1) (ret := (some .int)) (by decide) rfl (Nat.le_of_ble_eq_true rfl) ?_
  intro p e s m below meth c ls hx hb hml hown hts hr hlocks hP hK hZ hl
  have hown : s.vm.findClass RX4 = some m.cls := hown
  have hl : lv_has ls 1 [(0, .ref h)] := hl
  have hF : CallFix p m c cX4_events 1 s [.ref h].toArray wsX4_events RX4 := ⟨hx, hb, hml, hown, hts⟩
  have hinX4 : ∀ w ∈ wsX40, w ∈ wsX4_events := by decide +kernel
  have hk16 := hts (.fieldLink RX4 16 "FunnelFold" "log" "LFunnelFold$EventLog;") (by decide +kernel)
  refine lv_aload_n hx hb dX4_events_0 rfl (lv_at hl 0 rfl) ?_
  refine va_get (D := D) (ci := 4) (v := .ref al) (C := RX4) (T := TX4) (N := 7) hx hb hts hinX4 hown hK hP 0 rfl rfl 1 (by decide) hk16 (fun _ h9 => h9) rfl dX4_events_1 ?_
  refine roC (va_runV (As := []) (rest := []) hF (c_X1_count l D cI al ai ak am ao n ) (cwV 0 hts gX4_events_X1_count rfl rfl rfl (by decide +kernel) ⟨Nat.le_of_ble_eq_true rfl, Nat.le_of_ble_eq_true rfl⟩) (roV hK hZ [0] rfl hP [1] rfl 1 (ci := 1) rfl rfl) rfl rfl hl.1 rfl (lv_room (Nat.le_of_ble_eq_true rfl)) dX4_events_4 ⟨Nat.le_of_ble_eq_true rfl, Nat.le_of_ble_eq_true rfl⟩) ?_
  exact roRi hx hb hr hlocks (rfl) dX4_events_7

abbrev rm_X4_closedDays : Room := { frames := 1, cells := 0, slots := 0, locals := 20 }
set_option maxHeartbeats 8000000 in
set_option maxRecDepth 100000 in
theorem c_X4_closedDays (l : Launch) (D : va_G) (cI : ClassId) (h : Nat) (au : Nat) (al : Nat) (af : Nat) (ad : Nat) (at_ : Nat) (as_ : Nat) (gp : Nat) (da : Nat) (dn : Nat) (db : Nat) (cl : Nat)  : Met l yX4_closedDays wsX4_closedDays rm_X4_closedDays (roP D (tI cI) [.ref h] [(h, .inr (4, [.ref au, .ref al, .ref af, .ref ad, .ref at_, .ref as_, .int (nI gp)])), (ad, .inr (0, [.ref da, .ref dn, .ref db, .int (nI cl)]))]) (QcRead (nI cl)) 0 0 (fun _ => False) := by
  refine roOf (cc := cX4_closedDays) (maxL := 1) (ret := (some .int)) (by decide) rfl (Nat.le_of_ble_eq_true rfl) ?_
  intro p e s m below meth c ls hx hb hml hown hts hr hlocks hP hK hZ hl
  have hown : s.vm.findClass RX4 = some m.cls := hown
  have hl : lv_has ls 1 [(0, .ref h)] := hl
  have hF : CallFix p m c cX4_closedDays 1 s [.ref h].toArray wsX4_closedDays RX4 := ⟨hx, hb, hml, hown, hts⟩
  have hinX4 : ∀ w ∈ wsX40, w ∈ wsX4_closedDays := by decide +kernel
  have hk30 := hts (.fieldLink RX4 30 "FunnelFold" "dayBook" "LFunnelFold$DayBook;") (by decide +kernel)
  refine lv_aload_n hx hb dX4_closedDays_0 rfl (lv_at hl 0 rfl) ?_
  refine va_get (D := D) (ci := 4) (v := .ref ad) (C := RX4) (T := TX4) (N := 7) hx hb hts hinX4 hown hK hP 0 rfl rfl 3 (by decide) hk30 (fun _ h9 => h9) rfl dX4_closedDays_1 ?_
  refine roC (va_runV (As := []) (rest := []) hF (c_X0_closedCount l D cI ad da dn db cl ) (cwV 0 hts gX4_closedDays_X0_closedCount rfl rfl rfl (by decide +kernel) ⟨Nat.le_of_ble_eq_true rfl, Nat.le_of_ble_eq_true rfl⟩) (roV hK hZ [0] rfl hP [1] rfl 1 (ci := 0) rfl rfl) rfl rfl hl.1 rfl (lv_room (Nat.le_of_ble_eq_true rfl)) dX4_closedDays_4 ⟨Nat.le_of_ble_eq_true rfl, Nat.le_of_ble_eq_true rfl⟩) ?_
  exact roRi hx hb hr hlocks (rfl) dX4_closedDays_7

abbrev rm_X4_sessionsBegunOn : Room := { frames := 2, cells := 0, slots := 0, locals := 46 }
abbrev q_X4_sessionsBegunOn (D : va_G) (cI : ClassId) (h : Nat) (au : Nat) (al : Nat) (af : Nat) (ad : Nat) (at_ : Nat) (as_ : Nat) (gp : Nat) (us : Nat → Nat) (ai : Nat) (ak : Nat) (am : Nat) (ao : Nat) (ids : Nat → Nat) (kd : Nat → Int32) (tms : Nat → Nat) (ord : Nat → Nat) (n : Nat) (tn : Nat) (tk : Nat) (tt : Nat) (na : Nat → Nat) (ka : Nat → Int32) (ta : Nat → Nat) (tc : Nat) (dy : Nat) (A : Nat → Prop) : Array Value → State → Outcome → State → Prop := muQi D (fun (r : Int32) (uu : (Nat → Nat) × (Nat → Int32) × (Nat → Nat) × Nat) => match uu with | (na2, ka2, ta2, tc2) => r = nI (fb_sm (fun u => fb_ct (bsd (tau us ids tms ord n u) gp dy) (mm us ids ord n u)) 20) ∧ ∀ k, ta2 k < 2000) (fun (uu : (Nat → Nat) × (Nat → Int32) × (Nat → Nat) × Nat) => match uu with | (na2, ka2, ta2, tc2) => [(h, .inr (4, [.ref au, .ref al, .ref af, .ref ad, .ref at_, .ref as_, .int (nI gp)])), (au, .inl (cI, 20, .inl (nF us))), (al, .inr (1, [.ref ai, .ref ak, .ref am, .ref ao, .int (nI n)])), (ai, .inl (cI, 250, .inl (nF ids))), (ak, .inl (cI, 250, .inl kd)), (am, .inl (cI, 250, .inl (nF tms))), (ao, .inl (cI, 250, .inl (nF ord))), (at_, .inr (3, [.ref tn, .ref tk, .ref tt, .int (nI tc2)])), (tn, .inl (cI, 250, .inl (nF na2))), (tk, .inl (cI, 250, .inl ka2)), (tt, .inl (cI, 250, .inl (nF ta2)))]) A
set_option maxHeartbeats 8000000 in
set_option maxRecDepth 100000 in
theorem c_X4_sessionsBegunOn (l : Launch) (D : va_G) (cI : ClassId) (h : Nat) (au : Nat) (al : Nat) (af : Nat) (ad : Nat) (at_ : Nat) (as_ : Nat) (gp : Nat) (us : Nat → Nat) (ai : Nat) (ak : Nat) (am : Nat) (ao : Nat) (ids : Nat → Nat) (kd : Nat → Int32) (tms : Nat → Nat) (ord : Nat → Nat) (n : Nat) (tn : Nat) (tk : Nat) (tt : Nat) (na : Nat → Nat) (ka : Nat → Int32) (ta : Nat → Nat) (tc : Nat) (dy : Nat) (sz : Nat) (hI : Inv us ids tms ord n) (hta : ∀ k, ta k < 2000) (hg : gp ≤ 500) (hdy : dy < 20) : Met l yX4_sessionsBegunOn wsX4_sessionsBegunOn rm_X4_sessionsBegunOn (muP D (tI cI) [.ref h, .int (nI dy)] [(h, .inr (4, [.ref au, .ref al, .ref af, .ref ad, .ref at_, .ref as_, .int (nI gp)])), (au, .inl (cI, 20, .inl (nF us))), (al, .inr (1, [.ref ai, .ref ak, .ref am, .ref ao, .int (nI n)])), (ai, .inl (cI, 250, .inl (nF ids))), (ak, .inl (cI, 250, .inl kd)), (am, .inl (cI, 250, .inl (nF tms))), (ao, .inl (cI, 250, .inl (nF ord))), (at_, .inr (3, [.ref tn, .ref tk, .ref tt, .int (nI tc)])), (tn, .inl (cI, 250, .inl (nF na))), (tk, .inl (cI, 250, .inl ka)), (tt, .inl (cI, 250, .inl (nF ta)))] sz) (q_X4_sessionsBegunOn D cI h au al af ad at_ as_ gp us ai ak am ao ids kd tms ord n tn tk tt na ka ta tc dy (va_A [(h, .inr (4, [.ref au, .ref al, .ref af, .ref ad, .ref at_, .ref as_, .int (nI gp)])), (au, .inl (cI, 20, .inl (nF us))), (al, .inr (1, [.ref ai, .ref ak, .ref am, .ref ao, .int (nI n)])), (ai, .inl (cI, 250, .inl (nF ids))), (ak, .inl (cI, 250, .inl kd)), (am, .inl (cI, 250, .inl (nF tms))), (ao, .inl (cI, 250, .inl (nF ord))), (at_, .inr (3, [.ref tn, .ref tk, .ref tt, .int (nI tc)])), (tn, .inl (cI, 250, .inl (nF na))), (tk, .inl (cI, 250, .inl ka)), (tt, .inl (cI, 250, .inl (nF ta)))] sz)) 0 0 (va_A [(h, .inr (4, [.ref au, .ref al, .ref af, .ref ad, .ref at_, .ref as_, .int (nI gp)])), (au, .inl (cI, 20, .inl (nF us))), (al, .inr (1, [.ref ai, .ref ak, .ref am, .ref ao, .int (nI n)])), (ai, .inl (cI, 250, .inl (nF ids))), (ak, .inl (cI, 250, .inl kd)), (am, .inl (cI, 250, .inl (nF tms))), (ao, .inl (cI, 250, .inl (nF ord))), (at_, .inr (3, [.ref tn, .ref tk, .ref tt, .int (nI tc)])), (tn, .inl (cI, 250, .inl (nF na))), (tk, .inl (cI, 250, .inl ka)), (tt, .inl (cI, 250, .inl (nF ta)))] sz) := by
  refine muOf (Qc := fun A => q_X4_sessionsBegunOn D cI h au al af ad at_ as_ gp us ai ak am ao ids kd tms ord n tn tk tt na ka ta tc dy A) (cc := cX4_sessionsBegunOn) (maxL := 4) (ret := (some .int)) (by decide) rfl (Nat.le_of_ble_eq_true rfl) ?_
  intro p e s m below meth c ls A hx hb hml hown hts hr hlocks hnm hP hK hZ hD hA hS hl
  have hown : s.vm.findClass RX4 = some m.cls := hown
  have hl : lv_has ls 4 [(0, .ref h), (1, .int (nI dy))] := hl
  have hF : CallFix p m c cX4_sessionsBegunOn 4 s [.ref h, .int (nI dy)].toArray wsX4_sessionsBegunOn RX4 := ⟨hx, hb, hml, hown, hts⟩
  have hinX4 : ∀ w ∈ wsX40, w ∈ wsX4_sessionsBegunOn := by decide +kernel
  have hk44 := hts (.fieldLink RX4 44 "FunnelFold" "gapMinutes" "I") (by decide +kernel)
  have hn250 := hI.hn
  refine lv_iconst (v := nI 0) hx hb dX4_sessionsBegunOn_0 (by decide) ?_
  refine lv_istore_n (lv' := [(2, .int (nI 0)), (0, .ref h), (1, .int (nI dy))]) hx hb dX4_sessionsBegunOn_1 rfl hl (by decide) rfl (fun ls hl => ?_)
  refine lv_iconst (v := nI 0) hx hb dX4_sessionsBegunOn_2 (by decide) ?_
  refine lv_istore_n (lv' := [(3, .int (nI 0)), (2, .int (nI 0)), (0, .ref h), (1, .int (nI dy))]) hx hb dX4_sessionsBegunOn_3 rfl hl (by decide) rfl (fun ls hl => ?_)
  have key4 : ∀ (fuel : Nat) (x : Nat) (w : Nat) (na1 : Nat → Nat) (ka1 : Nat → Int32) (ta1 : Nat → Nat) (tc1 : Nat) (H : Heap) (locs : List Loc) (ls : Array Slot), 20 - x < fuel → (x ≤ 20) → (w = fb_sm (fun u => fb_ct (bsd (tau us ids tms ord n u) gp dy) (mm us ids ord n u)) x) → (∀ k, ta1 k < 2000) → va_P D vwCl [(h, .inr (4, [.ref au, .ref al, .ref af, .ref ad, .ref at_, .ref as_, .int (nI gp)])), (au, .inl (cI, 20, .inl (nF us))), (al, .inr (1, [.ref ai, .ref ak, .ref am, .ref ao, .int (nI n)])), (ai, .inl (cI, 250, .inl (nF ids))), (ak, .inl (cI, 250, .inl kd)), (am, .inl (cI, 250, .inl (nF tms))), (ao, .inl (cI, 250, .inl (nF ord))), (at_, .inr (3, [.ref tn, .ref tk, .ref tt, .int (nI tc1)])), (tn, .inl (cI, 250, .inl (nF na1))), (tk, .inl (cI, 250, .inl ka1)), (tt, .inl (cI, 250, .inl (nF ta1)))] H → va_D A [(h, .inr (4, [.ref au, .ref al, .ref af, .ref ad, .ref at_, .ref as_, .int (nI gp)])), (au, .inl (cI, 20, .inl (nF us))), (al, .inr (1, [.ref ai, .ref ak, .ref am, .ref ao, .int (nI n)])), (ai, .inl (cI, 250, .inl (nF ids))), (ak, .inl (cI, 250, .inl kd)), (am, .inl (cI, 250, .inl (nF tms))), (ao, .inl (cI, 250, .inl (nF ord))), (at_, .inr (3, [.ref tn, .ref tk, .ref tt, .int (nI tc1)])), (tn, .inl (cI, 250, .inl (nF na1))), (tk, .inl (cI, 250, .inl ka1)), (tt, .inl (cI, 250, .inl (nF ta1)))] → va_S A s.heap H locs → lv_has ls 4 [(0, .ref h), (1, .int (nI dy)), (2, .int (nI w)), (3, .int (nI x))] → W p l e rm_X4_sessionsBegunOn s m [.ref h, .int (nI dy)].toArray below meth c H locs 0 0 (MQ below (q_X4_sessionsBegunOn D cI h au al af ad at_ as_ gp us ai ak am ao ids kd tms ord n tn tk tt na ka ta tc dy A) [.ref h, .int (nI dy)].toArray s 0 0 A) (F0 m 4 ls []) := by
    intro fuel
    induction fuel with
    | zero => intro x w na1 ka1 ta1 tc1 H locs ls hfu; exact absurd hfu (Nat.not_lt_zero _)
    | succ fuel ih4 =>
      intro x w na1 ka1 ta1 tc1 H locs ls hfu hx2 hw2 hta1 hP hD hS hl
      refine lv_iload_n hx hb dX4_sessionsBegunOn_4 rfl (lv_at hl 3 rfl) ?_
      refine lv_bipush (v := nI 20) hx hb dX4_sessionsBegunOn_5 (by decide) ?_
      refine f_ge hx hb (by omega) (by omega) (tgt := 32) dX4_sessionsBegunOn_7 (by decide) (fun b7 => ?_) (fun b7 => ?_)
      · skip
        refine lv_iload_n hx hb dX4_sessionsBegunOn_32 rfl (lv_at hl 2 rfl) ?_
        exact muRi hx hb hr hlocks (na1, ka1, ta1, tc1) (⟨by rw [hw2, show x = 20 by omega], hta1⟩) hP hD hS dX4_sessionsBegunOn_33
      · skip
        refine lv_iload_n hx hb dX4_sessionsBegunOn_10 rfl (lv_at hl 2 rfl) ?_
        refine lv_aload_n hx hb dX4_sessionsBegunOn_11 rfl (lv_at hl 0 rfl) ?_
        refine lv_iload_n hx hb dX4_sessionsBegunOn_12 rfl (lv_at hl 3 rfl) ?_
        refine muCa (wr := []) (wB := (fun (uu : (Nat → Nat) × (Nat → Int32) × (Nat → Nat) × Nat) => match uu with | (na2, ka2, ta2, tc2) => [(h, .inr (4, [.ref au, .ref al, .ref af, .ref ad, .ref at_, .ref as_, .int (nI gp)])), (au, .inl (cI, 20, .inl (nF us))), (al, .inr (1, [.ref ai, .ref ak, .ref am, .ref ao, .int (nI n)])), (ai, .inl (cI, 250, .inl (nF ids))), (ak, .inl (cI, 250, .inl kd)), (am, .inl (cI, 250, .inl (nF tms))), (ao, .inl (cI, 250, .inl (nF ord))), (at_, .inr (3, [.ref tn, .ref tk, .ref tt, .int (nI tc2)])), (tn, .inl (cI, 250, .inl (nF na2))), (tk, .inl (cI, 250, .inl ka2)), (tt, .inl (cI, 250, .inl (nF ta2)))])) (va_runV (As := [.int (nI x)]) (rest := [.int (nI w)]) hF (c_X4_timelineOf l D cI h au al af ad at_ as_ gp us ai ak am ao ids kd tms ord n tn tk tt na1 ka1 ta1 tc1 x H.size (by first | assumption | omega) (by first | assumption | omega) (by first | assumption | omega)) (cwV 1 hts gX4_sessionsBegunOn_X4_timelineOf rfl rfl rfl (by decide +kernel) ⟨Nat.le_of_ble_eq_true rfl, Nat.le_of_ble_eq_true rfl⟩) (muV hK hZ [0] rfl hP hD [0, 1, 2, 3, 4, 5, 6, 7, 8, 9, 10] (by decide) rfl 0 (ci := 4) rfl rfl) rfl rfl hl.1 rfl (lv_room (Nat.le_of_ble_eq_true rfl)) dX4_sessionsBegunOn_13 ⟨Nat.le_of_ble_eq_true rfl, Nat.le_of_ble_eq_true rfl⟩) hP hD hS hA [0, 1, 2, 3, 4, 5, 6, 7, 8, 9, 10] [] [0, 1, 2, 3, 4, 5, 6, 7, 8, 9, 10] rfl rfl (by decide) (by decide) (by decide) (fun _ => rfl) (fun u_7 H locs hw_6 hP hD hS => ?_)
        obtain ⟨na2_1, ka2_2, ta2_3, tc2_4⟩ := u_7
        have hw_6 : TLok us ids kd tms ord n x na2_1 ka2_2 ta2_3 tc2_4 ∧ ∀ k, ta2_3 k < 2000 := hw_6
        have hP : va_P D vwCl [(h, .inr (4, [.ref au, .ref al, .ref af, .ref ad, .ref at_, .ref as_, .int (nI gp)])), (au, .inl (cI, 20, .inl (nF us))), (al, .inr (1, [.ref ai, .ref ak, .ref am, .ref ao, .int (nI n)])), (ai, .inl (cI, 250, .inl (nF ids))), (ak, .inl (cI, 250, .inl kd)), (am, .inl (cI, 250, .inl (nF tms))), (ao, .inl (cI, 250, .inl (nF ord))), (at_, .inr (3, [.ref tn, .ref tk, .ref tt, .int (nI tc2_4)])), (tn, .inl (cI, 250, .inl (nF na2_1))), (tk, .inl (cI, 250, .inl ka2_2)), (tt, .inl (cI, 250, .inl (nF ta2_3)))] H := hP
        have hD : va_D A [(h, .inr (4, [.ref au, .ref al, .ref af, .ref ad, .ref at_, .ref as_, .int (nI gp)])), (au, .inl (cI, 20, .inl (nF us))), (al, .inr (1, [.ref ai, .ref ak, .ref am, .ref ao, .int (nI n)])), (ai, .inl (cI, 250, .inl (nF ids))), (ak, .inl (cI, 250, .inl kd)), (am, .inl (cI, 250, .inl (nF tms))), (ao, .inl (cI, 250, .inl (nF ord))), (at_, .inr (3, [.ref tn, .ref tk, .ref tt, .int (nI tc2_4)])), (tn, .inl (cI, 250, .inl (nF na2_1))), (tk, .inl (cI, 250, .inl ka2_2)), (tt, .inl (cI, 250, .inl (nF ta2_3)))] := hD
        have hTL := hw_6.1
        have htaN := hw_6.2
        have htcl := hTL.le
        refine lv_iload_n hx hb dX4_sessionsBegunOn_16 rfl (lv_at hl 1 rfl) ?_
        refine lv_aload_n hx hb dX4_sessionsBegunOn_17 rfl (lv_at hl 0 rfl) ?_
        refine va_get (D := D) (ci := 4) (v := .int (nI gp)) (C := RX4) (T := TX4) (N := 7) hx hb hts hinX4 hown hK hP 0 rfl rfl 6 (by decide) hk44 (fun _ h9 => h9) rfl dX4_sessionsBegunOn_18 ?_
        refine roC (va_runV (As := [.int (nI dy), .int (nI gp)]) (rest := [.int (nI w)]) hF (c_X3_sessionsBegunOn l D cI at_ tn tk tt na2_1 ka2_2 ta2_3 tc2_4 dy gp (by first | assumption | omega) (by first | assumption | omega) (by first | assumption | omega) (by first | assumption | omega)) (cwV 2 hts gX4_sessionsBegunOn_X3_sessionsBegunOn rfl rfl rfl (by decide +kernel) ⟨Nat.le_of_ble_eq_true rfl, Nat.le_of_ble_eq_true rfl⟩) (roV hK hZ [0] rfl hP [7, 8, 9, 10] rfl 7 (ci := 3) rfl rfl) rfl rfl hl.1 rfl (lv_room (Nat.le_of_ble_eq_true rfl)) dX4_sessionsBegunOn_21 ⟨Nat.le_of_ble_eq_true rfl, Nat.le_of_ble_eq_true rfl⟩) ?_
        refine f_add hx hb dX4_sessionsBegunOn_24 ?_
        refine lv_istore_n (lv' := [(2, .int (nI (w + fb_ct (bsd ta2_3 gp dy) tc2_4))), (0, .ref h), (1, .int (nI dy)), (3, .int (nI x))]) hx hb dX4_sessionsBegunOn_25 rfl hl (by decide) rfl (fun ls hl => ?_)
        refine lv_iinc (v := nI (x + 1)) (lv' := [(3, .int (nI (x + 1))), (2, .int (nI (w + fb_ct (bsd ta2_3 gp dy) tc2_4))), (0, .ref h), (1, .int (nI dy))]) hx hb dX4_sessionsBegunOn_26 hl (k := 3) rfl (ii_1 _) (by decide) rfl (fun ls hl => ?_)
        refine lv_goto (tgt := 4) hx hb dX4_sessionsBegunOn_29 (by decide) ?_
        exact ih4 (x + 1) (w + fb_ct (bsd ta2_3 gp dy) tc2_4) na2_1 ka2_2 ta2_3 tc2_4 _ _ _ (by omega) (by omega) (by rw [hw2, hTL.ctd]; rfl) htaN hP hD hS (lv_sub hl [2, 3, 1, 0] rfl)
  exact key4 (20 - 0 + 1) 0 0 na ka ta tc _ _ _ (by omega) (Nat.zero_le _) rfl hta hP hD hS (lv_sub hl [2, 3, 1, 0] rfl)

abbrev rm_X4_scoreOf : Room := { frames := 5, cells := 0, slots := 0, locals := 111 }
abbrev q_X4_scoreOf (D : va_G) (cI : ClassId) (h : Nat) (au : Nat) (al : Nat) (af : Nat) (ad : Nat) (at_ : Nat) (as_ : Nat) (gp : Nat) (us : Nat → Nat) (ai : Nat) (ak : Nat) (am : Nat) (ao : Nat) (ids : Nat → Nat) (kd : Nat → Int32) (tms : Nat → Nat) (ord : Nat → Nat) (n : Nat) (fs : Nat) (fl : Nat) (stp : Nat → Int32) (lat : Nat → Option Nat) (cnt : Nat) (win : Nat) (ps : Nat) (fm : Option Nat) (tn : Nat) (tk : Nat) (tt : Nat) (na : Nat → Nat) (ka : Nat → Int32) (ta : Nat → Nat) (tc : Nat) (u : Nat) (b : Nat) (A : Nat → Prop) : Array Value → State → Outcome → State → Prop := muQi D (fun (r : Int32) (uu : (Nat → Nat) × (Nat → Int32) × (Nat → Nat) × Nat × (Nat → Option Nat) × Nat × (Option Nat)) => match uu with | (na2, ka2, ta2, tc2, lat2, ps2, fm2) => r = oI (scO us ids kd tms ord n stp cnt win gp b u) ∧ ∀ k, ta2 k < 2000) (fun (uu : (Nat → Nat) × (Nat → Int32) × (Nat → Nat) × Nat × (Nat → Option Nat) × Nat × (Option Nat)) => match uu with | (na2, ka2, ta2, tc2, lat2, ps2, fm2) => [(h, .inr (4, [.ref au, .ref al, .ref af, .ref ad, .ref at_, .ref as_, .int (nI gp)])), (au, .inl (cI, 20, .inl (nF us))), (al, .inr (1, [.ref ai, .ref ak, .ref am, .ref ao, .int (nI n)])), (ai, .inl (cI, 250, .inl (nF ids))), (ak, .inl (cI, 250, .inl kd)), (am, .inl (cI, 250, .inl (nF tms))), (ao, .inl (cI, 250, .inl (nF ord))), (af, .inr (2, [.ref fs, .int (nI cnt), .int (nI win), .ref fl, .int (nI ps2), .int (oI fm2)])), (fs, .inl (cI, 6, .inl stp)), (fl, .inl (cI, 6, .inl (oF lat2))), (at_, .inr (3, [.ref tn, .ref tk, .ref tt, .int (nI tc2)])), (tn, .inl (cI, 250, .inl (nF na2))), (tk, .inl (cI, 250, .inl ka2)), (tt, .inl (cI, 250, .inl (nF ta2)))]) A
set_option maxHeartbeats 8000000 in
set_option maxRecDepth 100000 in
theorem c_X4_scoreOf (l : Launch) (D : va_G) (cI : ClassId) (h : Nat) (au : Nat) (al : Nat) (af : Nat) (ad : Nat) (at_ : Nat) (as_ : Nat) (gp : Nat) (us : Nat → Nat) (ai : Nat) (ak : Nat) (am : Nat) (ao : Nat) (ids : Nat → Nat) (kd : Nat → Int32) (tms : Nat → Nat) (ord : Nat → Nat) (n : Nat) (fs : Nat) (fl : Nat) (stp : Nat → Int32) (lat : Nat → Option Nat) (cnt : Nat) (win : Nat) (ps : Nat) (fm : Option Nat) (tn : Nat) (tk : Nat) (tt : Nat) (na : Nat → Nat) (ka : Nat → Int32) (ta : Nat → Nat) (tc : Nat) (u : Nat) (b : Nat) (sz : Nat) (hI : Inv us ids tms ord n) (hta : ∀ k, ta k < 2000) (hg : gp ≤ 500) (hcnt : cnt ≤ 6) (hwin : win < 2000) (hu : u < 20) (hb2 : b ≤ 2) : Met l yX4_scoreOf wsX4_scoreOf rm_X4_scoreOf (muP D (tI cI) [.ref h, .int (nI u), .int (nI b)] [(h, .inr (4, [.ref au, .ref al, .ref af, .ref ad, .ref at_, .ref as_, .int (nI gp)])), (au, .inl (cI, 20, .inl (nF us))), (al, .inr (1, [.ref ai, .ref ak, .ref am, .ref ao, .int (nI n)])), (ai, .inl (cI, 250, .inl (nF ids))), (ak, .inl (cI, 250, .inl kd)), (am, .inl (cI, 250, .inl (nF tms))), (ao, .inl (cI, 250, .inl (nF ord))), (af, .inr (2, [.ref fs, .int (nI cnt), .int (nI win), .ref fl, .int (nI ps), .int (oI fm)])), (fs, .inl (cI, 6, .inl stp)), (fl, .inl (cI, 6, .inl (oF lat))), (at_, .inr (3, [.ref tn, .ref tk, .ref tt, .int (nI tc)])), (tn, .inl (cI, 250, .inl (nF na))), (tk, .inl (cI, 250, .inl ka)), (tt, .inl (cI, 250, .inl (nF ta)))] sz) (q_X4_scoreOf D cI h au al af ad at_ as_ gp us ai ak am ao ids kd tms ord n fs fl stp lat cnt win ps fm tn tk tt na ka ta tc u b (va_A [(h, .inr (4, [.ref au, .ref al, .ref af, .ref ad, .ref at_, .ref as_, .int (nI gp)])), (au, .inl (cI, 20, .inl (nF us))), (al, .inr (1, [.ref ai, .ref ak, .ref am, .ref ao, .int (nI n)])), (ai, .inl (cI, 250, .inl (nF ids))), (ak, .inl (cI, 250, .inl kd)), (am, .inl (cI, 250, .inl (nF tms))), (ao, .inl (cI, 250, .inl (nF ord))), (af, .inr (2, [.ref fs, .int (nI cnt), .int (nI win), .ref fl, .int (nI ps), .int (oI fm)])), (fs, .inl (cI, 6, .inl stp)), (fl, .inl (cI, 6, .inl (oF lat))), (at_, .inr (3, [.ref tn, .ref tk, .ref tt, .int (nI tc)])), (tn, .inl (cI, 250, .inl (nF na))), (tk, .inl (cI, 250, .inl ka)), (tt, .inl (cI, 250, .inl (nF ta)))] sz)) 0 0 (va_A [(h, .inr (4, [.ref au, .ref al, .ref af, .ref ad, .ref at_, .ref as_, .int (nI gp)])), (au, .inl (cI, 20, .inl (nF us))), (al, .inr (1, [.ref ai, .ref ak, .ref am, .ref ao, .int (nI n)])), (ai, .inl (cI, 250, .inl (nF ids))), (ak, .inl (cI, 250, .inl kd)), (am, .inl (cI, 250, .inl (nF tms))), (ao, .inl (cI, 250, .inl (nF ord))), (af, .inr (2, [.ref fs, .int (nI cnt), .int (nI win), .ref fl, .int (nI ps), .int (oI fm)])), (fs, .inl (cI, 6, .inl stp)), (fl, .inl (cI, 6, .inl (oF lat))), (at_, .inr (3, [.ref tn, .ref tk, .ref tt, .int (nI tc)])), (tn, .inl (cI, 250, .inl (nF na))), (tk, .inl (cI, 250, .inl ka)), (tt, .inl (cI, 250, .inl (nF ta)))] sz) := by
  refine muOf (Qc := fun A => q_X4_scoreOf D cI h au al af ad at_ as_ gp us ai ak am ao ids kd tms ord n fs fl stp lat cnt win ps fm tn tk tt na ka ta tc u b A) (cc := cX4_scoreOf) (maxL := 4) (ret := (some .int)) (by decide) rfl (Nat.le_of_ble_eq_true rfl) ?_
  intro p e s m below meth c ls A hx hb hml hown hts hr hlocks hnm hP hK hZ hD hA hS hl
  have hown : s.vm.findClass RX4 = some m.cls := hown
  have hl : lv_has ls 4 [(0, .ref h), (1, .int (nI u)), (2, .int (nI b))] := hl
  have hF : CallFix p m c cX4_scoreOf 4 s [.ref h, .int (nI u), .int (nI b)].toArray wsX4_scoreOf RX4 := ⟨hx, hb, hml, hown, hts⟩
  have hinX4 : ∀ w ∈ wsX40, w ∈ wsX4_scoreOf := by decide +kernel
  have hk23 := hts (.fieldLink RX4 23 "FunnelFold" "funnel" "LFunnelFold$Funnel;") (by decide +kernel)
  have hk44 := hts (.fieldLink RX4 44 "FunnelFold" "gapMinutes" "I") (by decide +kernel)
  have hn250 := hI.hn
  refine lv_aload_n hx hb dX4_scoreOf_0 rfl (lv_at hl 0 rfl) ?_
  refine lv_iload_n hx hb dX4_scoreOf_1 rfl (lv_at hl 1 rfl) ?_
  refine muCa (wr := [(af, .inr (2, [.ref fs, .int (nI cnt), .int (nI win), .ref fl, .int (nI ps), .int (oI fm)])), (fs, .inl (cI, 6, .inl stp)), (fl, .inl (cI, 6, .inl (oF lat)))]) (wB := (fun (uu : (Nat → Nat) × (Nat → Int32) × (Nat → Nat) × Nat) => match uu with | (na2, ka2, ta2, tc2) => [(h, .inr (4, [.ref au, .ref al, .ref af, .ref ad, .ref at_, .ref as_, .int (nI gp)])), (au, .inl (cI, 20, .inl (nF us))), (al, .inr (1, [.ref ai, .ref ak, .ref am, .ref ao, .int (nI n)])), (ai, .inl (cI, 250, .inl (nF ids))), (ak, .inl (cI, 250, .inl kd)), (am, .inl (cI, 250, .inl (nF tms))), (ao, .inl (cI, 250, .inl (nF ord))), (af, .inr (2, [.ref fs, .int (nI cnt), .int (nI win), .ref fl, .int (nI ps), .int (oI fm)])), (fs, .inl (cI, 6, .inl stp)), (fl, .inl (cI, 6, .inl (oF lat))), (at_, .inr (3, [.ref tn, .ref tk, .ref tt, .int (nI tc2)])), (tn, .inl (cI, 250, .inl (nF na2))), (tk, .inl (cI, 250, .inl ka2)), (tt, .inl (cI, 250, .inl (nF ta2)))])) (va_runV (As := [.int (nI u)]) (rest := []) hF (c_X4_timelineOf l D cI h au al af ad at_ as_ gp us ai ak am ao ids kd tms ord n tn tk tt na ka ta tc u s.heap.size (by first | assumption | omega) (by first | assumption | omega) (by first | assumption | omega)) (cwV 1 hts gX4_scoreOf_X4_timelineOf rfl rfl rfl (by decide +kernel) ⟨Nat.le_of_ble_eq_true rfl, Nat.le_of_ble_eq_true rfl⟩) (muV hK hZ [0] rfl hP hD [0, 1, 2, 3, 4, 5, 6, 10, 11, 12, 13] (by decide) rfl 0 (ci := 4) rfl rfl) rfl rfl hl.1 rfl (lv_room (Nat.le_of_ble_eq_true rfl)) dX4_scoreOf_2 ⟨Nat.le_of_ble_eq_true rfl, Nat.le_of_ble_eq_true rfl⟩) hP hD hS hA [0, 1, 2, 3, 4, 5, 6, 10, 11, 12, 13] [7, 8, 9] [3, 4, 5, 6, 7, 8, 9, 0, 1, 2, 10, 11, 12, 13] rfl rfl (by decide) (by decide) (by decide) (fun _ => rfl) (fun u_7 H locs hw_6 hP hD hS => ?_)
  obtain ⟨na2_1, ka2_2, ta2_3, tc2_4⟩ := u_7
  have hw_6 : TLok us ids kd tms ord n u na2_1 ka2_2 ta2_3 tc2_4 ∧ ∀ k, ta2_3 k < 2000 := hw_6
  have hP : va_P D vwCl [(h, .inr (4, [.ref au, .ref al, .ref af, .ref ad, .ref at_, .ref as_, .int (nI gp)])), (au, .inl (cI, 20, .inl (nF us))), (al, .inr (1, [.ref ai, .ref ak, .ref am, .ref ao, .int (nI n)])), (ai, .inl (cI, 250, .inl (nF ids))), (ak, .inl (cI, 250, .inl kd)), (am, .inl (cI, 250, .inl (nF tms))), (ao, .inl (cI, 250, .inl (nF ord))), (af, .inr (2, [.ref fs, .int (nI cnt), .int (nI win), .ref fl, .int (nI ps), .int (oI fm)])), (fs, .inl (cI, 6, .inl stp)), (fl, .inl (cI, 6, .inl (oF lat))), (at_, .inr (3, [.ref tn, .ref tk, .ref tt, .int (nI tc2_4)])), (tn, .inl (cI, 250, .inl (nF na2_1))), (tk, .inl (cI, 250, .inl ka2_2)), (tt, .inl (cI, 250, .inl (nF ta2_3)))] H := hP
  have hD : va_D A [(h, .inr (4, [.ref au, .ref al, .ref af, .ref ad, .ref at_, .ref as_, .int (nI gp)])), (au, .inl (cI, 20, .inl (nF us))), (al, .inr (1, [.ref ai, .ref ak, .ref am, .ref ao, .int (nI n)])), (ai, .inl (cI, 250, .inl (nF ids))), (ak, .inl (cI, 250, .inl kd)), (am, .inl (cI, 250, .inl (nF tms))), (ao, .inl (cI, 250, .inl (nF ord))), (af, .inr (2, [.ref fs, .int (nI cnt), .int (nI win), .ref fl, .int (nI ps), .int (oI fm)])), (fs, .inl (cI, 6, .inl stp)), (fl, .inl (cI, 6, .inl (oF lat))), (at_, .inr (3, [.ref tn, .ref tk, .ref tt, .int (nI tc2_4)])), (tn, .inl (cI, 250, .inl (nF na2_1))), (tk, .inl (cI, 250, .inl ka2_2)), (tt, .inl (cI, 250, .inl (nF ta2_3)))] := hD
  have hTL := hw_6.1
  have htaN := hw_6.2
  have htcl := hTL.le
  refine lv_astore_n (lv' := [(3, .ref at_), (0, .ref h), (1, .int (nI u)), (2, .int (nI b))]) hx hb dX4_scoreOf_5 rfl hl (by decide) rfl (fun ls hl => ?_)
  refine lv_aload_n hx hb dX4_scoreOf_6 rfl (lv_at hl 0 rfl) ?_
  refine roC (va_runV (As := []) (rest := []) hF (c_X3_count l D cI at_ tn tk tt tc2_4 ) (cwV 0 hts gX4_scoreOf_X3_count rfl rfl rfl (by decide +kernel) ⟨Nat.le_of_ble_eq_true rfl, Nat.le_of_ble_eq_true rfl⟩) (roV hK hZ [0] rfl hP [10] rfl 10 (ci := 3) rfl rfl) rfl rfl hl.1 rfl (lv_room (Nat.le_of_ble_eq_true rfl)) dX4_scoreOf_7 ⟨Nat.le_of_ble_eq_true rfl, Nat.le_of_ble_eq_true rfl⟩) ?_
  refine f_zne hx hb (by omega) (tgt := 15) dX4_scoreOf_10 (by decide) (fun b10 => ?_) (fun b10 => ?_)
  · skip
    refine lv_iload_n hx hb dX4_scoreOf_15 rfl (lv_at hl 3 rfl) ?_
    refine f_zne hx hb (by omega) (tgt := 24) dX4_scoreOf_16 (by decide) (fun b16 => ?_) (fun b16 => ?_)
    · skip
      refine lv_iload_n hx hb dX4_scoreOf_24 rfl (lv_at hl 3 rfl) ?_
      refine lv_iconst (v := nI 1) hx hb dX4_scoreOf_25 (by decide) ?_
      refine f_ne hx hb (by omega) (by omega) (tgt := 40) dX4_scoreOf_26 (by decide) (fun b26 => ?_) (fun b26 => ?_)
      · skip
        refine lv_aload_n hx hb dX4_scoreOf_40 rfl (lv_at hl 1 rfl) ?_
        refine va_get (D := D) (ci := 4) (v := .ref af) (C := RX4) (T := TX4) (N := 7) hx hb hts hinX4 hown hK hP 0 rfl rfl 2 (by decide) hk23 (fun _ h9 => h9) rfl dX4_scoreOf_41 ?_
        refine lv_aload_n hx hb dX4_scoreOf_44 rfl (lv_at hl 0 rfl) ?_
        refine muCi (wr := [(h, .inr (4, [.ref au, .ref al, .ref af, .ref ad, .ref at_, .ref as_, .int (nI gp)])), (au, .inl (cI, 20, .inl (nF us))), (al, .inr (1, [.ref ai, .ref ak, .ref am, .ref ao, .int (nI n)])), (ai, .inl (cI, 250, .inl (nF ids))), (ak, .inl (cI, 250, .inl kd)), (am, .inl (cI, 250, .inl (nF tms))), (ao, .inl (cI, 250, .inl (nF ord)))]) (wB := (fun (uu : (Nat → Option Nat) × Nat × (Option Nat)) => match uu with | (lat2, ps2, fm2) => [(h, .inr (4, [.ref au, .ref al, .ref af, .ref ad, .ref at_, .ref as_, .int (nI gp)])), (au, .inl (cI, 20, .inl (nF us))), (al, .inr (1, [.ref ai, .ref ak, .ref am, .ref ao, .int (nI n)])), (ai, .inl (cI, 250, .inl (nF ids))), (ak, .inl (cI, 250, .inl kd)), (am, .inl (cI, 250, .inl (nF tms))), (ao, .inl (cI, 250, .inl (nF ord))), (af, .inr (2, [.ref fs, .int (nI cnt), .int (nI win), .ref fl, .int (nI ps2), .int (oI fm2)])), (fs, .inl (cI, 6, .inl stp)), (fl, .inl (cI, 6, .inl (oF lat2))), (at_, .inr (3, [.ref tn, .ref tk, .ref tt, .int (nI tc2_4)])), (tn, .inl (cI, 250, .inl (nF na2_1))), (tk, .inl (cI, 250, .inl ka2_2)), (tt, .inl (cI, 250, .inl (nF ta2_3)))])) (va_runV (As := [.ref at_]) (rest := []) hF (c_X2_depthOf l D cI af fs fl stp lat cnt win ps fm at_ tn tk tt na2_1 ka2_2 ta2_3 tc2_4 H.size (by first | assumption | omega) (by first | assumption | omega) (by first | assumption | omega) (by first | assumption | omega) (hTL.so hI)) (cwV 1 hts gX4_scoreOf_X2_depthOf rfl rfl rfl (by decide +kernel) ⟨Nat.le_of_ble_eq_true rfl, Nat.le_of_ble_eq_true rfl⟩) (muV hK hZ [0] rfl hP hD [7, 8, 9, 10, 11, 12, 13] (by decide) rfl 7 (ci := 2) rfl rfl) rfl rfl hl.1 rfl (lv_room (Nat.le_of_ble_eq_true rfl)) dX4_scoreOf_45 ⟨Nat.le_of_ble_eq_true rfl, Nat.le_of_ble_eq_true rfl⟩) hP hD hS hA [7, 8, 9, 10, 11, 12, 13] [0, 1, 2, 3, 4, 5, 6] [0, 1, 2, 3, 4, 5, 6, 7, 8, 9, 10, 11, 12, 13] rfl rfl (by decide) (by decide) (by decide) (fun _ => rfl) (fun r_11 u_13 H locs hw_12 hP hD hS => ?_)
        obtain ⟨lat2_8, ps2_9, fm2_10⟩ := u_13
        have hw_12 : r_11 = nI ((folL stp cnt win ka2_2 ta2_3 tc2_4).2.1) := hw_12
        have hP : va_P D vwCl [(h, .inr (4, [.ref au, .ref al, .ref af, .ref ad, .ref at_, .ref as_, .int (nI gp)])), (au, .inl (cI, 20, .inl (nF us))), (al, .inr (1, [.ref ai, .ref ak, .ref am, .ref ao, .int (nI n)])), (ai, .inl (cI, 250, .inl (nF ids))), (ak, .inl (cI, 250, .inl kd)), (am, .inl (cI, 250, .inl (nF tms))), (ao, .inl (cI, 250, .inl (nF ord))), (af, .inr (2, [.ref fs, .int (nI cnt), .int (nI win), .ref fl, .int (nI ps2_9), .int (oI fm2_10)])), (fs, .inl (cI, 6, .inl stp)), (fl, .inl (cI, 6, .inl (oF lat2_8))), (at_, .inr (3, [.ref tn, .ref tk, .ref tt, .int (nI tc2_4)])), (tn, .inl (cI, 250, .inl (nF na2_1))), (tk, .inl (cI, 250, .inl ka2_2)), (tt, .inl (cI, 250, .inl (nF ta2_3)))] H := hP
        have hD : va_D A [(h, .inr (4, [.ref au, .ref al, .ref af, .ref ad, .ref at_, .ref as_, .int (nI gp)])), (au, .inl (cI, 20, .inl (nF us))), (al, .inr (1, [.ref ai, .ref ak, .ref am, .ref ao, .int (nI n)])), (ai, .inl (cI, 250, .inl (nF ids))), (ak, .inl (cI, 250, .inl kd)), (am, .inl (cI, 250, .inl (nF tms))), (ao, .inl (cI, 250, .inl (nF ord))), (af, .inr (2, [.ref fs, .int (nI cnt), .int (nI win), .ref fl, .int (nI ps2_9), .int (oI fm2_10)])), (fs, .inl (cI, 6, .inl stp)), (fl, .inl (cI, 6, .inl (oF lat2_8))), (at_, .inr (3, [.ref tn, .ref tk, .ref tt, .int (nI tc2_4)])), (tn, .inl (cI, 250, .inl (nF na2_1))), (tk, .inl (cI, 250, .inl ka2_2)), (tt, .inl (cI, 250, .inl (nF ta2_3)))] := hD
        refine f_to (y := nI ((folL stp cnt win ka2_2 ta2_3 tc2_4).2.1)) hw_12 ?_
        exact muRi hx hb hr hlocks (na2_1, ka2_2, ta2_3, tc2_4, lat2_8, ps2_9, fm2_10) (⟨by first | exact (scO_0 hTL b10).symm | exact (scO_1 hTL b10 b16).symm | exact (scO_2 hTL b10 b26).symm | (rw [hTL.fol]; exact (scO_3 hTL b10 b16 b26).symm), htaN⟩) hP hD hS dX4_scoreOf_48
      · skip
        refine lv_aload_n hx hb dX4_scoreOf_29 rfl (lv_at hl 0 rfl) ?_
        refine lv_aload_n hx hb dX4_scoreOf_30 rfl (lv_at hl 1 rfl) ?_
        refine va_get (D := D) (ci := 4) (v := .int (nI gp)) (C := RX4) (T := TX4) (N := 7) hx hb hts hinX4 hown hK hP 0 rfl rfl 6 (by decide) hk44 (fun _ h9 => h9) rfl dX4_scoreOf_31 ?_
        refine roC (va_runV (As := [.int (nI gp)]) (rest := []) hF (c_X3_sessionCount l D cI at_ tn tk tt na2_1 ka2_2 ta2_3 tc2_4 gp (by first | assumption | omega) (by first | assumption | omega) (by first | assumption | omega)) (cwV 1 hts gX4_scoreOf_X3_sessionCount rfl rfl rfl (by decide +kernel) ⟨Nat.le_of_ble_eq_true rfl, Nat.le_of_ble_eq_true rfl⟩) (roV hK hZ [0] rfl hP [10, 11, 12, 13] rfl 10 (ci := 3) rfl rfl) rfl rfl hl.1 rfl (lv_room (Nat.le_of_ble_eq_true rfl)) dX4_scoreOf_34 ⟨Nat.le_of_ble_eq_true rfl, Nat.le_of_ble_eq_true rfl⟩) ?_
        refine lv_goto (tgt := 48) hx hb dX4_scoreOf_37 (by decide) ?_
        exact muRi hx hb hr hlocks (na2_1, ka2_2, ta2_3, tc2_4, lat, ps, fm) (⟨by first | exact (scO_0 hTL b10).symm | exact (scO_1 hTL b10 b16).symm | exact (scO_2 hTL b10 b26).symm | (rw [hTL.fol]; exact (scO_3 hTL b10 b16 b26).symm), htaN⟩) hP hD hS dX4_scoreOf_48
    · skip
      refine lv_aload_n hx hb dX4_scoreOf_19 rfl (lv_at hl 0 rfl) ?_
      refine roC (va_runV (As := []) (rest := []) hF (c_X3_count l D cI at_ tn tk tt tc2_4 ) (cwV 0 hts gX4_scoreOf_X3_count rfl rfl rfl (by decide +kernel) ⟨Nat.le_of_ble_eq_true rfl, Nat.le_of_ble_eq_true rfl⟩) (roV hK hZ [0] rfl hP [10] rfl 10 (ci := 3) rfl rfl) rfl rfl hl.1 rfl (lv_room (Nat.le_of_ble_eq_true rfl)) dX4_scoreOf_20 ⟨Nat.le_of_ble_eq_true rfl, Nat.le_of_ble_eq_true rfl⟩) ?_
      exact muRi hx hb hr hlocks (na2_1, ka2_2, ta2_3, tc2_4, lat, ps, fm) (⟨by first | exact (scO_0 hTL b10).symm | exact (scO_1 hTL b10 b16).symm | exact (scO_2 hTL b10 b26).symm | (rw [hTL.fol]; exact (scO_3 hTL b10 b16 b26).symm), htaN⟩) hP hD hS dX4_scoreOf_23
  · skip
    refine lv_iconst (v := (-1)) hx hb dX4_scoreOf_13 (by decide) ?_
    exact muRi hx hb hr hlocks (na2_1, ka2_2, ta2_3, tc2_4, lat, ps, fm) (⟨by first | exact (scO_0 hTL b10).symm | exact (scO_1 hTL b10 b16).symm | exact (scO_2 hTL b10 b26).symm | (rw [hTL.fol]; exact (scO_3 hTL b10 b16 b26).symm), htaN⟩) hP hD hS dX4_scoreOf_14

abbrev rm_X4_usersAheadOf : Room := { frames := 0, cells := 0, slots := 0, locals := 0 }
set_option maxHeartbeats 8000000 in
set_option maxRecDepth 100000 in
theorem c_X4_usersAheadOf (l : Launch) (D : va_G) (cI : ClassId) (h : Nat) (au : Nat) (al : Nat) (af : Nat) (ad : Nat) (at_ : Nat) (as_ : Nat) (gp : Nat) (sc : Nat → Option Nat) (u : Nat) (hu : u < 20) : Met l yX4_usersAheadOf wsX4_usersAheadOf rm_X4_usersAheadOf (roP D (tI cI) [.ref h, .int (nI u)] [(h, .inr (4, [.ref au, .ref al, .ref af, .ref ad, .ref at_, .ref as_, .int (nI gp)])), (as_, .inl (cI, 20, .inl (oF sc)))]) (QcRead (nI (fb_ct (ahB sc u) 20))) 0 0 (fun _ => False) := by
  refine roOf (cc := cX4_usersAheadOf) (maxL := 4) (ret := (some .int)) (by decide) rfl (Nat.le_of_ble_eq_true rfl) ?_
  intro p e s m below meth c ls hx hb hml hown hts hr hlocks hP hK hZ hl
  have hown : s.vm.findClass RX4 = some m.cls := hown
  have hl : lv_has ls 4 [(0, .ref h), (1, .int (nI u))] := hl
  have hF : CallFix p m c cX4_usersAheadOf 4 s [.ref h, .int (nI u)].toArray wsX4_usersAheadOf RX4 := ⟨hx, hb, hml, hown, hts⟩
  have hinX4 : ∀ w ∈ wsX40, w ∈ wsX4_usersAheadOf := by decide +kernel
  have hk41 := hts (.fieldLink RX4 41 "FunnelFold" "scores" "[I") (by decide +kernel)
  refine lv_iconst (v := nI 0) hx hb dX4_usersAheadOf_0 (by decide) ?_
  refine lv_istore_n (lv' := [(2, .int (nI 0)), (0, .ref h), (1, .int (nI u))]) hx hb dX4_usersAheadOf_1 rfl hl (by decide) rfl (fun ls hl => ?_)
  refine lv_iconst (v := nI 0) hx hb dX4_usersAheadOf_2 (by decide) ?_
  refine lv_istore_n (lv' := [(3, .int (nI 0)), (2, .int (nI 0)), (0, .ref h), (1, .int (nI u))]) hx hb dX4_usersAheadOf_3 rfl hl (by decide) rfl (fun ls hl => ?_)
  have key4 : ∀ (fuel : Nat) (x : Nat) (w : Nat) (ls : Array Slot), 20 - x < fuel → (x ≤ 20) → (w = fb_ct (ahB sc u) x) → lv_has ls 4 [(0, .ref h), (1, .int (nI u)), (2, .int (nI w)), (3, .int (nI x))] → W p l e rm_X4_usersAheadOf s m [.ref h, .int (nI u)].toArray below meth c s.heap [] 0 0 (MQ below (QcRead (nI (fb_ct (ahB sc u) 20))) [.ref h, .int (nI u)].toArray s 0 0 (fun _ => False)) (F0 m 4 ls []) := by
    intro fuel
    induction fuel with
    | zero => intro x w ls hfu; exact absurd hfu (Nat.not_lt_zero _)
    | succ fuel ih4 =>
      intro x w ls hfu hx2 hw2 hl
      refine lv_iload_n hx hb dX4_usersAheadOf_4 rfl (lv_at hl 3 rfl) ?_
      refine lv_bipush (v := nI 20) hx hb dX4_usersAheadOf_5 (by decide) ?_
      refine f_ge hx hb (by omega) (by omega) (tgt := 54) dX4_usersAheadOf_7 (by decide) (fun b7 => ?_) (fun b7 => ?_)
      · skip
        refine lv_iload_n hx hb dX4_usersAheadOf_54 rfl (lv_at hl 2 rfl) ?_
        exact roRi hx hb hr hlocks ((by rw [hw2, show x = 20 by omega])) dX4_usersAheadOf_55
      · skip
        refine lv_aload_n hx hb dX4_usersAheadOf_10 rfl (lv_at hl 0 rfl) ?_
        refine va_get (D := D) (ci := 4) (v := .ref as_) (C := RX4) (T := TX4) (N := 7) hx hb hts hinX4 hown hK hP 0 rfl rfl 5 (by decide) hk41 (fun _ h9 => h9) rfl dX4_usersAheadOf_11 ?_
        refine lv_iload_n hx hb dX4_usersAheadOf_14 rfl (lv_at hl 3 rfl) ?_
        refine f_aldo hx hb hK hP 1 0 rfl rfl (by omega) (by decide) dX4_usersAheadOf_15 ?_
        refine lv_aload_n hx hb dX4_usersAheadOf_16 rfl (lv_at hl 0 rfl) ?_
        refine va_get (D := D) (ci := 4) (v := .ref as_) (C := RX4) (T := TX4) (N := 7) hx hb hts hinX4 hown hK hP 0 rfl rfl 5 (by decide) hk41 (fun _ h9 => h9) rfl dX4_usersAheadOf_17 ?_
        refine lv_iload_n hx hb dX4_usersAheadOf_20 rfl (lv_at hl 1 rfl) ?_
        refine f_aldo hx hb hK hP 1 0 rfl rfl (by omega) (by decide) dX4_usersAheadOf_21 ?_
        refine lv_icmp_gt hx hb (tgt := 45) dX4_usersAheadOf_22 (by decide) (fun b22 => ?_) (fun b22 => ?_)
        · skip
          refine lv_iinc (v := nI (w + 1)) (lv' := [(2, .int (nI (w + 1))), (0, .ref h), (1, .int (nI u)), (3, .int (nI x))]) hx hb dX4_usersAheadOf_45 hl (k := 2) rfl (ii_1 _) (by decide) rfl (fun ls hl => ?_)
          refine lv_iinc (v := nI (x + 1)) (lv' := [(3, .int (nI (x + 1))), (2, .int (nI (w + 1))), (0, .ref h), (1, .int (nI u))]) hx hb dX4_usersAheadOf_48 hl (k := 3) rfl (ii_1 _) (by decide) rfl (fun ls hl => ?_)
          refine lv_goto (tgt := 4) hx hb dX4_usersAheadOf_51 (by decide) ?_
          exact ih4 (x + 1) (w + 1) _ (by omega) (by omega) (by first | (rw [hw2, ct_y (ahB_1 b22)]; done) | (rw [hw2, ct_y (ahB_2 b37 b42)]; done)) (lv_sub hl [2, 3, 1, 0] rfl)
        · skip
          refine lv_aload_n hx hb dX4_usersAheadOf_25 rfl (lv_at hl 0 rfl) ?_
          refine va_get (D := D) (ci := 4) (v := .ref as_) (C := RX4) (T := TX4) (N := 7) hx hb hts hinX4 hown hK hP 0 rfl rfl 5 (by decide) hk41 (fun _ h9 => h9) rfl dX4_usersAheadOf_26 ?_
          refine lv_iload_n hx hb dX4_usersAheadOf_29 rfl (lv_at hl 3 rfl) ?_
          refine f_aldo hx hb hK hP 1 0 rfl rfl (by omega) (by decide) dX4_usersAheadOf_30 ?_
          refine lv_aload_n hx hb dX4_usersAheadOf_31 rfl (lv_at hl 0 rfl) ?_
          refine va_get (D := D) (ci := 4) (v := .ref as_) (C := RX4) (T := TX4) (N := 7) hx hb hts hinX4 hown hK hP 0 rfl rfl 5 (by decide) hk41 (fun _ h9 => h9) rfl dX4_usersAheadOf_32 ?_
          refine lv_iload_n hx hb dX4_usersAheadOf_35 rfl (lv_at hl 1 rfl) ?_
          refine f_aldo hx hb hK hP 1 0 rfl rfl (by omega) (by decide) dX4_usersAheadOf_36 ?_
          refine lv_icmp_ne hx hb (tgt := 48) dX4_usersAheadOf_37 (by decide) (fun b37 => ?_) (fun b37 => ?_)
          · skip
            refine lv_iinc (v := nI (x + 1)) (lv' := [(3, .int (nI (x + 1))), (0, .ref h), (1, .int (nI u)), (2, .int (nI w))]) hx hb dX4_usersAheadOf_48 hl (k := 3) rfl (ii_1 _) (by decide) rfl (fun ls hl => ?_)
            refine lv_goto (tgt := 4) hx hb dX4_usersAheadOf_51 (by decide) ?_
            exact ih4 (x + 1) w _ (by omega) (by omega) (by first | (rw [hw2, ct_n (ahB_3 b22 b37)]; done) | (rw [hw2, ct_n (ahB_4 b22 b42)]; done)) (lv_sub hl [1, 2, 3, 0] rfl)
          · skip
            refine lv_iload_n hx hb dX4_usersAheadOf_40 rfl (lv_at hl 3 rfl) ?_
            refine lv_iload_n hx hb dX4_usersAheadOf_41 rfl (lv_at hl 1 rfl) ?_
            refine f_ge hx hb (by omega) (by omega) (tgt := 48) dX4_usersAheadOf_42 (by decide) (fun b42 => ?_) (fun b42 => ?_)
            · skip
              refine lv_iinc (v := nI (x + 1)) (lv' := [(3, .int (nI (x + 1))), (0, .ref h), (1, .int (nI u)), (2, .int (nI w))]) hx hb dX4_usersAheadOf_48 hl (k := 3) rfl (ii_1 _) (by decide) rfl (fun ls hl => ?_)
              refine lv_goto (tgt := 4) hx hb dX4_usersAheadOf_51 (by decide) ?_
              exact ih4 (x + 1) w _ (by omega) (by omega) (by first | (rw [hw2, ct_n (ahB_3 b22 b37)]; done) | (rw [hw2, ct_n (ahB_4 b22 b42)]; done)) (lv_sub hl [1, 2, 3, 0] rfl)
            · skip
              refine lv_iinc (v := nI (w + 1)) (lv' := [(2, .int (nI (w + 1))), (0, .ref h), (1, .int (nI u)), (3, .int (nI x))]) hx hb dX4_usersAheadOf_45 hl (k := 2) rfl (ii_1 _) (by decide) rfl (fun ls hl => ?_)
              refine lv_iinc (v := nI (x + 1)) (lv' := [(3, .int (nI (x + 1))), (2, .int (nI (w + 1))), (0, .ref h), (1, .int (nI u))]) hx hb dX4_usersAheadOf_48 hl (k := 3) rfl (ii_1 _) (by decide) rfl (fun ls hl => ?_)
              refine lv_goto (tgt := 4) hx hb dX4_usersAheadOf_51 (by decide) ?_
              exact ih4 (x + 1) (w + 1) _ (by omega) (by omega) (by first | (rw [hw2, ct_y (ahB_1 b22)]; done) | (rw [hw2, ct_y (ahB_2 b37 b42)]; done)) (lv_sub hl [2, 3, 1, 0] rfl)
  exact key4 (20 - 0 + 1) 0 0 _ (by omega) (Nat.zero_le _) rfl (lv_sub hl [2, 3, 1, 0] rfl)

