abbrev rm_X5_has : Room := { frames := 1, cells := 0, slots := 0, locals := 23 }
abbrev q_X5_has (D : va_G) (cI : ClassId) (xo : Nat) (xu : Nat) (xi : Nat) (xk : Nat) (xt : Nat) (xr : Nat) (xs : Nat) (xa : Nat) (xn : Nat) (xb : Nat) (xw : Nat) (xg : Nat) (us : Nat → Nat) (n : Nat) (ids : Nat → Nat) (tms : Nat → Nat) (ord : Nat → Nat) (gp : Nat) (cnt : Nat) (win : Nat) (cl : Nat) (my : Nat) (ow : Nat → Nat) (sn : Nat) (bg : Nat → Nat) (th : Nat) (k1 : Int32) (k2 : Int32) (A : Nat → Prop) : Array Value → State → Outcome → State → Prop := muQi D (fun (r : Int32) (uu : Nat × Nat × (Nat → Nat) × Nat × (Nat → Nat)) => match uu with | (th2, my2, ow2, sn2, bg2) => (inRb k1 0 19 = true → LKok us ids tms ord n gp (us (cN k1)) my2 ow2 sn2 bg2) ∧ r = bI (inRb k1 0 19 && inBb k2 sn2) ∧ th2 = mb2 (inRb k1 0 19) (inBb k2 sn2)) (fun (uu : Nat × Nat × (Nat → Nat) × Nat × (Nat → Nat)) => match uu with | (th2, my2, ow2, sn2, bg2) => [(xo, .inr (5, [.ref xu, .int (nI n), .ref xi, .ref xk, .ref xt, .ref xr, .int (nI gp), .int (nI cnt), .ref xs, .int (nI win), .int (nI cl), .ref xa, .ref xn, .ref xb, .int (nI my2), .ref xw, .int (nI sn2), .ref xg, .int (nI th2)])), (xu, .inl (cI, 20, .inl (nF us))), (xi, .inl (cI, 250, .inl (nF ids))), (xt, .inl (cI, 250, .inl (nF tms))), (xr, .inl (cI, 250, .inl (nF ord))), (xw, .inl (cI, 250, .inl (nF ow2))), (xg, .inl (cI, 251, .inl (nF bg2)))]) A
set_option maxHeartbeats 8000000 in
set_option maxRecDepth 100000 in
theorem c_X5_has (l : Launch) (D : va_G) (cI : ClassId) (xo : Nat) (xu : Nat) (xi : Nat) (xk : Nat) (xt : Nat) (xr : Nat) (xs : Nat) (xa : Nat) (xn : Nat) (xb : Nat) (xw : Nat) (xg : Nat) (us : Nat → Nat) (n : Nat) (ids : Nat → Nat) (tms : Nat → Nat) (ord : Nat → Nat) (gp : Nat) (cnt : Nat) (win : Nat) (cl : Nat) (my : Nat) (ow : Nat → Nat) (sn : Nat) (bg : Nat → Nat) (th : Nat) (k1 : Int32) (k2 : Int32) (sz : Nat) (hI : Inv us ids tms ord n) (hg : gp ≤ 500) : Met l yX5_has wsX5_has rm_X5_has (muP D (tI cI) [.ref xo, .int k1, .int k2] [(xo, .inr (5, [.ref xu, .int (nI n), .ref xi, .ref xk, .ref xt, .ref xr, .int (nI gp), .int (nI cnt), .ref xs, .int (nI win), .int (nI cl), .ref xa, .ref xn, .ref xb, .int (nI my), .ref xw, .int (nI sn), .ref xg, .int (nI th)])), (xu, .inl (cI, 20, .inl (nF us))), (xi, .inl (cI, 250, .inl (nF ids))), (xt, .inl (cI, 250, .inl (nF tms))), (xr, .inl (cI, 250, .inl (nF ord))), (xw, .inl (cI, 250, .inl (nF ow))), (xg, .inl (cI, 251, .inl (nF bg)))] sz) (q_X5_has D cI xo xu xi xk xt xr xs xa xn xb xw xg us n ids tms ord gp cnt win cl my ow sn bg th k1 k2 (va_A [(xo, .inr (5, [.ref xu, .int (nI n), .ref xi, .ref xk, .ref xt, .ref xr, .int (nI gp), .int (nI cnt), .ref xs, .int (nI win), .int (nI cl), .ref xa, .ref xn, .ref xb, .int (nI my), .ref xw, .int (nI sn), .ref xg, .int (nI th)])), (xu, .inl (cI, 20, .inl (nF us))), (xi, .inl (cI, 250, .inl (nF ids))), (xt, .inl (cI, 250, .inl (nF tms))), (xr, .inl (cI, 250, .inl (nF ord))), (xw, .inl (cI, 250, .inl (nF ow))), (xg, .inl (cI, 251, .inl (nF bg)))] sz)) 0 0 (va_A [(xo, .inr (5, [.ref xu, .int (nI n), .ref xi, .ref xk, .ref xt, .ref xr, .int (nI gp), .int (nI cnt), .ref xs, .int (nI win), .int (nI cl), .ref xa, .ref xn, .ref xb, .int (nI my), .ref xw, .int (nI sn), .ref xg, .int (nI th)])), (xu, .inl (cI, 20, .inl (nF us))), (xi, .inl (cI, 250, .inl (nF ids))), (xt, .inl (cI, 250, .inl (nF tms))), (xr, .inl (cI, 250, .inl (nF ord))), (xw, .inl (cI, 250, .inl (nF ow))), (xg, .inl (cI, 251, .inl (nF bg)))] sz) := by
  refine muOf (Qc := fun A => q_X5_has D cI xo xu xi xk xt xr xs xa xn xb xw xg us n ids tms ord gp cnt win cl my ow sn bg th k1 k2 A) (cc := cX5_has) (maxL := 4) (ret := (some .boolean)) (by decide) rfl (Nat.le_of_ble_eq_true rfl) ?_
  intro p e s m below meth c ls A hx hb hml hown hts hr hlocks hnm hP hK hZ hD hA hS hl
  have hown : s.vm.findClass RX5 = some m.cls := hown
  have hl : lv_has ls 4 [(0, .ref xo), (1, .int k1), (2, .int k2)] := hl
  have hF : CallFix p m c cX5_has 4 s [.ref xo, .int k1, .int k2].toArray wsX5_has RX5 := ⟨hx, hb, hml, hown, hts⟩
  have hinX5 : ∀ w ∈ wsX50, w ∈ wsX5_has := by decide +kernel
  have hk74 := hts (.fieldLink RX5 74 "FunnelFoldModel" "sessions" "I") (by decide +kernel)
  have hk7 := hts (.fieldLink RX5 7 "FunnelFoldModel" "user" "[I") (by decide +kernel)
  have hn250 := hI.hn
  refine lv_iload_n hx hb dX5_has_0 rfl (lv_at hl 1 rfl) ?_
  refine roC (va_runS (As := [.int k1]) (rest := []) hF (c_X5_isId l k1 ) (va_cwS 1 hts gX5_has_X5_isId rfl rfl rfl (by decide +kernel) ⟨Nat.le_of_ble_eq_true rfl, Nat.le_of_ble_eq_true rfl⟩) preEq rfl rfl hl.1 rfl (lv_room (Nat.le_of_ble_eq_true rfl)) dX5_has_1 ⟨Nat.le_of_ble_eq_true rfl, Nat.le_of_ble_eq_true rfl⟩) ?_
  refine lv_istore_n (lv' := [(3, .int (bI (inRb k1 0 19))), (0, .ref xo), (1, .int k1), (2, .int k2)]) hx hb dX5_has_4 rfl hl (by decide) rfl (fun ls hl => ?_)
  have key19 : ∀ (m1 : Nat) (o1 : Nat → Nat) (s1 : Nat) (g1 : Nat → Nat) (H : Heap) (locs : List Loc) (ls : Array Slot), (inRb k1 0 19 = true → LKok us ids tms ord n gp (us (cN k1)) m1 o1 s1 g1) → va_P D vwCl [(xo, .inr (5, [.ref xu, .int (nI n), .ref xi, .ref xk, .ref xt, .ref xr, .int (nI gp), .int (nI cnt), .ref xs, .int (nI win), .int (nI cl), .ref xa, .ref xn, .ref xb, .int (nI m1), .ref xw, .int (nI s1), .ref xg, .int (nI th)])), (xu, .inl (cI, 20, .inl (nF us))), (xi, .inl (cI, 250, .inl (nF ids))), (xt, .inl (cI, 250, .inl (nF tms))), (xr, .inl (cI, 250, .inl (nF ord))), (xw, .inl (cI, 250, .inl (nF o1))), (xg, .inl (cI, 251, .inl (nF g1)))] H → va_D A [(xo, .inr (5, [.ref xu, .int (nI n), .ref xi, .ref xk, .ref xt, .ref xr, .int (nI gp), .int (nI cnt), .ref xs, .int (nI win), .int (nI cl), .ref xa, .ref xn, .ref xb, .int (nI m1), .ref xw, .int (nI s1), .ref xg, .int (nI th)])), (xu, .inl (cI, 20, .inl (nF us))), (xi, .inl (cI, 250, .inl (nF ids))), (xt, .inl (cI, 250, .inl (nF tms))), (xr, .inl (cI, 250, .inl (nF ord))), (xw, .inl (cI, 250, .inl (nF o1))), (xg, .inl (cI, 251, .inl (nF g1)))] → va_S A s.heap H locs → lv_has ls 4 [(3, .int (bI (inRb k1 0 19))), (0, .ref xo), (1, .int k1), (2, .int k2)] → W p l e rm_X5_has s m [.ref xo, .int k1, .int k2].toArray below meth c H locs 0 0 (MQ below (q_X5_has D cI xo xu xi xk xt xr xs xa xn xb xw xg us n ids tms ord gp cnt win cl my ow sn bg th k1 k2 A) [.ref xo, .int k1, .int k2].toArray s 0 0 A) (F0 m 19 ls []) := by
    intro m1 o1 s1 g1 H locs ls hLK hP hD hS hl
    refine lv_aload_n hx hb dX5_has_19 rfl (lv_at hl 1 rfl) ?_
    refine lv_iload_n hx hb dX5_has_20 rfl (lv_at hl 0 rfl) ?_
    refine lv_iload_n hx hb dX5_has_21 rfl (lv_at hl 3 rfl) ?_
    have key38 : ∀ (f2 : Bool) (H : Heap) (locs : List Loc) (ls : Array Slot), (f2 = inBb k2 s1) → va_P D vwCl [(xo, .inr (5, [.ref xu, .int (nI n), .ref xi, .ref xk, .ref xt, .ref xr, .int (nI gp), .int (nI cnt), .ref xs, .int (nI win), .int (nI cl), .ref xa, .ref xn, .ref xb, .int (nI m1), .ref xw, .int (nI s1), .ref xg, .int (nI th)])), (xu, .inl (cI, 20, .inl (nF us))), (xi, .inl (cI, 250, .inl (nF ids))), (xt, .inl (cI, 250, .inl (nF tms))), (xr, .inl (cI, 250, .inl (nF ord))), (xw, .inl (cI, 250, .inl (nF o1))), (xg, .inl (cI, 251, .inl (nF g1)))] H → va_D A [(xo, .inr (5, [.ref xu, .int (nI n), .ref xi, .ref xk, .ref xt, .ref xr, .int (nI gp), .int (nI cnt), .ref xs, .int (nI win), .int (nI cl), .ref xa, .ref xn, .ref xb, .int (nI m1), .ref xw, .int (nI s1), .ref xg, .int (nI th)])), (xu, .inl (cI, 20, .inl (nF us))), (xi, .inl (cI, 250, .inl (nF ids))), (xt, .inl (cI, 250, .inl (nF tms))), (xr, .inl (cI, 250, .inl (nF ord))), (xw, .inl (cI, 250, .inl (nF o1))), (xg, .inl (cI, 251, .inl (nF g1)))] → va_S A s.heap H locs → lv_has ls 4 [(3, .int (bI (inRb k1 0 19))), (0, .ref xo), (1, .int k1), (2, .int k2)] → W p l e rm_X5_has s m [.ref xo, .int k1, .int k2].toArray below meth c H locs 0 0 (MQ below (q_X5_has D cI xo xu xi xk xt xr xs xa xn xb xw xg us n ids tms ord gp cnt win cl my ow sn bg th k1 k2 A) [.ref xo, .int k1, .int k2].toArray s 0 0 A) (F0 m 38 ls [.int (bI f2), .int (bI (inRb k1 0 19)), .ref xo]) := by
      intro f2 H locs ls hf2 hP hD hS hl
      refine muCi (wr := [(xu, .inl (cI, 20, .inl (nF us))), (xi, .inl (cI, 250, .inl (nF ids))), (xt, .inl (cI, 250, .inl (nF tms))), (xr, .inl (cI, 250, .inl (nF ord))), (xw, .inl (cI, 250, .inl (nF o1))), (xg, .inl (cI, 251, .inl (nF g1)))]) (wB := (fun (uu : Nat) => match uu with | th2 => [(xo, .inr (5, [.ref xu, .int (nI n), .ref xi, .ref xk, .ref xt, .ref xr, .int (nI gp), .int (nI cnt), .ref xs, .int (nI win), .int (nI cl), .ref xa, .ref xn, .ref xb, .int (nI m1), .ref xw, .int (nI s1), .ref xg, .int (nI th2)])), (xu, .inl (cI, 20, .inl (nF us))), (xi, .inl (cI, 250, .inl (nF ids))), (xt, .inl (cI, 250, .inl (nF tms))), (xr, .inl (cI, 250, .inl (nF ord))), (xw, .inl (cI, 250, .inl (nF o1))), (xg, .inl (cI, 251, .inl (nF g1)))])) (va_runV (As := [.int (bI (inRb k1 0 19)), .int (bI f2)]) (rest := []) hF (c_X5_mayBoth l D cI xo xu xi xk xt xr xs xa xn xb xw xg n gp cnt win cl m1 s1 th (inRb k1 0 19) f2 H.size ) (cwV 2 hts gX5_has_X5_mayBoth rfl rfl rfl (by decide +kernel) ⟨Nat.le_of_ble_eq_true rfl, Nat.le_of_ble_eq_true rfl⟩) (muV hK hZ [0] rfl hP hD [0] (by decide) rfl 0 (ci := 5) rfl rfl) rfl rfl hl.1 rfl (lv_room (Nat.le_of_ble_eq_true rfl)) dX5_has_38 ⟨Nat.le_of_ble_eq_true rfl, Nat.le_of_ble_eq_true rfl⟩) hP hD hS hA [0] [1, 2, 3, 4, 5, 6] [6, 0, 1, 2, 3, 4, 5] rfl rfl (by decide) (by decide) (by decide) (fun _ => rfl) (fun r_2 th2_1 H locs hw_3 hP hD hS => ?_)
      have hw_3 : r_2 = bI ((inRb k1 0 19) && f2) ∧ th2_1 = mb2 (inRb k1 0 19) f2 := hw_3
      have hP : va_P D vwCl [(xo, .inr (5, [.ref xu, .int (nI n), .ref xi, .ref xk, .ref xt, .ref xr, .int (nI gp), .int (nI cnt), .ref xs, .int (nI win), .int (nI cl), .ref xa, .ref xn, .ref xb, .int (nI m1), .ref xw, .int (nI s1), .ref xg, .int (nI th2_1)])), (xu, .inl (cI, 20, .inl (nF us))), (xi, .inl (cI, 250, .inl (nF ids))), (xt, .inl (cI, 250, .inl (nF tms))), (xr, .inl (cI, 250, .inl (nF ord))), (xw, .inl (cI, 250, .inl (nF o1))), (xg, .inl (cI, 251, .inl (nF g1)))] H := hP
      have hD : va_D A [(xo, .inr (5, [.ref xu, .int (nI n), .ref xi, .ref xk, .ref xt, .ref xr, .int (nI gp), .int (nI cnt), .ref xs, .int (nI win), .int (nI cl), .ref xa, .ref xn, .ref xb, .int (nI m1), .ref xw, .int (nI s1), .ref xg, .int (nI th2_1)])), (xu, .inl (cI, 20, .inl (nF us))), (xi, .inl (cI, 250, .inl (nF ids))), (xt, .inl (cI, 250, .inl (nF tms))), (xr, .inl (cI, 250, .inl (nF ord))), (xw, .inl (cI, 250, .inl (nF o1))), (xg, .inl (cI, 251, .inl (nF g1)))] := hD
      refine f_to (y := bI ((inRb k1 0 19) && f2)) hw_3.1 ?_
      have hth := hw_3.2
      exact muRz hx hb hr hlocks (th2_1, m1, o1, s1, g1) (⟨hLK, by rw [hf2], by rw [hth, hf2]⟩) hP hD hS dX5_has_41
    refine lv_if_lt hx hb (tgt := 37) dX5_has_22 (by decide) (fun b22 => ?_) (fun b22 => ?_)
    · skip
      refine lv_iconst (v := nI 0) hx hb dX5_has_37 (by decide) ?_
      refine f_to (y := bI false) rfl ?_
      exact key38 false _ _ _  (by first | exact (inBb_lt b22).symm | exact (inBb_ge b30).symm | exact (inBb_in b22 b30).symm) hP hD hS (lv_sub hl [0, 1, 2, 3] rfl)
    · skip
      refine lv_iload_n hx hb dX5_has_25 rfl (lv_at hl 3 rfl) ?_
      refine lv_aload_n hx hb dX5_has_26 rfl (lv_at hl 1 rfl) ?_
      refine va_get (D := D) (ci := 5) (v := .int (nI s1)) (C := RX5) (T := TX5) (N := 19) hx hb hts hinX5 hown hK hP 0 rfl rfl 16 (by decide) hk74 (fun _ h9 => h9) rfl dX5_has_27 ?_
      refine lv_icmp_ge hx hb (tgt := 37) dX5_has_30 (by decide) (fun b30 => ?_) (fun b30 => ?_)
      · skip
        refine lv_iconst (v := nI 0) hx hb dX5_has_37 (by decide) ?_
        refine f_to (y := bI false) rfl ?_
        exact key38 false _ _ _  (by first | exact (inBb_lt b22).symm | exact (inBb_ge b30).symm | exact (inBb_in b22 b30).symm) hP hD hS (lv_sub hl [0, 1, 2, 3] rfl)
      · skip
        refine lv_iconst (v := nI 1) hx hb dX5_has_33 (by decide) ?_
        refine lv_goto (tgt := 38) hx hb dX5_has_34 (by decide) ?_
        refine f_to (y := bI true) rfl ?_
        exact key38 true _ _ _  (by first | exact (inBb_lt b22).symm | exact (inBb_ge b30).symm | exact (inBb_in b22 b30).symm) hP hD hS (lv_sub hl [0, 1, 2, 3] rfl)
  refine lv_iload_n hx hb dX5_has_5 rfl (lv_at hl 0 rfl) ?_
  refine f_beq hx hb (tgt := 19) dX5_has_6 (by decide) (fun b6 => ?_) (fun b6 => ?_)
  · skip
    exact key19 my ow sn bg _ _ _  (fun q => absurd (b6.symm.trans q) (by decide)) hP hD hS (lv_sub hl [0, 1, 2, 3] rfl)
  · skip
    obtain ⟨i, hiL, hiH, rfl⟩ := inR_nat (inRb_t.mp b6) (by omega) (by omega)
    have hl : lv_has ls 4 [(3, .int (bI (inRb (nI i) 0 19))), (0, .ref xo), (1, .int (nI i)), (2, .int k2)] := hl
    have hui := hI.hus i
    refine lv_aload_n hx hb dX5_has_9 rfl (lv_at hl 1 rfl) ?_
    refine lv_aload_n hx hb dX5_has_10 rfl (lv_at hl 1 rfl) ?_
    refine va_get (D := D) (ci := 5) (v := .ref xu) (C := RX5) (T := TX5) (N := 19) hx hb hts hinX5 hown hK hP 0 rfl rfl 0 (by decide) hk7 (fun _ h9 => h9) rfl dX5_has_11 ?_
    refine lv_iload_n hx hb dX5_has_14 rfl (lv_at hl 2 rfl) ?_
    refine f_ald hx hb hK hP 1 0 rfl rfl (by omega) (by decide) dX5_has_15 ?_
    refine muCv (wr := []) (wB := (fun (uu : Nat × (Nat → Nat) × Nat × (Nat → Nat)) => match uu with | (my2, ow2, sn2, bg2) => [(xo, .inr (5, [.ref xu, .int (nI n), .ref xi, .ref xk, .ref xt, .ref xr, .int (nI gp), .int (nI cnt), .ref xs, .int (nI win), .int (nI cl), .ref xa, .ref xn, .ref xb, .int (nI my2), .ref xw, .int (nI sn2), .ref xg, .int (nI th)])), (xu, .inl (cI, 20, .inl (nF us))), (xi, .inl (cI, 250, .inl (nF ids))), (xt, .inl (cI, 250, .inl (nF tms))), (xr, .inl (cI, 250, .inl (nF ord))), (xw, .inl (cI, 250, .inl (nF ow2))), (xg, .inl (cI, 251, .inl (nF bg2)))])) (va_runV (As := [.int (nI (us i))]) (rest := []) hF (c_X5_look l D cI xo xu xi xk xt xr xs xa xn xb xw xg us n ids tms ord gp cnt win cl my ow sn bg th (us i) s.heap.size (by first | assumption | omega) (by first | assumption | omega) (by first | assumption | omega)) (cwV 1 hts gX5_has_X5_look rfl rfl rfl (by decide +kernel) ⟨Nat.le_of_ble_eq_true rfl, Nat.le_of_ble_eq_true rfl⟩) (muV hK hZ [0] rfl hP hD [0, 1, 2, 3, 4, 5, 6] (by decide) rfl 0 (ci := 5) rfl rfl) rfl rfl hl.1 rfl (lv_room (Nat.le_of_ble_eq_true rfl)) dX5_has_16 ⟨Nat.le_of_ble_eq_true rfl, Nat.le_of_ble_eq_true rfl⟩) hP hD hS hA [0, 1, 2, 3, 4, 5, 6] [] [0, 1, 2, 3, 4, 5, 6] rfl rfl (by decide) (by decide) (by decide) (fun _ => rfl) (fun u_10 H locs hw_9 hP hD hS => ?_)
    obtain ⟨my2_4, ow2_5, sn2_6, bg2_7⟩ := u_10
    have hw_9 : LKok us ids tms ord n gp (us i) my2_4 ow2_5 sn2_6 bg2_7 := hw_9
    have hP : va_P D vwCl [(xo, .inr (5, [.ref xu, .int (nI n), .ref xi, .ref xk, .ref xt, .ref xr, .int (nI gp), .int (nI cnt), .ref xs, .int (nI win), .int (nI cl), .ref xa, .ref xn, .ref xb, .int (nI my2_4), .ref xw, .int (nI sn2_6), .ref xg, .int (nI th)])), (xu, .inl (cI, 20, .inl (nF us))), (xi, .inl (cI, 250, .inl (nF ids))), (xt, .inl (cI, 250, .inl (nF tms))), (xr, .inl (cI, 250, .inl (nF ord))), (xw, .inl (cI, 250, .inl (nF ow2_5))), (xg, .inl (cI, 251, .inl (nF bg2_7)))] H := hP
    have hD : va_D A [(xo, .inr (5, [.ref xu, .int (nI n), .ref xi, .ref xk, .ref xt, .ref xr, .int (nI gp), .int (nI cnt), .ref xs, .int (nI win), .int (nI cl), .ref xa, .ref xn, .ref xb, .int (nI my2_4), .ref xw, .int (nI sn2_6), .ref xg, .int (nI th)])), (xu, .inl (cI, 20, .inl (nF us))), (xi, .inl (cI, 250, .inl (nF ids))), (xt, .inl (cI, 250, .inl (nF tms))), (xr, .inl (cI, 250, .inl (nF ord))), (xw, .inl (cI, 250, .inl (nF ow2_5))), (xg, .inl (cI, 251, .inl (nF bg2_7)))] := hD
    have hLK := hw_9
    have hLm := hLK.le
    have hLs := hLK.le2
    exact key19 my2_4 ow2_5 sn2_6 bg2_7 _ _ _  (fun _ => by rw [cN_nI (by omega)]; exact hLK) hP hD hS (lv_sub hl [0, 1, 2, 3] rfl)

abbrev rm_X5_eventAt : Room := { frames := 1, cells := 0, slots := 0, locals := 23 }
abbrev q_X5_eventAt (D : va_G) (cI : ClassId) (xo : Nat) (xu : Nat) (xi : Nat) (xk : Nat) (xt : Nat) (xr : Nat) (xs : Nat) (xa : Nat) (xn : Nat) (xb : Nat) (xw : Nat) (xg : Nat) (us : Nat → Nat) (n : Nat) (ids : Nat → Nat) (kd : Nat → Int32) (tms : Nat → Nat) (ord : Nat → Nat) (gp : Nat) (cnt : Nat) (stp : Nat → Int32) (win : Nat) (cl : Nat) (kA : Nat → Int32) (kN : Nat → Int32) (kS : Nat → Int32) (my : Nat) (ow : Nat → Nat) (sn : Nat) (bg : Nat → Nat) (th : Nat) (k1 : Int32) (k2 : Int32) (A : Nat → Prop) : Array Value → State → Outcome → State → Prop := muQi D (fun (r : Int32) (uu : Nat × Nat × (Nat → Nat) × Nat × (Nat → Nat)) => match uu with | (th2, my2, ow2, sn2, bg2) => (inRb k1 0 19 = true ∧ inBb k2 (mm us ids ord n (us (cN k1))) = true ∧ th2 = 0 ∧ r = nI (Em us ids ord n (us (cN k1)) (cN k2))) ∨ (inRb k1 0 19 = true ∧ inBb k2 (mm us ids ord n (us (cN k1))) = false ∧ th2 = 2) ∨ (inRb k1 0 19 = false ∧ th2 = 1)) (fun (uu : Nat × Nat × (Nat → Nat) × Nat × (Nat → Nat)) => match uu with | (th2, my2, ow2, sn2, bg2) => [(xo, .inr (5, [.ref xu, .int (nI n), .ref xi, .ref xk, .ref xt, .ref xr, .int (nI gp), .int (nI cnt), .ref xs, .int (nI win), .int (nI cl), .ref xa, .ref xn, .ref xb, .int (nI my2), .ref xw, .int (nI sn2), .ref xg, .int (nI th2)])), (xu, .inl (cI, 20, .inl (nF us))), (xi, .inl (cI, 250, .inl (nF ids))), (xk, .inl (cI, 250, .inl kd)), (xt, .inl (cI, 250, .inl (nF tms))), (xr, .inl (cI, 250, .inl (nF ord))), (xs, .inl (cI, 6, .inl stp)), (xa, .inl (cI, 20, .inl kA)), (xn, .inl (cI, 20, .inl kN)), (xb, .inl (cI, 20, .inl kS)), (xw, .inl (cI, 250, .inl (nF ow2))), (xg, .inl (cI, 251, .inl (nF bg2)))]) A
set_option maxHeartbeats 8000000 in
set_option maxRecDepth 100000 in
theorem c_X5_eventAt (l : Launch) (D : va_G) (cI : ClassId) (xo : Nat) (xu : Nat) (xi : Nat) (xk : Nat) (xt : Nat) (xr : Nat) (xs : Nat) (xa : Nat) (xn : Nat) (xb : Nat) (xw : Nat) (xg : Nat) (us : Nat → Nat) (n : Nat) (ids : Nat → Nat) (kd : Nat → Int32) (tms : Nat → Nat) (ord : Nat → Nat) (gp : Nat) (cnt : Nat) (stp : Nat → Int32) (win : Nat) (cl : Nat) (kA : Nat → Int32) (kN : Nat → Int32) (kS : Nat → Int32) (my : Nat) (ow : Nat → Nat) (sn : Nat) (bg : Nat → Nat) (th : Nat) (k1 : Int32) (k2 : Int32) (sz : Nat) (hI : Inv us ids tms ord n) (hcnt : cnt ≤ 6) (hwin : win < 2000) (hg : gp ≤ 500) (hcl : cl ≤ 20) : Met l yX5_eventAt wsX5_eventAt rm_X5_eventAt (muP D (tI cI) [.ref xo, .int k1, .int k2] [(xo, .inr (5, [.ref xu, .int (nI n), .ref xi, .ref xk, .ref xt, .ref xr, .int (nI gp), .int (nI cnt), .ref xs, .int (nI win), .int (nI cl), .ref xa, .ref xn, .ref xb, .int (nI my), .ref xw, .int (nI sn), .ref xg, .int (nI th)])), (xu, .inl (cI, 20, .inl (nF us))), (xi, .inl (cI, 250, .inl (nF ids))), (xk, .inl (cI, 250, .inl kd)), (xt, .inl (cI, 250, .inl (nF tms))), (xr, .inl (cI, 250, .inl (nF ord))), (xs, .inl (cI, 6, .inl stp)), (xa, .inl (cI, 20, .inl kA)), (xn, .inl (cI, 20, .inl kN)), (xb, .inl (cI, 20, .inl kS)), (xw, .inl (cI, 250, .inl (nF ow))), (xg, .inl (cI, 251, .inl (nF bg)))] sz) (q_X5_eventAt D cI xo xu xi xk xt xr xs xa xn xb xw xg us n ids kd tms ord gp cnt stp win cl kA kN kS my ow sn bg th k1 k2 (va_A [(xo, .inr (5, [.ref xu, .int (nI n), .ref xi, .ref xk, .ref xt, .ref xr, .int (nI gp), .int (nI cnt), .ref xs, .int (nI win), .int (nI cl), .ref xa, .ref xn, .ref xb, .int (nI my), .ref xw, .int (nI sn), .ref xg, .int (nI th)])), (xu, .inl (cI, 20, .inl (nF us))), (xi, .inl (cI, 250, .inl (nF ids))), (xk, .inl (cI, 250, .inl kd)), (xt, .inl (cI, 250, .inl (nF tms))), (xr, .inl (cI, 250, .inl (nF ord))), (xs, .inl (cI, 6, .inl stp)), (xa, .inl (cI, 20, .inl kA)), (xn, .inl (cI, 20, .inl kN)), (xb, .inl (cI, 20, .inl kS)), (xw, .inl (cI, 250, .inl (nF ow))), (xg, .inl (cI, 251, .inl (nF bg)))] sz)) 0 0 (va_A [(xo, .inr (5, [.ref xu, .int (nI n), .ref xi, .ref xk, .ref xt, .ref xr, .int (nI gp), .int (nI cnt), .ref xs, .int (nI win), .int (nI cl), .ref xa, .ref xn, .ref xb, .int (nI my), .ref xw, .int (nI sn), .ref xg, .int (nI th)])), (xu, .inl (cI, 20, .inl (nF us))), (xi, .inl (cI, 250, .inl (nF ids))), (xk, .inl (cI, 250, .inl kd)), (xt, .inl (cI, 250, .inl (nF tms))), (xr, .inl (cI, 250, .inl (nF ord))), (xs, .inl (cI, 6, .inl stp)), (xa, .inl (cI, 20, .inl kA)), (xn, .inl (cI, 20, .inl kN)), (xb, .inl (cI, 20, .inl kS)), (xw, .inl (cI, 250, .inl (nF ow))), (xg, .inl (cI, 251, .inl (nF bg)))] sz) := by
  refine muOf (Qc := fun A => q_X5_eventAt D cI xo xu xi xk xt xr xs xa xn xb xw xg us n ids kd tms ord gp cnt stp win cl kA kN kS my ow sn bg th k1 k2 A) (cc := cX5_eventAt) (maxL := 4) (ret := (some .int)) (by decide) rfl (Nat.le_of_ble_eq_true rfl) ?_
  intro p e s m below meth c ls A hx hb hml hown hts hr hlocks hnm hP hK hZ hD hA hS hl
  have hown : s.vm.findClass RX5 = some m.cls := hown
  have hl : lv_has ls 4 [(0, .ref xo), (1, .int k1), (2, .int k2)] := hl
  have hF : CallFix p m c cX5_eventAt 4 s [.ref xo, .int k1, .int k2].toArray wsX5_eventAt RX5 := ⟨hx, hb, hml, hown, hts⟩
  have hinX5 : ∀ w ∈ wsX50, w ∈ wsX5_eventAt := by decide +kernel
  have hk44 := hts (.fieldLink RX5 44 "FunnelFoldModel" "own" "[I") (by decide +kernel)
  have hk71 := hts (.fieldLink RX5 71 "FunnelFoldModel" "many" "I") (by decide +kernel)
  have hk7 := hts (.fieldLink RX5 7 "FunnelFoldModel" "user" "[I") (by decide +kernel)
  have hn250 := hI.hn
  refine lv_iload_n hx hb dX5_eventAt_0 rfl (lv_at hl 1 rfl) ?_
  refine roC (va_runS (As := [.int k1]) (rest := []) hF (c_X5_isId l k1 ) (va_cwS 1 hts gX5_eventAt_X5_isId rfl rfl rfl (by decide +kernel) ⟨Nat.le_of_ble_eq_true rfl, Nat.le_of_ble_eq_true rfl⟩) preEq rfl rfl hl.1 rfl (lv_room (Nat.le_of_ble_eq_true rfl)) dX5_eventAt_1 ⟨Nat.le_of_ble_eq_true rfl, Nat.le_of_ble_eq_true rfl⟩) ?_
  refine lv_istore_n (lv' := [(3, .int (bI (inRb k1 0 19))), (0, .ref xo), (1, .int k1), (2, .int k2)]) hx hb dX5_eventAt_4 rfl hl (by decide) rfl (fun ls hl => ?_)
  have key19 : ∀ (m1 : Nat) (o1 : Nat → Nat) (s1 : Nat) (g1 : Nat → Nat) (H : Heap) (locs : List Loc) (ls : Array Slot), (inRb k1 0 19 = true → LKok us ids tms ord n gp (us (cN k1)) m1 o1 s1 g1) → va_P D vwCl [(xo, .inr (5, [.ref xu, .int (nI n), .ref xi, .ref xk, .ref xt, .ref xr, .int (nI gp), .int (nI cnt), .ref xs, .int (nI win), .int (nI cl), .ref xa, .ref xn, .ref xb, .int (nI m1), .ref xw, .int (nI s1), .ref xg, .int (nI th)])), (xu, .inl (cI, 20, .inl (nF us))), (xi, .inl (cI, 250, .inl (nF ids))), (xk, .inl (cI, 250, .inl kd)), (xt, .inl (cI, 250, .inl (nF tms))), (xr, .inl (cI, 250, .inl (nF ord))), (xs, .inl (cI, 6, .inl stp)), (xa, .inl (cI, 20, .inl kA)), (xn, .inl (cI, 20, .inl kN)), (xb, .inl (cI, 20, .inl kS)), (xw, .inl (cI, 250, .inl (nF o1))), (xg, .inl (cI, 251, .inl (nF g1)))] H → va_D A [(xo, .inr (5, [.ref xu, .int (nI n), .ref xi, .ref xk, .ref xt, .ref xr, .int (nI gp), .int (nI cnt), .ref xs, .int (nI win), .int (nI cl), .ref xa, .ref xn, .ref xb, .int (nI m1), .ref xw, .int (nI s1), .ref xg, .int (nI th)])), (xu, .inl (cI, 20, .inl (nF us))), (xi, .inl (cI, 250, .inl (nF ids))), (xk, .inl (cI, 250, .inl kd)), (xt, .inl (cI, 250, .inl (nF tms))), (xr, .inl (cI, 250, .inl (nF ord))), (xs, .inl (cI, 6, .inl stp)), (xa, .inl (cI, 20, .inl kA)), (xn, .inl (cI, 20, .inl kN)), (xb, .inl (cI, 20, .inl kS)), (xw, .inl (cI, 250, .inl (nF o1))), (xg, .inl (cI, 251, .inl (nF g1)))] → va_S A s.heap H locs → lv_has ls 4 [(3, .int (bI (inRb k1 0 19))), (0, .ref xo), (1, .int k1), (2, .int k2)] → W p l e rm_X5_eventAt s m [.ref xo, .int k1, .int k2].toArray below meth c H locs 0 0 (MQ below (q_X5_eventAt D cI xo xu xi xk xt xr xs xa xn xb xw xg us n ids kd tms ord gp cnt stp win cl kA kN kS my ow sn bg th k1 k2 A) [.ref xo, .int k1, .int k2].toArray s 0 0 A) (F0 m 19 ls []) := by
    intro m1 o1 s1 g1 H locs ls hLK hP hD hS hl
    refine lv_aload_n hx hb dX5_eventAt_19 rfl (lv_at hl 1 rfl) ?_
    refine lv_iload_n hx hb dX5_eventAt_20 rfl (lv_at hl 0 rfl) ?_
    refine lv_iload_n hx hb dX5_eventAt_21 rfl (lv_at hl 3 rfl) ?_
    have key38 : ∀ (f2 : Bool) (H : Heap) (locs : List Loc) (ls : Array Slot), (f2 = inBb k2 m1) → va_P D vwCl [(xo, .inr (5, [.ref xu, .int (nI n), .ref xi, .ref xk, .ref xt, .ref xr, .int (nI gp), .int (nI cnt), .ref xs, .int (nI win), .int (nI cl), .ref xa, .ref xn, .ref xb, .int (nI m1), .ref xw, .int (nI s1), .ref xg, .int (nI th)])), (xu, .inl (cI, 20, .inl (nF us))), (xi, .inl (cI, 250, .inl (nF ids))), (xk, .inl (cI, 250, .inl kd)), (xt, .inl (cI, 250, .inl (nF tms))), (xr, .inl (cI, 250, .inl (nF ord))), (xs, .inl (cI, 6, .inl stp)), (xa, .inl (cI, 20, .inl kA)), (xn, .inl (cI, 20, .inl kN)), (xb, .inl (cI, 20, .inl kS)), (xw, .inl (cI, 250, .inl (nF o1))), (xg, .inl (cI, 251, .inl (nF g1)))] H → va_D A [(xo, .inr (5, [.ref xu, .int (nI n), .ref xi, .ref xk, .ref xt, .ref xr, .int (nI gp), .int (nI cnt), .ref xs, .int (nI win), .int (nI cl), .ref xa, .ref xn, .ref xb, .int (nI m1), .ref xw, .int (nI s1), .ref xg, .int (nI th)])), (xu, .inl (cI, 20, .inl (nF us))), (xi, .inl (cI, 250, .inl (nF ids))), (xk, .inl (cI, 250, .inl kd)), (xt, .inl (cI, 250, .inl (nF tms))), (xr, .inl (cI, 250, .inl (nF ord))), (xs, .inl (cI, 6, .inl stp)), (xa, .inl (cI, 20, .inl kA)), (xn, .inl (cI, 20, .inl kN)), (xb, .inl (cI, 20, .inl kS)), (xw, .inl (cI, 250, .inl (nF o1))), (xg, .inl (cI, 251, .inl (nF g1)))] → va_S A s.heap H locs → lv_has ls 4 [(3, .int (bI (inRb k1 0 19))), (0, .ref xo), (1, .int k1), (2, .int k2)] → W p l e rm_X5_eventAt s m [.ref xo, .int k1, .int k2].toArray below meth c H locs 0 0 (MQ below (q_X5_eventAt D cI xo xu xi xk xt xr xs xa xn xb xw xg us n ids kd tms ord gp cnt stp win cl kA kN kS my ow sn bg th k1 k2 A) [.ref xo, .int k1, .int k2].toArray s 0 0 A) (F0 m 38 ls [.int (bI f2), .int (bI (inRb k1 0 19)), .ref xo]) := by
      intro f2 H locs ls hf2 hP hD hS hl
      refine muCi (wr := [(xu, .inl (cI, 20, .inl (nF us))), (xi, .inl (cI, 250, .inl (nF ids))), (xk, .inl (cI, 250, .inl kd)), (xt, .inl (cI, 250, .inl (nF tms))), (xr, .inl (cI, 250, .inl (nF ord))), (xs, .inl (cI, 6, .inl stp)), (xa, .inl (cI, 20, .inl kA)), (xn, .inl (cI, 20, .inl kN)), (xb, .inl (cI, 20, .inl kS)), (xw, .inl (cI, 250, .inl (nF o1))), (xg, .inl (cI, 251, .inl (nF g1)))]) (wB := (fun (uu : Nat) => match uu with | th2 => [(xo, .inr (5, [.ref xu, .int (nI n), .ref xi, .ref xk, .ref xt, .ref xr, .int (nI gp), .int (nI cnt), .ref xs, .int (nI win), .int (nI cl), .ref xa, .ref xn, .ref xb, .int (nI m1), .ref xw, .int (nI s1), .ref xg, .int (nI th2)])), (xu, .inl (cI, 20, .inl (nF us))), (xi, .inl (cI, 250, .inl (nF ids))), (xk, .inl (cI, 250, .inl kd)), (xt, .inl (cI, 250, .inl (nF tms))), (xr, .inl (cI, 250, .inl (nF ord))), (xs, .inl (cI, 6, .inl stp)), (xa, .inl (cI, 20, .inl kA)), (xn, .inl (cI, 20, .inl kN)), (xb, .inl (cI, 20, .inl kS)), (xw, .inl (cI, 250, .inl (nF o1))), (xg, .inl (cI, 251, .inl (nF g1)))])) (va_runV (As := [.int (bI (inRb k1 0 19)), .int (bI f2)]) (rest := []) hF (c_X5_mayBoth l D cI xo xu xi xk xt xr xs xa xn xb xw xg n gp cnt win cl m1 s1 th (inRb k1 0 19) f2 H.size ) (cwV 2 hts gX5_eventAt_X5_mayBoth rfl rfl rfl (by decide +kernel) ⟨Nat.le_of_ble_eq_true rfl, Nat.le_of_ble_eq_true rfl⟩) (muV hK hZ [0] rfl hP hD [0] (by decide) rfl 0 (ci := 5) rfl rfl) rfl rfl hl.1 rfl (lv_room (Nat.le_of_ble_eq_true rfl)) dX5_eventAt_38 ⟨Nat.le_of_ble_eq_true rfl, Nat.le_of_ble_eq_true rfl⟩) hP hD hS hA [0] [1, 2, 3, 4, 5, 6, 7, 8, 9, 10, 11] [11, 0, 1, 2, 3, 4, 5, 6, 7, 8, 9, 10] rfl rfl (by decide) (by decide) (by decide) (fun _ => rfl) (fun r_2 th2_1 H locs hw_3 hP hD hS => ?_)
      have hw_3 : r_2 = bI ((inRb k1 0 19) && f2) ∧ th2_1 = mb2 (inRb k1 0 19) f2 := hw_3
      have hP : va_P D vwCl [(xo, .inr (5, [.ref xu, .int (nI n), .ref xi, .ref xk, .ref xt, .ref xr, .int (nI gp), .int (nI cnt), .ref xs, .int (nI win), .int (nI cl), .ref xa, .ref xn, .ref xb, .int (nI m1), .ref xw, .int (nI s1), .ref xg, .int (nI th2_1)])), (xu, .inl (cI, 20, .inl (nF us))), (xi, .inl (cI, 250, .inl (nF ids))), (xk, .inl (cI, 250, .inl kd)), (xt, .inl (cI, 250, .inl (nF tms))), (xr, .inl (cI, 250, .inl (nF ord))), (xs, .inl (cI, 6, .inl stp)), (xa, .inl (cI, 20, .inl kA)), (xn, .inl (cI, 20, .inl kN)), (xb, .inl (cI, 20, .inl kS)), (xw, .inl (cI, 250, .inl (nF o1))), (xg, .inl (cI, 251, .inl (nF g1)))] H := hP
      have hD : va_D A [(xo, .inr (5, [.ref xu, .int (nI n), .ref xi, .ref xk, .ref xt, .ref xr, .int (nI gp), .int (nI cnt), .ref xs, .int (nI win), .int (nI cl), .ref xa, .ref xn, .ref xb, .int (nI m1), .ref xw, .int (nI s1), .ref xg, .int (nI th2_1)])), (xu, .inl (cI, 20, .inl (nF us))), (xi, .inl (cI, 250, .inl (nF ids))), (xk, .inl (cI, 250, .inl kd)), (xt, .inl (cI, 250, .inl (nF tms))), (xr, .inl (cI, 250, .inl (nF ord))), (xs, .inl (cI, 6, .inl stp)), (xa, .inl (cI, 20, .inl kA)), (xn, .inl (cI, 20, .inl kN)), (xb, .inl (cI, 20, .inl kS)), (xw, .inl (cI, 250, .inl (nF o1))), (xg, .inl (cI, 251, .inl (nF g1)))] := hD
      refine f_to (y := bI ((inRb k1 0 19) && f2)) hw_3.1 ?_
      have hth := hw_3.2
      refine f_beq hx hb (tgt := 53) dX5_eventAt_41 (by decide) (fun b41 => ?_) (fun b41 => ?_)
      · skip
        refine lv_iconst (v := nI 0) hx hb dX5_eventAt_53 (by decide) ?_
        exact muRi hx hb hr hlocks (th2_1, m1, o1, s1, g1) ((by
      rw [hf2] at b41 hth
      cases hA1 : inRb k1 0 19 with
      | false => exact Or.inr (Or.inr ⟨rfl, by rw [hth, hA1]; rfl⟩)
      | true =>
        rw [hA1, Bool.true_and] at b41
        exact Or.inr (Or.inl ⟨rfl, by rw [← (hLK hA1).cnt]; exact b41, by rw [hth, hA1, b41]; rfl⟩))) hP hD hS dX5_eventAt_54
      · skip
        have hb2 : inRb k1 0 19 = true ∧ inBb k2 m1 = true := by rw [← hf2, ← Bool.and_eq_true]; exact b41
        have hL2 := hLK hb2.1
        have hLm := hL2.le
        have hb3 := hb2.2
        obtain ⟨j, hjH, rfl⟩ := inB_nat (inBb_t.mp hb3) (by omega)
        have hl : lv_has ls 4 [(3, .int (bI (inRb k1 0 19))), (0, .ref xo), (1, .int k1), (2, .int (nI j))] := hl
        have howj := hL2.ow_lt hI hjH
        refine lv_aload_n hx hb dX5_eventAt_44 rfl (lv_at hl 1 rfl) ?_
        refine va_get (D := D) (ci := 5) (v := .ref xw) (C := RX5) (T := TX5) (N := 19) hx hb hts hinX5 hown hK hP 0 rfl rfl 15 (by decide) hk44 (fun _ h9 => h9) rfl dX5_eventAt_45 ?_
        refine lv_iload_n hx hb dX5_eventAt_48 rfl (lv_at hl 3 rfl) ?_
        refine f_ald hx hb hK hP 10 0 rfl rfl (by omega) (by decide) dX5_eventAt_49 ?_
        refine lv_goto (tgt := 54) hx hb dX5_eventAt_50 (by decide) ?_
        exact muRi hx hb hr hlocks (th2_1, m1, o1, s1, g1) (Or.inl ⟨hb2.1, by rw [← hL2.cnt]; exact hb3, by rw [hth, hf2, hb2.1, hb3]; rfl, by rw [cN_nI (by omega), hL2.how hjH]⟩) hP hD hS dX5_eventAt_54
    refine lv_if_lt hx hb (tgt := 37) dX5_eventAt_22 (by decide) (fun b22 => ?_) (fun b22 => ?_)
    · skip
      refine lv_iconst (v := nI 0) hx hb dX5_eventAt_37 (by decide) ?_
      refine f_to (y := bI false) rfl ?_
      exact key38 false _ _ _  (by first | exact (inBb_lt b22).symm | exact (inBb_ge b30).symm | exact (inBb_in b22 b30).symm) hP hD hS (lv_sub hl [0, 1, 2, 3] rfl)
    · skip
      refine lv_iload_n hx hb dX5_eventAt_25 rfl (lv_at hl 3 rfl) ?_
      refine lv_aload_n hx hb dX5_eventAt_26 rfl (lv_at hl 1 rfl) ?_
      refine va_get (D := D) (ci := 5) (v := .int (nI m1)) (C := RX5) (T := TX5) (N := 19) hx hb hts hinX5 hown hK hP 0 rfl rfl 14 (by decide) hk71 (fun _ h9 => h9) rfl dX5_eventAt_27 ?_
      refine lv_icmp_ge hx hb (tgt := 37) dX5_eventAt_30 (by decide) (fun b30 => ?_) (fun b30 => ?_)
      · skip
        refine lv_iconst (v := nI 0) hx hb dX5_eventAt_37 (by decide) ?_
        refine f_to (y := bI false) rfl ?_
        exact key38 false _ _ _  (by first | exact (inBb_lt b22).symm | exact (inBb_ge b30).symm | exact (inBb_in b22 b30).symm) hP hD hS (lv_sub hl [0, 1, 2, 3] rfl)
      · skip
        refine lv_iconst (v := nI 1) hx hb dX5_eventAt_33 (by decide) ?_
        refine lv_goto (tgt := 38) hx hb dX5_eventAt_34 (by decide) ?_
        refine f_to (y := bI true) rfl ?_
        exact key38 true _ _ _  (by first | exact (inBb_lt b22).symm | exact (inBb_ge b30).symm | exact (inBb_in b22 b30).symm) hP hD hS (lv_sub hl [0, 1, 2, 3] rfl)
  refine lv_iload_n hx hb dX5_eventAt_5 rfl (lv_at hl 0 rfl) ?_
  refine f_beq hx hb (tgt := 19) dX5_eventAt_6 (by decide) (fun b6 => ?_) (fun b6 => ?_)
  · skip
    exact key19 my ow sn bg _ _ _  (fun q => absurd (b6.symm.trans q) (by decide)) hP hD hS (lv_sub hl [0, 1, 2, 3] rfl)
  · skip
    obtain ⟨i, hiL, hiH, rfl⟩ := inR_nat (inRb_t.mp b6) (by omega) (by omega)
    have hl : lv_has ls 4 [(3, .int (bI (inRb (nI i) 0 19))), (0, .ref xo), (1, .int (nI i)), (2, .int k2)] := hl
    have hui := hI.hus i
    refine lv_aload_n hx hb dX5_eventAt_9 rfl (lv_at hl 1 rfl) ?_
    refine lv_aload_n hx hb dX5_eventAt_10 rfl (lv_at hl 1 rfl) ?_
    refine va_get (D := D) (ci := 5) (v := .ref xu) (C := RX5) (T := TX5) (N := 19) hx hb hts hinX5 hown hK hP 0 rfl rfl 0 (by decide) hk7 (fun _ h9 => h9) rfl dX5_eventAt_11 ?_
    refine lv_iload_n hx hb dX5_eventAt_14 rfl (lv_at hl 2 rfl) ?_
    refine f_ald hx hb hK hP 1 0 rfl rfl (by omega) (by decide) dX5_eventAt_15 ?_
    refine muCv (wr := [(xk, .inl (cI, 250, .inl kd)), (xs, .inl (cI, 6, .inl stp)), (xa, .inl (cI, 20, .inl kA)), (xn, .inl (cI, 20, .inl kN)), (xb, .inl (cI, 20, .inl kS))]) (wB := (fun (uu : Nat × (Nat → Nat) × Nat × (Nat → Nat)) => match uu with | (my2, ow2, sn2, bg2) => [(xo, .inr (5, [.ref xu, .int (nI n), .ref xi, .ref xk, .ref xt, .ref xr, .int (nI gp), .int (nI cnt), .ref xs, .int (nI win), .int (nI cl), .ref xa, .ref xn, .ref xb, .int (nI my2), .ref xw, .int (nI sn2), .ref xg, .int (nI th)])), (xu, .inl (cI, 20, .inl (nF us))), (xi, .inl (cI, 250, .inl (nF ids))), (xk, .inl (cI, 250, .inl kd)), (xt, .inl (cI, 250, .inl (nF tms))), (xr, .inl (cI, 250, .inl (nF ord))), (xs, .inl (cI, 6, .inl stp)), (xa, .inl (cI, 20, .inl kA)), (xn, .inl (cI, 20, .inl kN)), (xb, .inl (cI, 20, .inl kS)), (xw, .inl (cI, 250, .inl (nF ow2))), (xg, .inl (cI, 251, .inl (nF bg2)))])) (va_runV (As := [.int (nI (us i))]) (rest := []) hF (c_X5_look l D cI xo xu xi xk xt xr xs xa xn xb xw xg us n ids tms ord gp cnt win cl my ow sn bg th (us i) s.heap.size (by first | assumption | omega) (by first | assumption | omega) (by first | assumption | omega)) (cwV 1 hts gX5_eventAt_X5_look rfl rfl rfl (by decide +kernel) ⟨Nat.le_of_ble_eq_true rfl, Nat.le_of_ble_eq_true rfl⟩) (muV hK hZ [0] rfl hP hD [0, 1, 2, 4, 5, 10, 11] (by decide) rfl 0 (ci := 5) rfl rfl) rfl rfl hl.1 rfl (lv_room (Nat.le_of_ble_eq_true rfl)) dX5_eventAt_16 ⟨Nat.le_of_ble_eq_true rfl, Nat.le_of_ble_eq_true rfl⟩) hP hD hS hA [0, 1, 2, 4, 5, 10, 11] [3, 6, 7, 8, 9] [5, 6, 7, 0, 8, 9, 1, 2, 3, 4, 10, 11] rfl rfl (by decide) (by decide) (by decide) (fun _ => rfl) (fun u_10 H locs hw_9 hP hD hS => ?_)
    obtain ⟨my2_4, ow2_5, sn2_6, bg2_7⟩ := u_10
    have hw_9 : LKok us ids tms ord n gp (us i) my2_4 ow2_5 sn2_6 bg2_7 := hw_9
    have hP : va_P D vwCl [(xo, .inr (5, [.ref xu, .int (nI n), .ref xi, .ref xk, .ref xt, .ref xr, .int (nI gp), .int (nI cnt), .ref xs, .int (nI win), .int (nI cl), .ref xa, .ref xn, .ref xb, .int (nI my2_4), .ref xw, .int (nI sn2_6), .ref xg, .int (nI th)])), (xu, .inl (cI, 20, .inl (nF us))), (xi, .inl (cI, 250, .inl (nF ids))), (xk, .inl (cI, 250, .inl kd)), (xt, .inl (cI, 250, .inl (nF tms))), (xr, .inl (cI, 250, .inl (nF ord))), (xs, .inl (cI, 6, .inl stp)), (xa, .inl (cI, 20, .inl kA)), (xn, .inl (cI, 20, .inl kN)), (xb, .inl (cI, 20, .inl kS)), (xw, .inl (cI, 250, .inl (nF ow2_5))), (xg, .inl (cI, 251, .inl (nF bg2_7)))] H := hP
    have hD : va_D A [(xo, .inr (5, [.ref xu, .int (nI n), .ref xi, .ref xk, .ref xt, .ref xr, .int (nI gp), .int (nI cnt), .ref xs, .int (nI win), .int (nI cl), .ref xa, .ref xn, .ref xb, .int (nI my2_4), .ref xw, .int (nI sn2_6), .ref xg, .int (nI th)])), (xu, .inl (cI, 20, .inl (nF us))), (xi, .inl (cI, 250, .inl (nF ids))), (xk, .inl (cI, 250, .inl kd)), (xt, .inl (cI, 250, .inl (nF tms))), (xr, .inl (cI, 250, .inl (nF ord))), (xs, .inl (cI, 6, .inl stp)), (xa, .inl (cI, 20, .inl kA)), (xn, .inl (cI, 20, .inl kN)), (xb, .inl (cI, 20, .inl kS)), (xw, .inl (cI, 250, .inl (nF ow2_5))), (xg, .inl (cI, 251, .inl (nF bg2_7)))] := hD
    have hLK := hw_9
    have hLm := hLK.le
    have hLs := hLK.le2
    exact key19 my2_4 ow2_5 sn2_6 bg2_7 _ _ _  (fun _ => by rw [cN_nI (by omega)]; exact hLK) hP hD hS (lv_sub hl [0, 1, 2, 3] rfl)

abbrev rm_X5_sessionEvents : Room := { frames := 2, cells := 0, slots := 0, locals := 46 }
abbrev q_X5_sessionEvents (D : va_G) (cI : ClassId) (xo : Nat) (xu : Nat) (xi : Nat) (xk : Nat) (xt : Nat) (xr : Nat) (xs : Nat) (xa : Nat) (xn : Nat) (xb : Nat) (xw : Nat) (xg : Nat) (us : Nat → Nat) (n : Nat) (ids : Nat → Nat) (kd : Nat → Int32) (tms : Nat → Nat) (ord : Nat → Nat) (gp : Nat) (cnt : Nat) (stp : Nat → Int32) (win : Nat) (cl : Nat) (kA : Nat → Int32) (kN : Nat → Int32) (kS : Nat → Int32) (my : Nat) (ow : Nat → Nat) (sn : Nat) (bg : Nat → Nat) (th : Nat) (k1 : Int32) (k2 : Int32) (A : Nat → Prop) : Array Value → State → Outcome → State → Prop := muQi D (fun (r : Int32) (uu : Nat × Nat × (Nat → Nat) × Nat × (Nat → Nat)) => match uu with | (th2, my2, ow2, sn2, bg2) => (inRb k1 0 19 = true ∧ inBb k2 (fb_ct (bs (tau us ids tms ord n (us (cN k1))) gp) (mm us ids ord n (us (cN k1)))) = true ∧ th2 = 0 ∧ r = nI (sbL (bs (tau us ids tms ord n (us (cN k1))) gp) (nI (cN k2 + 1)) (mm us ids ord n (us (cN k1))) 0) - nI (sbL (bs (tau us ids tms ord n (us (cN k1))) gp) (nI (cN k2)) (mm us ids ord n (us (cN k1))) 0)) ∨ (inRb k1 0 19 = true ∧ inBb k2 (fb_ct (bs (tau us ids tms ord n (us (cN k1))) gp) (mm us ids ord n (us (cN k1)))) = false ∧ th2 = 2) ∨ (inRb k1 0 19 = false ∧ th2 = 1)) (fun (uu : Nat × Nat × (Nat → Nat) × Nat × (Nat → Nat)) => match uu with | (th2, my2, ow2, sn2, bg2) => [(xo, .inr (5, [.ref xu, .int (nI n), .ref xi, .ref xk, .ref xt, .ref xr, .int (nI gp), .int (nI cnt), .ref xs, .int (nI win), .int (nI cl), .ref xa, .ref xn, .ref xb, .int (nI my2), .ref xw, .int (nI sn2), .ref xg, .int (nI th2)])), (xu, .inl (cI, 20, .inl (nF us))), (xi, .inl (cI, 250, .inl (nF ids))), (xk, .inl (cI, 250, .inl kd)), (xt, .inl (cI, 250, .inl (nF tms))), (xr, .inl (cI, 250, .inl (nF ord))), (xs, .inl (cI, 6, .inl stp)), (xa, .inl (cI, 20, .inl kA)), (xn, .inl (cI, 20, .inl kN)), (xb, .inl (cI, 20, .inl kS)), (xw, .inl (cI, 250, .inl (nF ow2))), (xg, .inl (cI, 251, .inl (nF bg2)))]) A
set_option maxHeartbeats 8000000 in
set_option maxRecDepth 100000 in
theorem c_X5_sessionEvents (l : Launch) (D : va_G) (cI : ClassId) (xo : Nat) (xu : Nat) (xi : Nat) (xk : Nat) (xt : Nat) (xr : Nat) (xs : Nat) (xa : Nat) (xn : Nat) (xb : Nat) (xw : Nat) (xg : Nat) (us : Nat → Nat) (n : Nat) (ids : Nat → Nat) (kd : Nat → Int32) (tms : Nat → Nat) (ord : Nat → Nat) (gp : Nat) (cnt : Nat) (stp : Nat → Int32) (win : Nat) (cl : Nat) (kA : Nat → Int32) (kN : Nat → Int32) (kS : Nat → Int32) (my : Nat) (ow : Nat → Nat) (sn : Nat) (bg : Nat → Nat) (th : Nat) (k1 : Int32) (k2 : Int32) (sz : Nat) (hI : Inv us ids tms ord n) (hcnt : cnt ≤ 6) (hwin : win < 2000) (hg : gp ≤ 500) (hcl : cl ≤ 20) : Met l yX5_sessionEvents wsX5_sessionEvents rm_X5_sessionEvents (muP D (tI cI) [.ref xo, .int k1, .int k2] [(xo, .inr (5, [.ref xu, .int (nI n), .ref xi, .ref xk, .ref xt, .ref xr, .int (nI gp), .int (nI cnt), .ref xs, .int (nI win), .int (nI cl), .ref xa, .ref xn, .ref xb, .int (nI my), .ref xw, .int (nI sn), .ref xg, .int (nI th)])), (xu, .inl (cI, 20, .inl (nF us))), (xi, .inl (cI, 250, .inl (nF ids))), (xk, .inl (cI, 250, .inl kd)), (xt, .inl (cI, 250, .inl (nF tms))), (xr, .inl (cI, 250, .inl (nF ord))), (xs, .inl (cI, 6, .inl stp)), (xa, .inl (cI, 20, .inl kA)), (xn, .inl (cI, 20, .inl kN)), (xb, .inl (cI, 20, .inl kS)), (xw, .inl (cI, 250, .inl (nF ow))), (xg, .inl (cI, 251, .inl (nF bg)))] sz) (q_X5_sessionEvents D cI xo xu xi xk xt xr xs xa xn xb xw xg us n ids kd tms ord gp cnt stp win cl kA kN kS my ow sn bg th k1 k2 (va_A [(xo, .inr (5, [.ref xu, .int (nI n), .ref xi, .ref xk, .ref xt, .ref xr, .int (nI gp), .int (nI cnt), .ref xs, .int (nI win), .int (nI cl), .ref xa, .ref xn, .ref xb, .int (nI my), .ref xw, .int (nI sn), .ref xg, .int (nI th)])), (xu, .inl (cI, 20, .inl (nF us))), (xi, .inl (cI, 250, .inl (nF ids))), (xk, .inl (cI, 250, .inl kd)), (xt, .inl (cI, 250, .inl (nF tms))), (xr, .inl (cI, 250, .inl (nF ord))), (xs, .inl (cI, 6, .inl stp)), (xa, .inl (cI, 20, .inl kA)), (xn, .inl (cI, 20, .inl kN)), (xb, .inl (cI, 20, .inl kS)), (xw, .inl (cI, 250, .inl (nF ow))), (xg, .inl (cI, 251, .inl (nF bg)))] sz)) 0 0 (va_A [(xo, .inr (5, [.ref xu, .int (nI n), .ref xi, .ref xk, .ref xt, .ref xr, .int (nI gp), .int (nI cnt), .ref xs, .int (nI win), .int (nI cl), .ref xa, .ref xn, .ref xb, .int (nI my), .ref xw, .int (nI sn), .ref xg, .int (nI th)])), (xu, .inl (cI, 20, .inl (nF us))), (xi, .inl (cI, 250, .inl (nF ids))), (xk, .inl (cI, 250, .inl kd)), (xt, .inl (cI, 250, .inl (nF tms))), (xr, .inl (cI, 250, .inl (nF ord))), (xs, .inl (cI, 6, .inl stp)), (xa, .inl (cI, 20, .inl kA)), (xn, .inl (cI, 20, .inl kN)), (xb, .inl (cI, 20, .inl kS)), (xw, .inl (cI, 250, .inl (nF ow))), (xg, .inl (cI, 251, .inl (nF bg)))] sz) := by
  refine muOf (Qc := fun A => q_X5_sessionEvents D cI xo xu xi xk xt xr xs xa xn xb xw xg us n ids kd tms ord gp cnt stp win cl kA kN kS my ow sn bg th k1 k2 A) (cc := cX5_sessionEvents) (maxL := 3) (ret := (some .int)) (by decide) rfl (Nat.le_of_ble_eq_true rfl) ?_
  intro p e s m below meth c ls A hx hb hml hown hts hr hlocks hnm hP hK hZ hD hA hS hl
  have hown : s.vm.findClass RX5 = some m.cls := hown
  have hl : lv_has ls 3 [(0, .ref xo), (1, .int k1), (2, .int k2)] := hl
  have hF : CallFix p m c cX5_sessionEvents 3 s [.ref xo, .int k1, .int k2].toArray wsX5_sessionEvents RX5 := ⟨hx, hb, hml, hown, hts⟩
  have hinX5 : ∀ w ∈ wsX50, w ∈ wsX5_sessionEvents := by decide +kernel
  have hk47 := hts (.fieldLink RX5 47 "FunnelFoldModel" "begin" "[I") (by decide +kernel)
  have hn250 := hI.hn
  refine lv_aload_n hx hb dX5_sessionEvents_0 rfl (lv_at hl 0 rfl) ?_
  refine lv_iload_n hx hb dX5_sessionEvents_1 rfl (lv_at hl 1 rfl) ?_
  refine lv_iload_n hx hb dX5_sessionEvents_2 rfl (lv_at hl 2 rfl) ?_
  refine muCi (wr := [(xk, .inl (cI, 250, .inl kd)), (xs, .inl (cI, 6, .inl stp)), (xa, .inl (cI, 20, .inl kA)), (xn, .inl (cI, 20, .inl kN)), (xb, .inl (cI, 20, .inl kS))]) (wB := (fun (uu : Nat × Nat × (Nat → Nat) × Nat × (Nat → Nat)) => match uu with | (th2, my2, ow2, sn2, bg2) => [(xo, .inr (5, [.ref xu, .int (nI n), .ref xi, .ref xk, .ref xt, .ref xr, .int (nI gp), .int (nI cnt), .ref xs, .int (nI win), .int (nI cl), .ref xa, .ref xn, .ref xb, .int (nI my2), .ref xw, .int (nI sn2), .ref xg, .int (nI th2)])), (xu, .inl (cI, 20, .inl (nF us))), (xi, .inl (cI, 250, .inl (nF ids))), (xk, .inl (cI, 250, .inl kd)), (xt, .inl (cI, 250, .inl (nF tms))), (xr, .inl (cI, 250, .inl (nF ord))), (xs, .inl (cI, 6, .inl stp)), (xa, .inl (cI, 20, .inl kA)), (xn, .inl (cI, 20, .inl kN)), (xb, .inl (cI, 20, .inl kS)), (xw, .inl (cI, 250, .inl (nF ow2))), (xg, .inl (cI, 251, .inl (nF bg2)))])) (va_runV (As := [.int k1, .int k2]) (rest := []) hF (c_X5_has l D cI xo xu xi xk xt xr xs xa xn xb xw xg us n ids tms ord gp cnt win cl my ow sn bg th k1 k2 s.heap.size (by first | assumption | omega) (by first | assumption | omega)) (cwV 2 hts gX5_sessionEvents_X5_has rfl rfl rfl (by decide +kernel) ⟨Nat.le_of_ble_eq_true rfl, Nat.le_of_ble_eq_true rfl⟩) (muV hK hZ [0] rfl hP hD [0, 1, 2, 4, 5, 10, 11] (by decide) rfl 0 (ci := 5) rfl rfl) rfl rfl hl.1 rfl (lv_room (Nat.le_of_ble_eq_true rfl)) dX5_sessionEvents_3 ⟨Nat.le_of_ble_eq_true rfl, Nat.le_of_ble_eq_true rfl⟩) hP hD hS hA [0, 1, 2, 4, 5, 10, 11] [3, 6, 7, 8, 9] [5, 6, 7, 0, 8, 9, 1, 2, 3, 4, 10, 11] rfl rfl (by decide) (by decide) (by decide) (fun _ => rfl) (fun r_6 u_8 H locs hw_7 hP hD hS => ?_)
  obtain ⟨th2_1, my2_2, ow2_3, sn2_4, bg2_5⟩ := u_8
  have hw_7 : (inRb k1 0 19 = true → LKok us ids tms ord n gp (us (cN k1)) my2_2 ow2_3 sn2_4 bg2_5) ∧ r_6 = bI (inRb k1 0 19 && inBb k2 sn2_4) ∧ th2_1 = mb2 (inRb k1 0 19) (inBb k2 sn2_4) := hw_7
  have hP : va_P D vwCl [(xo, .inr (5, [.ref xu, .int (nI n), .ref xi, .ref xk, .ref xt, .ref xr, .int (nI gp), .int (nI cnt), .ref xs, .int (nI win), .int (nI cl), .ref xa, .ref xn, .ref xb, .int (nI my2_2), .ref xw, .int (nI sn2_4), .ref xg, .int (nI th2_1)])), (xu, .inl (cI, 20, .inl (nF us))), (xi, .inl (cI, 250, .inl (nF ids))), (xk, .inl (cI, 250, .inl kd)), (xt, .inl (cI, 250, .inl (nF tms))), (xr, .inl (cI, 250, .inl (nF ord))), (xs, .inl (cI, 6, .inl stp)), (xa, .inl (cI, 20, .inl kA)), (xn, .inl (cI, 20, .inl kN)), (xb, .inl (cI, 20, .inl kS)), (xw, .inl (cI, 250, .inl (nF ow2_3))), (xg, .inl (cI, 251, .inl (nF bg2_5)))] H := hP
  have hD : va_D A [(xo, .inr (5, [.ref xu, .int (nI n), .ref xi, .ref xk, .ref xt, .ref xr, .int (nI gp), .int (nI cnt), .ref xs, .int (nI win), .int (nI cl), .ref xa, .ref xn, .ref xb, .int (nI my2_2), .ref xw, .int (nI sn2_4), .ref xg, .int (nI th2_1)])), (xu, .inl (cI, 20, .inl (nF us))), (xi, .inl (cI, 250, .inl (nF ids))), (xk, .inl (cI, 250, .inl kd)), (xt, .inl (cI, 250, .inl (nF tms))), (xr, .inl (cI, 250, .inl (nF ord))), (xs, .inl (cI, 6, .inl stp)), (xa, .inl (cI, 20, .inl kA)), (xn, .inl (cI, 20, .inl kN)), (xb, .inl (cI, 20, .inl kS)), (xw, .inl (cI, 250, .inl (nF ow2_3))), (xg, .inl (cI, 251, .inl (nF bg2_5)))] := hD
  refine f_to (y := bI (inRb k1 0 19 && inBb k2 sn2_4)) hw_7.2.1 ?_
  have hA := hw_7.1
  have hth := hw_7.2.2
  refine f_beq hx hb (tgt := 27) dX5_sessionEvents_6 (by decide) (fun b6 => ?_) (fun b6 => ?_)
  · skip
    refine lv_iconst (v := nI 0) hx hb dX5_sessionEvents_27 (by decide) ?_
    exact muRi hx hb hr hlocks (th2_1, my2_2, ow2_3, sn2_4, bg2_5) ((by
      cases hA1 : inRb k1 0 19 with
      | false => exact Or.inr (Or.inr ⟨rfl, by rw [hth, hA1]; rfl⟩)
      | true =>
        rw [hA1, Bool.true_and] at b6
        exact Or.inr (Or.inl ⟨rfl, by rw [← (hA hA1).se]; exact b6, by rw [hth, hA1, b6]; rfl⟩))) hP hD hS dX5_sessionEvents_28
  · skip
    have hb2 := b6
    rw [Bool.and_eq_true] at hb2
    have hL2 := hA hb2.1
    have hLm := hL2.le
    have hLs := hL2.le2
    have hb3 := hb2.2
    obtain ⟨j, hjH, rfl⟩ := inB_nat (inBb_t.mp hb3) (by omega)
    have hl : lv_has ls 3 [(0, .ref xo), (1, .int k1), (2, .int (nI j))] := hl
    have hbl := hL2.hbl hn250 hjH
    have hb0 := hL2.hbl0 hn250 hjH
    have how0 := hL2.ow_lt hI hb0
    refine lv_aload_n hx hb dX5_sessionEvents_9 rfl (lv_at hl 0 rfl) ?_
    refine va_get (D := D) (ci := 5) (v := .ref xg) (C := RX5) (T := TX5) (N := 19) hx hb hts hinX5 hown hK hP 0 rfl rfl 17 (by decide) hk47 (fun _ h9 => h9) rfl dX5_sessionEvents_10 ?_
    refine lv_iload_n hx hb dX5_sessionEvents_13 rfl (lv_at hl 2 rfl) ?_
    refine lv_iconst (v := nI 1) hx hb dX5_sessionEvents_14 (by decide) ?_
    refine f_add hx hb dX5_sessionEvents_15 ?_
    refine f_ald hx hb hK hP 11 0 rfl rfl (by omega) (by decide) dX5_sessionEvents_16 ?_
    refine lv_aload_n hx hb dX5_sessionEvents_17 rfl (lv_at hl 0 rfl) ?_
    refine va_get (D := D) (ci := 5) (v := .ref xg) (C := RX5) (T := TX5) (N := 19) hx hb hts hinX5 hown hK hP 0 rfl rfl 17 (by decide) hk47 (fun _ h9 => h9) rfl dX5_sessionEvents_18 ?_
    refine lv_iload_n hx hb dX5_sessionEvents_21 rfl (lv_at hl 2 rfl) ?_
    refine f_ald hx hb hK hP 11 0 rfl rfl (by omega) (by decide) dX5_sessionEvents_22 ?_
    refine lv_isub hx hb dX5_sessionEvents_23 ?_
    refine lv_goto (tgt := 28) hx hb dX5_sessionEvents_24 (by decide) ?_
    exact muRi hx hb hr hlocks (th2_1, my2_2, ow2_3, sn2_4, bg2_5) (Or.inl ⟨hb2.1, by rw [← hL2.se]; exact hb3, by rw [hth, hb2.1, hb3]; rfl, by rw [cN_nI (by omega), ← hL2.hbg (s := j + 1) (by omega), ← hL2.hbg (s := j) (by omega)]⟩) hP hD hS dX5_sessionEvents_28

abbrev rm_X5_sessionStart : Room := { frames := 2, cells := 0, slots := 0, locals := 46 }
abbrev q_X5_sessionStart (D : va_G) (cI : ClassId) (xo : Nat) (xu : Nat) (xi : Nat) (xk : Nat) (xt : Nat) (xr : Nat) (xs : Nat) (xa : Nat) (xn : Nat) (xb : Nat) (xw : Nat) (xg : Nat) (us : Nat → Nat) (n : Nat) (ids : Nat → Nat) (kd : Nat → Int32) (tms : Nat → Nat) (ord : Nat → Nat) (gp : Nat) (cnt : Nat) (stp : Nat → Int32) (win : Nat) (cl : Nat) (kA : Nat → Int32) (kN : Nat → Int32) (kS : Nat → Int32) (my : Nat) (ow : Nat → Nat) (sn : Nat) (bg : Nat → Nat) (th : Nat) (k1 : Int32) (k2 : Int32) (A : Nat → Prop) : Array Value → State → Outcome → State → Prop := muQi D (fun (r : Int32) (uu : Nat × Nat × (Nat → Nat) × Nat × (Nat → Nat)) => match uu with | (th2, my2, ow2, sn2, bg2) => (inRb k1 0 19 = true ∧ inBb k2 (fb_ct (bs (tau us ids tms ord n (us (cN k1))) gp) (mm us ids ord n (us (cN k1)))) = true ∧ th2 = 0 ∧ r = nI (tau us ids tms ord n (us (cN k1)) (sbL (bs (tau us ids tms ord n (us (cN k1))) gp) (nI (cN k2)) (mm us ids ord n (us (cN k1))) 0))) ∨ (inRb k1 0 19 = true ∧ inBb k2 (fb_ct (bs (tau us ids tms ord n (us (cN k1))) gp) (mm us ids ord n (us (cN k1)))) = false ∧ th2 = 2) ∨ (inRb k1 0 19 = false ∧ th2 = 1)) (fun (uu : Nat × Nat × (Nat → Nat) × Nat × (Nat → Nat)) => match uu with | (th2, my2, ow2, sn2, bg2) => [(xo, .inr (5, [.ref xu, .int (nI n), .ref xi, .ref xk, .ref xt, .ref xr, .int (nI gp), .int (nI cnt), .ref xs, .int (nI win), .int (nI cl), .ref xa, .ref xn, .ref xb, .int (nI my2), .ref xw, .int (nI sn2), .ref xg, .int (nI th2)])), (xu, .inl (cI, 20, .inl (nF us))), (xi, .inl (cI, 250, .inl (nF ids))), (xk, .inl (cI, 250, .inl kd)), (xt, .inl (cI, 250, .inl (nF tms))), (xr, .inl (cI, 250, .inl (nF ord))), (xs, .inl (cI, 6, .inl stp)), (xa, .inl (cI, 20, .inl kA)), (xn, .inl (cI, 20, .inl kN)), (xb, .inl (cI, 20, .inl kS)), (xw, .inl (cI, 250, .inl (nF ow2))), (xg, .inl (cI, 251, .inl (nF bg2)))]) A
set_option maxHeartbeats 8000000 in
set_option maxRecDepth 100000 in
theorem c_X5_sessionStart (l : Launch) (D : va_G) (cI : ClassId) (xo : Nat) (xu : Nat) (xi : Nat) (xk : Nat) (xt : Nat) (xr : Nat) (xs : Nat) (xa : Nat) (xn : Nat) (xb : Nat) (xw : Nat) (xg : Nat) (us : Nat → Nat) (n : Nat) (ids : Nat → Nat) (kd : Nat → Int32) (tms : Nat → Nat) (ord : Nat → Nat) (gp : Nat) (cnt : Nat) (stp : Nat → Int32) (win : Nat) (cl : Nat) (kA : Nat → Int32) (kN : Nat → Int32) (kS : Nat → Int32) (my : Nat) (ow : Nat → Nat) (sn : Nat) (bg : Nat → Nat) (th : Nat) (k1 : Int32) (k2 : Int32) (sz : Nat) (hI : Inv us ids tms ord n) (hcnt : cnt ≤ 6) (hwin : win < 2000) (hg : gp ≤ 500) (hcl : cl ≤ 20) : Met l yX5_sessionStart wsX5_sessionStart rm_X5_sessionStart (muP D (tI cI) [.ref xo, .int k1, .int k2] [(xo, .inr (5, [.ref xu, .int (nI n), .ref xi, .ref xk, .ref xt, .ref xr, .int (nI gp), .int (nI cnt), .ref xs, .int (nI win), .int (nI cl), .ref xa, .ref xn, .ref xb, .int (nI my), .ref xw, .int (nI sn), .ref xg, .int (nI th)])), (xu, .inl (cI, 20, .inl (nF us))), (xi, .inl (cI, 250, .inl (nF ids))), (xk, .inl (cI, 250, .inl kd)), (xt, .inl (cI, 250, .inl (nF tms))), (xr, .inl (cI, 250, .inl (nF ord))), (xs, .inl (cI, 6, .inl stp)), (xa, .inl (cI, 20, .inl kA)), (xn, .inl (cI, 20, .inl kN)), (xb, .inl (cI, 20, .inl kS)), (xw, .inl (cI, 250, .inl (nF ow))), (xg, .inl (cI, 251, .inl (nF bg)))] sz) (q_X5_sessionStart D cI xo xu xi xk xt xr xs xa xn xb xw xg us n ids kd tms ord gp cnt stp win cl kA kN kS my ow sn bg th k1 k2 (va_A [(xo, .inr (5, [.ref xu, .int (nI n), .ref xi, .ref xk, .ref xt, .ref xr, .int (nI gp), .int (nI cnt), .ref xs, .int (nI win), .int (nI cl), .ref xa, .ref xn, .ref xb, .int (nI my), .ref xw, .int (nI sn), .ref xg, .int (nI th)])), (xu, .inl (cI, 20, .inl (nF us))), (xi, .inl (cI, 250, .inl (nF ids))), (xk, .inl (cI, 250, .inl kd)), (xt, .inl (cI, 250, .inl (nF tms))), (xr, .inl (cI, 250, .inl (nF ord))), (xs, .inl (cI, 6, .inl stp)), (xa, .inl (cI, 20, .inl kA)), (xn, .inl (cI, 20, .inl kN)), (xb, .inl (cI, 20, .inl kS)), (xw, .inl (cI, 250, .inl (nF ow))), (xg, .inl (cI, 251, .inl (nF bg)))] sz)) 0 0 (va_A [(xo, .inr (5, [.ref xu, .int (nI n), .ref xi, .ref xk, .ref xt, .ref xr, .int (nI gp), .int (nI cnt), .ref xs, .int (nI win), .int (nI cl), .ref xa, .ref xn, .ref xb, .int (nI my), .ref xw, .int (nI sn), .ref xg, .int (nI th)])), (xu, .inl (cI, 20, .inl (nF us))), (xi, .inl (cI, 250, .inl (nF ids))), (xk, .inl (cI, 250, .inl kd)), (xt, .inl (cI, 250, .inl (nF tms))), (xr, .inl (cI, 250, .inl (nF ord))), (xs, .inl (cI, 6, .inl stp)), (xa, .inl (cI, 20, .inl kA)), (xn, .inl (cI, 20, .inl kN)), (xb, .inl (cI, 20, .inl kS)), (xw, .inl (cI, 250, .inl (nF ow))), (xg, .inl (cI, 251, .inl (nF bg)))] sz) := by
  refine muOf (Qc := fun A => q_X5_sessionStart D cI xo xu xi xk xt xr xs xa xn xb xw xg us n ids kd tms ord gp cnt stp win cl kA kN kS my ow sn bg th k1 k2 A) (cc := cX5_sessionStart) (maxL := 3) (ret := (some .int)) (by decide) rfl (Nat.le_of_ble_eq_true rfl) ?_
  intro p e s m below meth c ls A hx hb hml hown hts hr hlocks hnm hP hK hZ hD hA hS hl
  have hown : s.vm.findClass RX5 = some m.cls := hown
  have hl : lv_has ls 3 [(0, .ref xo), (1, .int k1), (2, .int k2)] := hl
  have hF : CallFix p m c cX5_sessionStart 3 s [.ref xo, .int k1, .int k2].toArray wsX5_sessionStart RX5 := ⟨hx, hb, hml, hown, hts⟩
  have hinX5 : ∀ w ∈ wsX50, w ∈ wsX5_sessionStart := by decide +kernel
  have hk19 := hts (.fieldLink RX5 19 "FunnelFoldModel" "time" "[I") (by decide +kernel)
  have hk44 := hts (.fieldLink RX5 44 "FunnelFoldModel" "own" "[I") (by decide +kernel)
  have hk47 := hts (.fieldLink RX5 47 "FunnelFoldModel" "begin" "[I") (by decide +kernel)
  have hn250 := hI.hn
  refine lv_aload_n hx hb dX5_sessionStart_0 rfl (lv_at hl 0 rfl) ?_
  refine lv_iload_n hx hb dX5_sessionStart_1 rfl (lv_at hl 1 rfl) ?_
  refine lv_iload_n hx hb dX5_sessionStart_2 rfl (lv_at hl 2 rfl) ?_
  refine muCi (wr := [(xk, .inl (cI, 250, .inl kd)), (xs, .inl (cI, 6, .inl stp)), (xa, .inl (cI, 20, .inl kA)), (xn, .inl (cI, 20, .inl kN)), (xb, .inl (cI, 20, .inl kS))]) (wB := (fun (uu : Nat × Nat × (Nat → Nat) × Nat × (Nat → Nat)) => match uu with | (th2, my2, ow2, sn2, bg2) => [(xo, .inr (5, [.ref xu, .int (nI n), .ref xi, .ref xk, .ref xt, .ref xr, .int (nI gp), .int (nI cnt), .ref xs, .int (nI win), .int (nI cl), .ref xa, .ref xn, .ref xb, .int (nI my2), .ref xw, .int (nI sn2), .ref xg, .int (nI th2)])), (xu, .inl (cI, 20, .inl (nF us))), (xi, .inl (cI, 250, .inl (nF ids))), (xk, .inl (cI, 250, .inl kd)), (xt, .inl (cI, 250, .inl (nF tms))), (xr, .inl (cI, 250, .inl (nF ord))), (xs, .inl (cI, 6, .inl stp)), (xa, .inl (cI, 20, .inl kA)), (xn, .inl (cI, 20, .inl kN)), (xb, .inl (cI, 20, .inl kS)), (xw, .inl (cI, 250, .inl (nF ow2))), (xg, .inl (cI, 251, .inl (nF bg2)))])) (va_runV (As := [.int k1, .int k2]) (rest := []) hF (c_X5_has l D cI xo xu xi xk xt xr xs xa xn xb xw xg us n ids tms ord gp cnt win cl my ow sn bg th k1 k2 s.heap.size (by first | assumption | omega) (by first | assumption | omega)) (cwV 2 hts gX5_sessionStart_X5_has rfl rfl rfl (by decide +kernel) ⟨Nat.le_of_ble_eq_true rfl, Nat.le_of_ble_eq_true rfl⟩) (muV hK hZ [0] rfl hP hD [0, 1, 2, 4, 5, 10, 11] (by decide) rfl 0 (ci := 5) rfl rfl) rfl rfl hl.1 rfl (lv_room (Nat.le_of_ble_eq_true rfl)) dX5_sessionStart_3 ⟨Nat.le_of_ble_eq_true rfl, Nat.le_of_ble_eq_true rfl⟩) hP hD hS hA [0, 1, 2, 4, 5, 10, 11] [3, 6, 7, 8, 9] [5, 6, 7, 0, 8, 9, 1, 2, 3, 4, 10, 11] rfl rfl (by decide) (by decide) (by decide) (fun _ => rfl) (fun r_6 u_8 H locs hw_7 hP hD hS => ?_)
  obtain ⟨th2_1, my2_2, ow2_3, sn2_4, bg2_5⟩ := u_8
  have hw_7 : (inRb k1 0 19 = true → LKok us ids tms ord n gp (us (cN k1)) my2_2 ow2_3 sn2_4 bg2_5) ∧ r_6 = bI (inRb k1 0 19 && inBb k2 sn2_4) ∧ th2_1 = mb2 (inRb k1 0 19) (inBb k2 sn2_4) := hw_7
  have hP : va_P D vwCl [(xo, .inr (5, [.ref xu, .int (nI n), .ref xi, .ref xk, .ref xt, .ref xr, .int (nI gp), .int (nI cnt), .ref xs, .int (nI win), .int (nI cl), .ref xa, .ref xn, .ref xb, .int (nI my2_2), .ref xw, .int (nI sn2_4), .ref xg, .int (nI th2_1)])), (xu, .inl (cI, 20, .inl (nF us))), (xi, .inl (cI, 250, .inl (nF ids))), (xk, .inl (cI, 250, .inl kd)), (xt, .inl (cI, 250, .inl (nF tms))), (xr, .inl (cI, 250, .inl (nF ord))), (xs, .inl (cI, 6, .inl stp)), (xa, .inl (cI, 20, .inl kA)), (xn, .inl (cI, 20, .inl kN)), (xb, .inl (cI, 20, .inl kS)), (xw, .inl (cI, 250, .inl (nF ow2_3))), (xg, .inl (cI, 251, .inl (nF bg2_5)))] H := hP
  have hD : va_D A [(xo, .inr (5, [.ref xu, .int (nI n), .ref xi, .ref xk, .ref xt, .ref xr, .int (nI gp), .int (nI cnt), .ref xs, .int (nI win), .int (nI cl), .ref xa, .ref xn, .ref xb, .int (nI my2_2), .ref xw, .int (nI sn2_4), .ref xg, .int (nI th2_1)])), (xu, .inl (cI, 20, .inl (nF us))), (xi, .inl (cI, 250, .inl (nF ids))), (xk, .inl (cI, 250, .inl kd)), (xt, .inl (cI, 250, .inl (nF tms))), (xr, .inl (cI, 250, .inl (nF ord))), (xs, .inl (cI, 6, .inl stp)), (xa, .inl (cI, 20, .inl kA)), (xn, .inl (cI, 20, .inl kN)), (xb, .inl (cI, 20, .inl kS)), (xw, .inl (cI, 250, .inl (nF ow2_3))), (xg, .inl (cI, 251, .inl (nF bg2_5)))] := hD
  refine f_to (y := bI (inRb k1 0 19 && inBb k2 sn2_4)) hw_7.2.1 ?_
  have hA := hw_7.1
  have hth := hw_7.2.2
  refine f_beq hx hb (tgt := 28) dX5_sessionStart_6 (by decide) (fun b6 => ?_) (fun b6 => ?_)
  · skip
    refine lv_iconst (v := nI 0) hx hb dX5_sessionStart_28 (by decide) ?_
    exact muRi hx hb hr hlocks (th2_1, my2_2, ow2_3, sn2_4, bg2_5) ((by
      cases hA1 : inRb k1 0 19 with
      | false => exact Or.inr (Or.inr ⟨rfl, by rw [hth, hA1]; rfl⟩)
      | true =>
        rw [hA1, Bool.true_and] at b6
        exact Or.inr (Or.inl ⟨rfl, by rw [← (hA hA1).se]; exact b6, by rw [hth, hA1, b6]; rfl⟩))) hP hD hS dX5_sessionStart_29
  · skip
    have hb2 := b6
    rw [Bool.and_eq_true] at hb2
    have hL2 := hA hb2.1
    have hLm := hL2.le
    have hLs := hL2.le2
    have hb3 := hb2.2
    obtain ⟨j, hjH, rfl⟩ := inB_nat (inBb_t.mp hb3) (by omega)
    have hl : lv_has ls 3 [(0, .ref xo), (1, .int k1), (2, .int (nI j))] := hl
    have hbl := hL2.hbl hn250 hjH
    have hb0 := hL2.hbl0 hn250 hjH
    have how0 := hL2.ow_lt hI hb0
    refine lv_aload_n hx hb dX5_sessionStart_9 rfl (lv_at hl 0 rfl) ?_
    refine va_get (D := D) (ci := 5) (v := .ref xt) (C := RX5) (T := TX5) (N := 19) hx hb hts hinX5 hown hK hP 0 rfl rfl 4 (by decide) hk19 (fun _ h9 => h9) rfl dX5_sessionStart_10 ?_
    refine lv_aload_n hx hb dX5_sessionStart_13 rfl (lv_at hl 0 rfl) ?_
    refine va_get (D := D) (ci := 5) (v := .ref xw) (C := RX5) (T := TX5) (N := 19) hx hb hts hinX5 hown hK hP 0 rfl rfl 15 (by decide) hk44 (fun _ h9 => h9) rfl dX5_sessionStart_14 ?_
    refine lv_aload_n hx hb dX5_sessionStart_17 rfl (lv_at hl 0 rfl) ?_
    refine va_get (D := D) (ci := 5) (v := .ref xg) (C := RX5) (T := TX5) (N := 19) hx hb hts hinX5 hown hK hP 0 rfl rfl 17 (by decide) hk47 (fun _ h9 => h9) rfl dX5_sessionStart_18 ?_
    refine lv_iload_n hx hb dX5_sessionStart_21 rfl (lv_at hl 2 rfl) ?_
    refine f_ald hx hb hK hP 11 0 rfl rfl (by omega) (by decide) dX5_sessionStart_22 ?_
    refine f_ald hx hb hK hP 10 0 rfl rfl (by omega) (by decide) dX5_sessionStart_23 ?_
    refine f_ald hx hb hK hP 4 0 rfl rfl (by omega) (by decide) dX5_sessionStart_24 ?_
    refine lv_goto (tgt := 29) hx hb dX5_sessionStart_25 (by decide) ?_
    exact muRi hx hb hr hlocks (th2_1, my2_2, ow2_3, sn2_4, bg2_5) (Or.inl ⟨hb2.1, by rw [← hL2.se]; exact hb3, by rw [hth, hb2.1, hb3]; rfl, by rw [cN_nI (by omega), ← hL2.hbg (s := j) (by omega), hL2.hta hb0]⟩) hP hD hS dX5_sessionStart_29

abbrev rm_X5_sessionLength : Room := { frames := 2, cells := 0, slots := 0, locals := 46 }
abbrev q_X5_sessionLength (D : va_G) (cI : ClassId) (xo : Nat) (xu : Nat) (xi : Nat) (xk : Nat) (xt : Nat) (xr : Nat) (xs : Nat) (xa : Nat) (xn : Nat) (xb : Nat) (xw : Nat) (xg : Nat) (us : Nat → Nat) (n : Nat) (ids : Nat → Nat) (kd : Nat → Int32) (tms : Nat → Nat) (ord : Nat → Nat) (gp : Nat) (cnt : Nat) (stp : Nat → Int32) (win : Nat) (cl : Nat) (kA : Nat → Int32) (kN : Nat → Int32) (kS : Nat → Int32) (my : Nat) (ow : Nat → Nat) (sn : Nat) (bg : Nat → Nat) (th : Nat) (k1 : Int32) (k2 : Int32) (A : Nat → Prop) : Array Value → State → Outcome → State → Prop := muQi D (fun (r : Int32) (uu : Nat × Nat × (Nat → Nat) × Nat × (Nat → Nat)) => match uu with | (th2, my2, ow2, sn2, bg2) => (inRb k1 0 19 = true ∧ inBb k2 (fb_ct (bs (tau us ids tms ord n (us (cN k1))) gp) (mm us ids ord n (us (cN k1)))) = true ∧ th2 = 0 ∧ r = nI (tau us ids tms ord n (us (cN k1)) (sbL (bs (tau us ids tms ord n (us (cN k1))) gp) (nI (cN k2 + 1)) (mm us ids ord n (us (cN k1))) 0 - 1)) - nI (tau us ids tms ord n (us (cN k1)) (sbL (bs (tau us ids tms ord n (us (cN k1))) gp) (nI (cN k2)) (mm us ids ord n (us (cN k1))) 0))) ∨ (inRb k1 0 19 = true ∧ inBb k2 (fb_ct (bs (tau us ids tms ord n (us (cN k1))) gp) (mm us ids ord n (us (cN k1)))) = false ∧ th2 = 2) ∨ (inRb k1 0 19 = false ∧ th2 = 1)) (fun (uu : Nat × Nat × (Nat → Nat) × Nat × (Nat → Nat)) => match uu with | (th2, my2, ow2, sn2, bg2) => [(xo, .inr (5, [.ref xu, .int (nI n), .ref xi, .ref xk, .ref xt, .ref xr, .int (nI gp), .int (nI cnt), .ref xs, .int (nI win), .int (nI cl), .ref xa, .ref xn, .ref xb, .int (nI my2), .ref xw, .int (nI sn2), .ref xg, .int (nI th2)])), (xu, .inl (cI, 20, .inl (nF us))), (xi, .inl (cI, 250, .inl (nF ids))), (xk, .inl (cI, 250, .inl kd)), (xt, .inl (cI, 250, .inl (nF tms))), (xr, .inl (cI, 250, .inl (nF ord))), (xs, .inl (cI, 6, .inl stp)), (xa, .inl (cI, 20, .inl kA)), (xn, .inl (cI, 20, .inl kN)), (xb, .inl (cI, 20, .inl kS)), (xw, .inl (cI, 250, .inl (nF ow2))), (xg, .inl (cI, 251, .inl (nF bg2)))]) A
set_option maxHeartbeats 8000000 in
set_option maxRecDepth 100000 in
theorem c_X5_sessionLength (l : Launch) (D : va_G) (cI : ClassId) (xo : Nat) (xu : Nat) (xi : Nat) (xk : Nat) (xt : Nat) (xr : Nat) (xs : Nat) (xa : Nat) (xn : Nat) (xb : Nat) (xw : Nat) (xg : Nat) (us : Nat → Nat) (n : Nat) (ids : Nat → Nat) (kd : Nat → Int32) (tms : Nat → Nat) (ord : Nat → Nat) (gp : Nat) (cnt : Nat) (stp : Nat → Int32) (win : Nat) (cl : Nat) (kA : Nat → Int32) (kN : Nat → Int32) (kS : Nat → Int32) (my : Nat) (ow : Nat → Nat) (sn : Nat) (bg : Nat → Nat) (th : Nat) (k1 : Int32) (k2 : Int32) (sz : Nat) (hI : Inv us ids tms ord n) (hcnt : cnt ≤ 6) (hwin : win < 2000) (hg : gp ≤ 500) (hcl : cl ≤ 20) : Met l yX5_sessionLength wsX5_sessionLength rm_X5_sessionLength (muP D (tI cI) [.ref xo, .int k1, .int k2] [(xo, .inr (5, [.ref xu, .int (nI n), .ref xi, .ref xk, .ref xt, .ref xr, .int (nI gp), .int (nI cnt), .ref xs, .int (nI win), .int (nI cl), .ref xa, .ref xn, .ref xb, .int (nI my), .ref xw, .int (nI sn), .ref xg, .int (nI th)])), (xu, .inl (cI, 20, .inl (nF us))), (xi, .inl (cI, 250, .inl (nF ids))), (xk, .inl (cI, 250, .inl kd)), (xt, .inl (cI, 250, .inl (nF tms))), (xr, .inl (cI, 250, .inl (nF ord))), (xs, .inl (cI, 6, .inl stp)), (xa, .inl (cI, 20, .inl kA)), (xn, .inl (cI, 20, .inl kN)), (xb, .inl (cI, 20, .inl kS)), (xw, .inl (cI, 250, .inl (nF ow))), (xg, .inl (cI, 251, .inl (nF bg)))] sz) (q_X5_sessionLength D cI xo xu xi xk xt xr xs xa xn xb xw xg us n ids kd tms ord gp cnt stp win cl kA kN kS my ow sn bg th k1 k2 (va_A [(xo, .inr (5, [.ref xu, .int (nI n), .ref xi, .ref xk, .ref xt, .ref xr, .int (nI gp), .int (nI cnt), .ref xs, .int (nI win), .int (nI cl), .ref xa, .ref xn, .ref xb, .int (nI my), .ref xw, .int (nI sn), .ref xg, .int (nI th)])), (xu, .inl (cI, 20, .inl (nF us))), (xi, .inl (cI, 250, .inl (nF ids))), (xk, .inl (cI, 250, .inl kd)), (xt, .inl (cI, 250, .inl (nF tms))), (xr, .inl (cI, 250, .inl (nF ord))), (xs, .inl (cI, 6, .inl stp)), (xa, .inl (cI, 20, .inl kA)), (xn, .inl (cI, 20, .inl kN)), (xb, .inl (cI, 20, .inl kS)), (xw, .inl (cI, 250, .inl (nF ow))), (xg, .inl (cI, 251, .inl (nF bg)))] sz)) 0 0 (va_A [(xo, .inr (5, [.ref xu, .int (nI n), .ref xi, .ref xk, .ref xt, .ref xr, .int (nI gp), .int (nI cnt), .ref xs, .int (nI win), .int (nI cl), .ref xa, .ref xn, .ref xb, .int (nI my), .ref xw, .int (nI sn), .ref xg, .int (nI th)])), (xu, .inl (cI, 20, .inl (nF us))), (xi, .inl (cI, 250, .inl (nF ids))), (xk, .inl (cI, 250, .inl kd)), (xt, .inl (cI, 250, .inl (nF tms))), (xr, .inl (cI, 250, .inl (nF ord))), (xs, .inl (cI, 6, .inl stp)), (xa, .inl (cI, 20, .inl kA)), (xn, .inl (cI, 20, .inl kN)), (xb, .inl (cI, 20, .inl kS)), (xw, .inl (cI, 250, .inl (nF ow))), (xg, .inl (cI, 251, .inl (nF bg)))] sz) := by
  refine muOf (Qc := fun A => q_X5_sessionLength D cI xo xu xi xk xt xr xs xa xn xb xw xg us n ids kd tms ord gp cnt stp win cl kA kN kS my ow sn bg th k1 k2 A) (cc := cX5_sessionLength) (maxL := 3) (ret := (some .int)) (by decide) rfl (Nat.le_of_ble_eq_true rfl) ?_
  intro p e s m below meth c ls A hx hb hml hown hts hr hlocks hnm hP hK hZ hD hA hS hl
  have hown : s.vm.findClass RX5 = some m.cls := hown
  have hl : lv_has ls 3 [(0, .ref xo), (1, .int k1), (2, .int k2)] := hl
  have hF : CallFix p m c cX5_sessionLength 3 s [.ref xo, .int k1, .int k2].toArray wsX5_sessionLength RX5 := ⟨hx, hb, hml, hown, hts⟩
  have hinX5 : ∀ w ∈ wsX50, w ∈ wsX5_sessionLength := by decide +kernel
  have hk19 := hts (.fieldLink RX5 19 "FunnelFoldModel" "time" "[I") (by decide +kernel)
  have hk44 := hts (.fieldLink RX5 44 "FunnelFoldModel" "own" "[I") (by decide +kernel)
  have hk47 := hts (.fieldLink RX5 47 "FunnelFoldModel" "begin" "[I") (by decide +kernel)
  have hn250 := hI.hn
  refine lv_aload_n hx hb dX5_sessionLength_0 rfl (lv_at hl 0 rfl) ?_
  refine lv_iload_n hx hb dX5_sessionLength_1 rfl (lv_at hl 1 rfl) ?_
  refine lv_iload_n hx hb dX5_sessionLength_2 rfl (lv_at hl 2 rfl) ?_
  refine muCi (wr := [(xk, .inl (cI, 250, .inl kd)), (xs, .inl (cI, 6, .inl stp)), (xa, .inl (cI, 20, .inl kA)), (xn, .inl (cI, 20, .inl kN)), (xb, .inl (cI, 20, .inl kS))]) (wB := (fun (uu : Nat × Nat × (Nat → Nat) × Nat × (Nat → Nat)) => match uu with | (th2, my2, ow2, sn2, bg2) => [(xo, .inr (5, [.ref xu, .int (nI n), .ref xi, .ref xk, .ref xt, .ref xr, .int (nI gp), .int (nI cnt), .ref xs, .int (nI win), .int (nI cl), .ref xa, .ref xn, .ref xb, .int (nI my2), .ref xw, .int (nI sn2), .ref xg, .int (nI th2)])), (xu, .inl (cI, 20, .inl (nF us))), (xi, .inl (cI, 250, .inl (nF ids))), (xk, .inl (cI, 250, .inl kd)), (xt, .inl (cI, 250, .inl (nF tms))), (xr, .inl (cI, 250, .inl (nF ord))), (xs, .inl (cI, 6, .inl stp)), (xa, .inl (cI, 20, .inl kA)), (xn, .inl (cI, 20, .inl kN)), (xb, .inl (cI, 20, .inl kS)), (xw, .inl (cI, 250, .inl (nF ow2))), (xg, .inl (cI, 251, .inl (nF bg2)))])) (va_runV (As := [.int k1, .int k2]) (rest := []) hF (c_X5_has l D cI xo xu xi xk xt xr xs xa xn xb xw xg us n ids tms ord gp cnt win cl my ow sn bg th k1 k2 s.heap.size (by first | assumption | omega) (by first | assumption | omega)) (cwV 2 hts gX5_sessionLength_X5_has rfl rfl rfl (by decide +kernel) ⟨Nat.le_of_ble_eq_true rfl, Nat.le_of_ble_eq_true rfl⟩) (muV hK hZ [0] rfl hP hD [0, 1, 2, 4, 5, 10, 11] (by decide) rfl 0 (ci := 5) rfl rfl) rfl rfl hl.1 rfl (lv_room (Nat.le_of_ble_eq_true rfl)) dX5_sessionLength_3 ⟨Nat.le_of_ble_eq_true rfl, Nat.le_of_ble_eq_true rfl⟩) hP hD hS hA [0, 1, 2, 4, 5, 10, 11] [3, 6, 7, 8, 9] [5, 6, 7, 0, 8, 9, 1, 2, 3, 4, 10, 11] rfl rfl (by decide) (by decide) (by decide) (fun _ => rfl) (fun r_6 u_8 H locs hw_7 hP hD hS => ?_)
  obtain ⟨th2_1, my2_2, ow2_3, sn2_4, bg2_5⟩ := u_8
  have hw_7 : (inRb k1 0 19 = true → LKok us ids tms ord n gp (us (cN k1)) my2_2 ow2_3 sn2_4 bg2_5) ∧ r_6 = bI (inRb k1 0 19 && inBb k2 sn2_4) ∧ th2_1 = mb2 (inRb k1 0 19) (inBb k2 sn2_4) := hw_7
  have hP : va_P D vwCl [(xo, .inr (5, [.ref xu, .int (nI n), .ref xi, .ref xk, .ref xt, .ref xr, .int (nI gp), .int (nI cnt), .ref xs, .int (nI win), .int (nI cl), .ref xa, .ref xn, .ref xb, .int (nI my2_2), .ref xw, .int (nI sn2_4), .ref xg, .int (nI th2_1)])), (xu, .inl (cI, 20, .inl (nF us))), (xi, .inl (cI, 250, .inl (nF ids))), (xk, .inl (cI, 250, .inl kd)), (xt, .inl (cI, 250, .inl (nF tms))), (xr, .inl (cI, 250, .inl (nF ord))), (xs, .inl (cI, 6, .inl stp)), (xa, .inl (cI, 20, .inl kA)), (xn, .inl (cI, 20, .inl kN)), (xb, .inl (cI, 20, .inl kS)), (xw, .inl (cI, 250, .inl (nF ow2_3))), (xg, .inl (cI, 251, .inl (nF bg2_5)))] H := hP
  have hD : va_D A [(xo, .inr (5, [.ref xu, .int (nI n), .ref xi, .ref xk, .ref xt, .ref xr, .int (nI gp), .int (nI cnt), .ref xs, .int (nI win), .int (nI cl), .ref xa, .ref xn, .ref xb, .int (nI my2_2), .ref xw, .int (nI sn2_4), .ref xg, .int (nI th2_1)])), (xu, .inl (cI, 20, .inl (nF us))), (xi, .inl (cI, 250, .inl (nF ids))), (xk, .inl (cI, 250, .inl kd)), (xt, .inl (cI, 250, .inl (nF tms))), (xr, .inl (cI, 250, .inl (nF ord))), (xs, .inl (cI, 6, .inl stp)), (xa, .inl (cI, 20, .inl kA)), (xn, .inl (cI, 20, .inl kN)), (xb, .inl (cI, 20, .inl kS)), (xw, .inl (cI, 250, .inl (nF ow2_3))), (xg, .inl (cI, 251, .inl (nF bg2_5)))] := hD
  refine f_to (y := bI (inRb k1 0 19 && inBb k2 sn2_4)) hw_7.2.1 ?_
  have hA := hw_7.1
  have hth := hw_7.2.2
  refine f_beq hx hb (tgt := 49) dX5_sessionLength_6 (by decide) (fun b6 => ?_) (fun b6 => ?_)
  · skip
    refine lv_iconst (v := nI 0) hx hb dX5_sessionLength_49 (by decide) ?_
    exact muRi hx hb hr hlocks (th2_1, my2_2, ow2_3, sn2_4, bg2_5) ((by
      cases hA1 : inRb k1 0 19 with
      | false => exact Or.inr (Or.inr ⟨rfl, by rw [hth, hA1]; rfl⟩)
      | true =>
        rw [hA1, Bool.true_and] at b6
        exact Or.inr (Or.inl ⟨rfl, by rw [← (hA hA1).se]; exact b6, by rw [hth, hA1, b6]; rfl⟩))) hP hD hS dX5_sessionLength_50
  · skip
    have hb2 := b6
    rw [Bool.and_eq_true] at hb2
    have hL2 := hA hb2.1
    have hLm := hL2.le
    have hLs := hL2.le2
    have hb3 := hb2.2
    obtain ⟨j, hjH, rfl⟩ := inB_nat (inBb_t.mp hb3) (by omega)
    have hl : lv_has ls 3 [(0, .ref xo), (1, .int k1), (2, .int (nI j))] := hl
    have hbl := hL2.hbl hn250 hjH
    have hb0 := hL2.hbl0 hn250 hjH
    have how0 := hL2.ow_lt hI hb0
    refine lv_aload_n hx hb dX5_sessionLength_9 rfl (lv_at hl 0 rfl) ?_
    refine va_get (D := D) (ci := 5) (v := .ref xt) (C := RX5) (T := TX5) (N := 19) hx hb hts hinX5 hown hK hP 0 rfl rfl 4 (by decide) hk19 (fun _ h9 => h9) rfl dX5_sessionLength_10 ?_
    refine lv_aload_n hx hb dX5_sessionLength_13 rfl (lv_at hl 0 rfl) ?_
    refine va_get (D := D) (ci := 5) (v := .ref xw) (C := RX5) (T := TX5) (N := 19) hx hb hts hinX5 hown hK hP 0 rfl rfl 15 (by decide) hk44 (fun _ h9 => h9) rfl dX5_sessionLength_14 ?_
    refine lv_aload_n hx hb dX5_sessionLength_17 rfl (lv_at hl 0 rfl) ?_
    refine va_get (D := D) (ci := 5) (v := .ref xg) (C := RX5) (T := TX5) (N := 19) hx hb hts hinX5 hown hK hP 0 rfl rfl 17 (by decide) hk47 (fun _ h9 => h9) rfl dX5_sessionLength_18 ?_
    refine lv_iload_n hx hb dX5_sessionLength_21 rfl (lv_at hl 2 rfl) ?_
    refine lv_iconst (v := nI 1) hx hb dX5_sessionLength_22 (by decide) ?_
    refine f_add hx hb dX5_sessionLength_23 ?_
    refine f_ald hx hb hK hP 11 0 rfl rfl (by omega) (by decide) dX5_sessionLength_24 ?_
    refine lv_iconst (v := nI 1) hx hb dX5_sessionLength_25 (by decide) ?_
    refine f_sub hx hb (by omega) dX5_sessionLength_26 ?_
    have how1 := hL2.ow_lt (i := bg2_5 (j + 1) - 1) hI (by omega)
    refine f_ald hx hb hK hP 10 0 rfl rfl (by omega) (by decide) dX5_sessionLength_27 ?_
    refine f_ald hx hb hK hP 4 0 rfl rfl (by omega) (by decide) dX5_sessionLength_28 ?_
    refine lv_aload_n hx hb dX5_sessionLength_29 rfl (lv_at hl 0 rfl) ?_
    refine va_get (D := D) (ci := 5) (v := .ref xt) (C := RX5) (T := TX5) (N := 19) hx hb hts hinX5 hown hK hP 0 rfl rfl 4 (by decide) hk19 (fun _ h9 => h9) rfl dX5_sessionLength_30 ?_
    refine lv_aload_n hx hb dX5_sessionLength_33 rfl (lv_at hl 0 rfl) ?_
    refine va_get (D := D) (ci := 5) (v := .ref xw) (C := RX5) (T := TX5) (N := 19) hx hb hts hinX5 hown hK hP 0 rfl rfl 15 (by decide) hk44 (fun _ h9 => h9) rfl dX5_sessionLength_34 ?_
    refine lv_aload_n hx hb dX5_sessionLength_37 rfl (lv_at hl 0 rfl) ?_
    refine va_get (D := D) (ci := 5) (v := .ref xg) (C := RX5) (T := TX5) (N := 19) hx hb hts hinX5 hown hK hP 0 rfl rfl 17 (by decide) hk47 (fun _ h9 => h9) rfl dX5_sessionLength_38 ?_
    refine lv_iload_n hx hb dX5_sessionLength_41 rfl (lv_at hl 2 rfl) ?_
    refine f_ald hx hb hK hP 11 0 rfl rfl (by omega) (by decide) dX5_sessionLength_42 ?_
    refine f_ald hx hb hK hP 10 0 rfl rfl (by omega) (by decide) dX5_sessionLength_43 ?_
    refine f_ald hx hb hK hP 4 0 rfl rfl (by omega) (by decide) dX5_sessionLength_44 ?_
    refine lv_isub hx hb dX5_sessionLength_45 ?_
    refine lv_goto (tgt := 50) hx hb dX5_sessionLength_46 (by decide) ?_
    exact muRi hx hb hr hlocks (th2_1, my2_2, ow2_3, sn2_4, bg2_5) (Or.inl ⟨hb2.1, by rw [← hL2.se]; exact hb3, by rw [hth, hb2.1, hb3]; rfl, by rw [cN_nI (by omega), ← hL2.hbg (s := j + 1) (by omega), ← hL2.hbg (s := j) (by omega), hL2.hta hb0, hL2.hta (i := _ - 1) (by omega)]⟩) hP hD hS dX5_sessionLength_50

abbrev rm_X5_users : Room := { frames := 1, cells := 0, slots := 0, locals := 23 }
abbrev q_X5_users (D : va_G) (cI : ClassId) (xo : Nat) (xu : Nat) (xi : Nat) (xk : Nat) (xt : Nat) (xr : Nat) (xs : Nat) (xa : Nat) (xn : Nat) (xb : Nat) (xw : Nat) (xg : Nat) (us : Nat → Nat) (n : Nat) (ids : Nat → Nat) (kd : Nat → Int32) (tms : Nat → Nat) (ord : Nat → Nat) (gp : Nat) (cnt : Nat) (stp : Nat → Int32) (win : Nat) (cl : Nat) (kA : Nat → Int32) (kN : Nat → Int32) (kS : Nat → Int32) (my : Nat) (ow : Nat → Nat) (sn : Nat) (bg : Nat → Nat) (th : Nat) (A : Nat → Prop) : Array Value → State → Outcome → State → Prop := muQi D (fun (r : Int32) (uu : Nat × (Nat → Nat) × Nat × (Nat → Nat)) => match uu with | (my2, ow2, sn2, bg2) => r = nI (fb_ct (fun u => decide (0 < mm us ids ord n u)) 20)) (fun (uu : Nat × (Nat → Nat) × Nat × (Nat → Nat)) => match uu with | (my2, ow2, sn2, bg2) => [(xo, .inr (5, [.ref xu, .int (nI n), .ref xi, .ref xk, .ref xt, .ref xr, .int (nI gp), .int (nI cnt), .ref xs, .int (nI win), .int (nI cl), .ref xa, .ref xn, .ref xb, .int (nI my2), .ref xw, .int (nI sn2), .ref xg, .int (nI 0)])), (xu, .inl (cI, 20, .inl (nF us))), (xi, .inl (cI, 250, .inl (nF ids))), (xk, .inl (cI, 250, .inl kd)), (xt, .inl (cI, 250, .inl (nF tms))), (xr, .inl (cI, 250, .inl (nF ord))), (xs, .inl (cI, 6, .inl stp)), (xa, .inl (cI, 20, .inl kA)), (xn, .inl (cI, 20, .inl kN)), (xb, .inl (cI, 20, .inl kS)), (xw, .inl (cI, 250, .inl (nF ow2))), (xg, .inl (cI, 251, .inl (nF bg2)))]) A
set_option maxHeartbeats 8000000 in
set_option maxRecDepth 100000 in
theorem c_X5_users (l : Launch) (D : va_G) (cI : ClassId) (xo : Nat) (xu : Nat) (xi : Nat) (xk : Nat) (xt : Nat) (xr : Nat) (xs : Nat) (xa : Nat) (xn : Nat) (xb : Nat) (xw : Nat) (xg : Nat) (us : Nat → Nat) (n : Nat) (ids : Nat → Nat) (kd : Nat → Int32) (tms : Nat → Nat) (ord : Nat → Nat) (gp : Nat) (cnt : Nat) (stp : Nat → Int32) (win : Nat) (cl : Nat) (kA : Nat → Int32) (kN : Nat → Int32) (kS : Nat → Int32) (my : Nat) (ow : Nat → Nat) (sn : Nat) (bg : Nat → Nat) (th : Nat) (sz : Nat) (hI : Inv us ids tms ord n) (hcnt : cnt ≤ 6) (hwin : win < 2000) (hg : gp ≤ 500) (hcl : cl ≤ 20) : Met l yX5_users wsX5_users rm_X5_users (muP D (tI cI) [.ref xo] [(xo, .inr (5, [.ref xu, .int (nI n), .ref xi, .ref xk, .ref xt, .ref xr, .int (nI gp), .int (nI cnt), .ref xs, .int (nI win), .int (nI cl), .ref xa, .ref xn, .ref xb, .int (nI my), .ref xw, .int (nI sn), .ref xg, .int (nI th)])), (xu, .inl (cI, 20, .inl (nF us))), (xi, .inl (cI, 250, .inl (nF ids))), (xk, .inl (cI, 250, .inl kd)), (xt, .inl (cI, 250, .inl (nF tms))), (xr, .inl (cI, 250, .inl (nF ord))), (xs, .inl (cI, 6, .inl stp)), (xa, .inl (cI, 20, .inl kA)), (xn, .inl (cI, 20, .inl kN)), (xb, .inl (cI, 20, .inl kS)), (xw, .inl (cI, 250, .inl (nF ow))), (xg, .inl (cI, 251, .inl (nF bg)))] sz) (q_X5_users D cI xo xu xi xk xt xr xs xa xn xb xw xg us n ids kd tms ord gp cnt stp win cl kA kN kS my ow sn bg th (va_A [(xo, .inr (5, [.ref xu, .int (nI n), .ref xi, .ref xk, .ref xt, .ref xr, .int (nI gp), .int (nI cnt), .ref xs, .int (nI win), .int (nI cl), .ref xa, .ref xn, .ref xb, .int (nI my), .ref xw, .int (nI sn), .ref xg, .int (nI th)])), (xu, .inl (cI, 20, .inl (nF us))), (xi, .inl (cI, 250, .inl (nF ids))), (xk, .inl (cI, 250, .inl kd)), (xt, .inl (cI, 250, .inl (nF tms))), (xr, .inl (cI, 250, .inl (nF ord))), (xs, .inl (cI, 6, .inl stp)), (xa, .inl (cI, 20, .inl kA)), (xn, .inl (cI, 20, .inl kN)), (xb, .inl (cI, 20, .inl kS)), (xw, .inl (cI, 250, .inl (nF ow))), (xg, .inl (cI, 251, .inl (nF bg)))] sz)) 0 0 (va_A [(xo, .inr (5, [.ref xu, .int (nI n), .ref xi, .ref xk, .ref xt, .ref xr, .int (nI gp), .int (nI cnt), .ref xs, .int (nI win), .int (nI cl), .ref xa, .ref xn, .ref xb, .int (nI my), .ref xw, .int (nI sn), .ref xg, .int (nI th)])), (xu, .inl (cI, 20, .inl (nF us))), (xi, .inl (cI, 250, .inl (nF ids))), (xk, .inl (cI, 250, .inl kd)), (xt, .inl (cI, 250, .inl (nF tms))), (xr, .inl (cI, 250, .inl (nF ord))), (xs, .inl (cI, 6, .inl stp)), (xa, .inl (cI, 20, .inl kA)), (xn, .inl (cI, 20, .inl kN)), (xb, .inl (cI, 20, .inl kS)), (xw, .inl (cI, 250, .inl (nF ow))), (xg, .inl (cI, 251, .inl (nF bg)))] sz) := by
  refine muOf (Qc := fun A => q_X5_users D cI xo xu xi xk xt xr xs xa xn xb xw xg us n ids kd tms ord gp cnt stp win cl kA kN kS my ow sn bg th A) (cc := cX5_users) (maxL := 3) (ret := (some .int)) (by decide) rfl (Nat.le_of_ble_eq_true rfl) ?_
  intro p e s m below meth c ls A hx hb hml hown hts hr hlocks hnm hP hK hZ hD hA hS hl
  have hown : s.vm.findClass RX5 = some m.cls := hown
  have hl : lv_has ls 3 [(0, .ref xo)] := hl
  have hF : CallFix p m c cX5_users 3 s [.ref xo].toArray wsX5_users RX5 := ⟨hx, hb, hml, hown, hts⟩
  have hinX5 : ∀ w ∈ wsX50, w ∈ wsX5_users := by decide +kernel
  have hk50 := hts (.fieldLink RX5 50 "FunnelFoldModel" "thrown" "I") (by decide +kernel)
  have hk71 := hts (.fieldLink RX5 71 "FunnelFoldModel" "many" "I") (by decide +kernel)
  have hn250 := hI.hn
  refine lv_aload_n hx hb dX5_users_0 rfl (lv_at hl 0 rfl) ?_
  refine lv_iconst (v := nI 0) hx hb dX5_users_1 (by decide) ?_
  refine va_put (D := D) (ci := 5) (v := .int (nI 0)) (ty := .int) (C := RX5) (T := TX5) (N := 19) hx hb hts hinX5 tyX5 tyX5_ok nmX5 hown hK hP hD hS 0 rfl rfl 18 (by decide) hk50 (fun _ h9 => h9) rfl (by decide +kernel) rfl rfl (Nat.le_of_ble_eq_true rfl) dX5_users_2 (fun H locs hP hD hS => ?_)
  have hP : va_P D vwCl [(xo, .inr (5, [.ref xu, .int (nI n), .ref xi, .ref xk, .ref xt, .ref xr, .int (nI gp), .int (nI cnt), .ref xs, .int (nI win), .int (nI cl), .ref xa, .ref xn, .ref xb, .int (nI my), .ref xw, .int (nI sn), .ref xg, .int (nI 0)])), (xu, .inl (cI, 20, .inl (nF us))), (xi, .inl (cI, 250, .inl (nF ids))), (xk, .inl (cI, 250, .inl kd)), (xt, .inl (cI, 250, .inl (nF tms))), (xr, .inl (cI, 250, .inl (nF ord))), (xs, .inl (cI, 6, .inl stp)), (xa, .inl (cI, 20, .inl kA)), (xn, .inl (cI, 20, .inl kN)), (xb, .inl (cI, 20, .inl kS)), (xw, .inl (cI, 250, .inl (nF ow))), (xg, .inl (cI, 251, .inl (nF bg)))] H := hP
  have hD : va_D A [(xo, .inr (5, [.ref xu, .int (nI n), .ref xi, .ref xk, .ref xt, .ref xr, .int (nI gp), .int (nI cnt), .ref xs, .int (nI win), .int (nI cl), .ref xa, .ref xn, .ref xb, .int (nI my), .ref xw, .int (nI sn), .ref xg, .int (nI 0)])), (xu, .inl (cI, 20, .inl (nF us))), (xi, .inl (cI, 250, .inl (nF ids))), (xk, .inl (cI, 250, .inl kd)), (xt, .inl (cI, 250, .inl (nF tms))), (xr, .inl (cI, 250, .inl (nF ord))), (xs, .inl (cI, 6, .inl stp)), (xa, .inl (cI, 20, .inl kA)), (xn, .inl (cI, 20, .inl kN)), (xb, .inl (cI, 20, .inl kS)), (xw, .inl (cI, 250, .inl (nF ow))), (xg, .inl (cI, 251, .inl (nF bg)))] := hD
  refine lv_iconst (v := nI 0) hx hb dX5_users_5 (by decide) ?_
  refine lv_istore_n (lv' := [(1, .int (nI 0)), (0, .ref xo)]) hx hb dX5_users_6 rfl hl (by decide) rfl (fun ls hl => ?_)
  refine lv_iconst (v := nI 0) hx hb dX5_users_7 (by decide) ?_
  refine lv_istore_n (lv' := [(2, .int (nI 0)), (1, .int (nI 0)), (0, .ref xo)]) hx hb dX5_users_8 rfl hl (by decide) rfl (fun ls hl => ?_)
  have key9 : ∀ (fuel : Nat) (x : Nat) (w : Nat) (m1 : Nat) (o1 : Nat → Nat) (s1 : Nat) (g1 : Nat → Nat) (H : Heap) (locs : List Loc) (ls : Array Slot), 20 - x < fuel → (x ≤ 20) → (w = fb_ct (fun u => decide (0 < mm us ids ord n u)) x) → va_P D vwCl [(xo, .inr (5, [.ref xu, .int (nI n), .ref xi, .ref xk, .ref xt, .ref xr, .int (nI gp), .int (nI cnt), .ref xs, .int (nI win), .int (nI cl), .ref xa, .ref xn, .ref xb, .int (nI m1), .ref xw, .int (nI s1), .ref xg, .int (nI 0)])), (xu, .inl (cI, 20, .inl (nF us))), (xi, .inl (cI, 250, .inl (nF ids))), (xk, .inl (cI, 250, .inl kd)), (xt, .inl (cI, 250, .inl (nF tms))), (xr, .inl (cI, 250, .inl (nF ord))), (xs, .inl (cI, 6, .inl stp)), (xa, .inl (cI, 20, .inl kA)), (xn, .inl (cI, 20, .inl kN)), (xb, .inl (cI, 20, .inl kS)), (xw, .inl (cI, 250, .inl (nF o1))), (xg, .inl (cI, 251, .inl (nF g1)))] H → va_D A [(xo, .inr (5, [.ref xu, .int (nI n), .ref xi, .ref xk, .ref xt, .ref xr, .int (nI gp), .int (nI cnt), .ref xs, .int (nI win), .int (nI cl), .ref xa, .ref xn, .ref xb, .int (nI m1), .ref xw, .int (nI s1), .ref xg, .int (nI 0)])), (xu, .inl (cI, 20, .inl (nF us))), (xi, .inl (cI, 250, .inl (nF ids))), (xk, .inl (cI, 250, .inl kd)), (xt, .inl (cI, 250, .inl (nF tms))), (xr, .inl (cI, 250, .inl (nF ord))), (xs, .inl (cI, 6, .inl stp)), (xa, .inl (cI, 20, .inl kA)), (xn, .inl (cI, 20, .inl kN)), (xb, .inl (cI, 20, .inl kS)), (xw, .inl (cI, 250, .inl (nF o1))), (xg, .inl (cI, 251, .inl (nF g1)))] → va_S A s.heap H locs → lv_has ls 3 [(0, .ref xo), (1, .int (nI w)), (2, .int (nI x))] → W p l e rm_X5_users s m [.ref xo].toArray below meth c H locs 0 0 (MQ below (q_X5_users D cI xo xu xi xk xt xr xs xa xn xb xw xg us n ids kd tms ord gp cnt stp win cl kA kN kS my ow sn bg th A) [.ref xo].toArray s 0 0 A) (F0 m 9 ls []) := by
    intro fuel
    induction fuel with
    | zero => intro x w m1 o1 s1 g1 H locs ls hfu; exact absurd hfu (Nat.not_lt_zero _)
    | succ fuel ih9 =>
      intro x w m1 o1 s1 g1 H locs ls hfu hx2 hw2 hP hD hS hl
      refine lv_iload_n hx hb dX5_users_9 rfl (lv_at hl 2 rfl) ?_
      refine lv_bipush (v := nI 20) hx hb dX5_users_10 (by decide) ?_
      refine f_ge hx hb (by omega) (by omega) (tgt := 41) dX5_users_12 (by decide) (fun b12 => ?_) (fun b12 => ?_)
      · skip
        refine lv_iload_n hx hb dX5_users_41 rfl (lv_at hl 1 rfl) ?_
        exact muRi hx hb hr hlocks (m1, o1, s1, g1) ((by rw [hw2, show x = 20 by omega])) hP hD hS dX5_users_42
      · skip
        refine lv_aload_n hx hb dX5_users_15 rfl (lv_at hl 0 rfl) ?_
        refine lv_iload_n hx hb dX5_users_16 rfl (lv_at hl 2 rfl) ?_
        refine muCv (wr := [(xk, .inl (cI, 250, .inl kd)), (xs, .inl (cI, 6, .inl stp)), (xa, .inl (cI, 20, .inl kA)), (xn, .inl (cI, 20, .inl kN)), (xb, .inl (cI, 20, .inl kS))]) (wB := (fun (uu : Nat × (Nat → Nat) × Nat × (Nat → Nat)) => match uu with | (my2, ow2, sn2, bg2) => [(xo, .inr (5, [.ref xu, .int (nI n), .ref xi, .ref xk, .ref xt, .ref xr, .int (nI gp), .int (nI cnt), .ref xs, .int (nI win), .int (nI cl), .ref xa, .ref xn, .ref xb, .int (nI my2), .ref xw, .int (nI sn2), .ref xg, .int (nI 0)])), (xu, .inl (cI, 20, .inl (nF us))), (xi, .inl (cI, 250, .inl (nF ids))), (xk, .inl (cI, 250, .inl kd)), (xt, .inl (cI, 250, .inl (nF tms))), (xr, .inl (cI, 250, .inl (nF ord))), (xs, .inl (cI, 6, .inl stp)), (xa, .inl (cI, 20, .inl kA)), (xn, .inl (cI, 20, .inl kN)), (xb, .inl (cI, 20, .inl kS)), (xw, .inl (cI, 250, .inl (nF ow2))), (xg, .inl (cI, 251, .inl (nF bg2)))])) (va_runV (As := [.int (nI x)]) (rest := []) hF (c_X5_look l D cI xo xu xi xk xt xr xs xa xn xb xw xg us n ids tms ord gp cnt win cl m1 o1 s1 g1 0 x H.size (by first | assumption | omega) (by first | assumption | omega) (by first | assumption | omega)) (cwV 1 hts gX5_users_X5_look rfl rfl rfl (by decide +kernel) ⟨Nat.le_of_ble_eq_true rfl, Nat.le_of_ble_eq_true rfl⟩) (muV hK hZ [0] rfl hP hD [0, 1, 2, 4, 5, 10, 11] (by decide) rfl 0 (ci := 5) rfl rfl) rfl rfl hl.1 rfl (lv_room (Nat.le_of_ble_eq_true rfl)) dX5_users_17 ⟨Nat.le_of_ble_eq_true rfl, Nat.le_of_ble_eq_true rfl⟩) hP hD hS hA [0, 1, 2, 4, 5, 10, 11] [3, 6, 7, 8, 9] [5, 6, 7, 0, 8, 9, 1, 2, 3, 4, 10, 11] rfl rfl (by decide) (by decide) (by decide) (fun _ => rfl) (fun u_7 H locs hw_6 hP hD hS => ?_)
        obtain ⟨my2_1, ow2_2, sn2_3, bg2_4⟩ := u_7
        have hw_6 : LKok us ids tms ord n gp x my2_1 ow2_2 sn2_3 bg2_4 := hw_6
        have hP : va_P D vwCl [(xo, .inr (5, [.ref xu, .int (nI n), .ref xi, .ref xk, .ref xt, .ref xr, .int (nI gp), .int (nI cnt), .ref xs, .int (nI win), .int (nI cl), .ref xa, .ref xn, .ref xb, .int (nI my2_1), .ref xw, .int (nI sn2_3), .ref xg, .int (nI 0)])), (xu, .inl (cI, 20, .inl (nF us))), (xi, .inl (cI, 250, .inl (nF ids))), (xk, .inl (cI, 250, .inl kd)), (xt, .inl (cI, 250, .inl (nF tms))), (xr, .inl (cI, 250, .inl (nF ord))), (xs, .inl (cI, 6, .inl stp)), (xa, .inl (cI, 20, .inl kA)), (xn, .inl (cI, 20, .inl kN)), (xb, .inl (cI, 20, .inl kS)), (xw, .inl (cI, 250, .inl (nF ow2_2))), (xg, .inl (cI, 251, .inl (nF bg2_4)))] H := hP
        have hD : va_D A [(xo, .inr (5, [.ref xu, .int (nI n), .ref xi, .ref xk, .ref xt, .ref xr, .int (nI gp), .int (nI cnt), .ref xs, .int (nI win), .int (nI cl), .ref xa, .ref xn, .ref xb, .int (nI my2_1), .ref xw, .int (nI sn2_3), .ref xg, .int (nI 0)])), (xu, .inl (cI, 20, .inl (nF us))), (xi, .inl (cI, 250, .inl (nF ids))), (xk, .inl (cI, 250, .inl kd)), (xt, .inl (cI, 250, .inl (nF tms))), (xr, .inl (cI, 250, .inl (nF ord))), (xs, .inl (cI, 6, .inl stp)), (xa, .inl (cI, 20, .inl kA)), (xn, .inl (cI, 20, .inl kN)), (xb, .inl (cI, 20, .inl kS)), (xw, .inl (cI, 250, .inl (nF ow2_2))), (xg, .inl (cI, 251, .inl (nF bg2_4)))] := hD
        have hLK := hw_6
        have hLm := hLK.le
        have hLs := hLK.le2
        refine lv_iload_n hx hb dX5_users_20 rfl (lv_at hl 1 rfl) ?_
        refine lv_aload_n hx hb dX5_users_21 rfl (lv_at hl 0 rfl) ?_
        refine va_get (D := D) (ci := 5) (v := .int (nI my2_1)) (C := RX5) (T := TX5) (N := 19) hx hb hts hinX5 hown hK hP 0 rfl rfl 14 (by decide) hk71 (fun _ h9 => h9) rfl dX5_users_22 ?_
        refine f_zle hx hb (by omega) (tgt := 32) dX5_users_25 (by decide) (fun b25 => ?_) (fun b25 => ?_)
        · skip
          refine lv_iconst (v := nI 0) hx hb dX5_users_32 (by decide) ?_
          refine f_add hx hb dX5_users_33 ?_
          refine lv_istore_n (lv' := [(1, .int (nI (w + 0))), (0, .ref xo), (2, .int (nI x))]) hx hb dX5_users_34 rfl hl (by decide) rfl (fun ls hl => ?_)
          refine lv_iinc (v := nI (x + 1)) (lv' := [(2, .int (nI (x + 1))), (1, .int (nI (w + 0))), (0, .ref xo)]) hx hb dX5_users_35 hl (k := 2) rfl (ii_1 _) (by decide) rfl (fun ls hl => ?_)
          refine lv_goto (tgt := 9) hx hb dX5_users_38 (by decide) ?_
          exact ih9 (x + 1) (w + 0) my2_1 ow2_2 sn2_3 bg2_4 _ _ _ (by omega) (by omega) (by rw [hw2, Nat.add_zero, ct_n (decide_eq_false (by rw [← hLK.cnt]; omega))]) hP hD hS (lv_sub hl [2, 1, 0] rfl)
        · skip
          refine lv_iconst (v := nI 1) hx hb dX5_users_28 (by decide) ?_
          refine lv_goto (tgt := 33) hx hb dX5_users_29 (by decide) ?_
          refine f_add hx hb dX5_users_33 ?_
          refine lv_istore_n (lv' := [(1, .int (nI (w + 1))), (0, .ref xo), (2, .int (nI x))]) hx hb dX5_users_34 rfl hl (by decide) rfl (fun ls hl => ?_)
          refine lv_iinc (v := nI (x + 1)) (lv' := [(2, .int (nI (x + 1))), (1, .int (nI (w + 1))), (0, .ref xo)]) hx hb dX5_users_35 hl (k := 2) rfl (ii_1 _) (by decide) rfl (fun ls hl => ?_)
          refine lv_goto (tgt := 9) hx hb dX5_users_38 (by decide) ?_
          exact ih9 (x + 1) (w + 1) my2_1 ow2_2 sn2_3 bg2_4 _ _ _ (by omega) (by omega) (by rw [hw2, ct_y (decide_eq_true (by rw [← hLK.cnt]; exact b25))]) hP hD hS (lv_sub hl [2, 1, 0] rfl)
  exact key9 (20 - 0 + 1) 0 0 my ow sn bg _ _ _ (by omega) (Nat.zero_le _) rfl hP hD hS (lv_sub hl [2, 1, 0] rfl)

abbrev rm_X5_passedFrom : Room := { frames := 0, cells := 0, slots := 0, locals := 0 }
set_option maxHeartbeats 8000000 in
set_option maxRecDepth 100000 in
theorem c_X5_passedFrom (l : Launch) (D : va_G) (cI : ClassId) (xo : Nat) (xu : Nat) (xi : Nat) (xk : Nat) (xt : Nat) (xr : Nat) (xs : Nat) (xa : Nat) (xn : Nat) (xb : Nat) (xw : Nat) (xg : Nat) (n : Nat) (kd : Nat → Int32) (tms : Nat → Nat) (gp : Nat) (cnt : Nat) (stp : Nat → Int32) (win : Nat) (cl : Nat) (my : Nat) (ow : Nat → Nat) (sn : Nat) (th : Nat) (pl : Nat) (hcnt : cnt ≤ 6) (hwin : win < 2000) (hmy : my ≤ 250) (hpl : pl < my) (how : ∀ i, i < my → ow i < 250) (htm : ∀ i, tms i < 2000) : Met l yX5_passedFrom wsX5_passedFrom rm_X5_passedFrom (roP D (tI cI) [.ref xo, .int (nI pl)] [(xo, .inr (5, [.ref xu, .int (nI n), .ref xi, .ref xk, .ref xt, .ref xr, .int (nI gp), .int (nI cnt), .ref xs, .int (nI win), .int (nI cl), .ref xa, .ref xn, .ref xb, .int (nI my), .ref xw, .int (nI sn), .ref xg, .int (nI th)])), (xk, .inl (cI, 250, .inl kd)), (xt, .inl (cI, 250, .inl (nF tms))), (xs, .inl (cI, 6, .inl stp)), (xw, .inl (cI, 250, .inl (nF ow)))]) (QcRead (nI (gP (fun k => kd (ow k)) (fun k => tms (ow k)) my cnt win stp pl))) 0 0 (fun _ => False) := by
  refine roOf (cc := cX5_passedFrom) (maxL := 5) (ret := (some .int)) (by decide) rfl (Nat.le_of_ble_eq_true rfl) ?_
  intro p e s m below meth c ls hx hb hml hown hts hr hlocks hP hK hZ hl
  have hown : s.vm.findClass RX5 = some m.cls := hown
  have hl : lv_has ls 5 [(0, .ref xo), (1, .int (nI pl))] := hl
  have hF : CallFix p m c cX5_passedFrom 5 s [.ref xo, .int (nI pl)].toArray wsX5_passedFrom RX5 := ⟨hx, hb, hml, hown, hts⟩
  have hinX5 : ∀ w ∈ wsX50, w ∈ wsX5_passedFrom := by decide +kernel
  have hk71 := hts (.fieldLink RX5 71 "FunnelFoldModel" "many" "I") (by decide +kernel)
  have hk85 := hts (.fieldLink RX5 85 "FunnelFoldModel" "steps" "I") (by decide +kernel)
  have hk19 := hts (.fieldLink RX5 19 "FunnelFoldModel" "time" "[I") (by decide +kernel)
  have hk44 := hts (.fieldLink RX5 44 "FunnelFoldModel" "own" "[I") (by decide +kernel)
  have hk32 := hts (.fieldLink RX5 32 "FunnelFoldModel" "window" "I") (by decide +kernel)
  have hk16 := hts (.fieldLink RX5 16 "FunnelFoldModel" "kind" "[I") (by decide +kernel)
  have hk29 := hts (.fieldLink RX5 29 "FunnelFoldModel" "step" "[I") (by decide +kernel)
  have hopl := how pl hpl
  have htpl := htm (ow pl)
  refine lv_iconst (v := nI 0) hx hb dX5_passedFrom_0 (by decide) ?_
  refine lv_istore_n (lv' := [(2, .int (nI 0)), (0, .ref xo), (1, .int (nI pl))]) hx hb dX5_passedFrom_1 rfl hl (by decide) rfl (fun ls hl => ?_)
  refine lv_iload_n hx hb dX5_passedFrom_2 rfl (lv_at hl 2 rfl) ?_
  refine lv_istore_n (lv' := [(3, .int (nI pl)), (2, .int (nI 0)), (0, .ref xo), (1, .int (nI pl))]) hx hb dX5_passedFrom_3 rfl hl (by decide) rfl (fun ls hl => ?_)
  have key4 : ∀ (fuel : Nat) (k : Nat) (pq : Nat) (ls : Array Slot), my - k < fuel → (pl ≤ k ∧ k ≤ my) → (pq ≤ cnt) → (pfL (fun k => kd (ow k)) (fun k => tms (ow k)) cnt win stp pl (my - k) k pq = gP (fun k => kd (ow k)) (fun k => tms (ow k)) my cnt win stp pl) → lv_has ls 5 [(0, .ref xo), (1, .int (nI pl)), (2, .int (nI pq)), (3, .int (nI k))] → W p l e rm_X5_passedFrom s m [.ref xo, .int (nI pl)].toArray below meth c s.heap [] 0 0 (MQ below (QcRead (nI (gP (fun k => kd (ow k)) (fun k => tms (ow k)) my cnt win stp pl))) [.ref xo, .int (nI pl)].toArray s 0 0 (fun _ => False)) (F0 m 4 ls []) := by
    intro fuel
    induction fuel with
    | zero => intro k pq ls hfu; exact absurd hfu (Nat.not_lt_zero _)
    | succ fuel ih4 =>
      intro k pq ls hfu hk hpq hq hl
      refine lv_iload_n hx hb dX5_passedFrom_4 rfl (lv_at hl 3 rfl) ?_
      refine lv_aload_n hx hb dX5_passedFrom_5 rfl (lv_at hl 0 rfl) ?_
      refine va_get (D := D) (ci := 5) (v := .int (nI my)) (C := RX5) (T := TX5) (N := 19) hx hb hts hinX5 hown hK hP 0 rfl rfl 14 (by decide) hk71 (fun _ h9 => h9) rfl dX5_passedFrom_6 ?_
      refine f_ge hx hb (by omega) (by omega) (tgt := 108) dX5_passedFrom_9 (by decide) (fun b9 => ?_) (fun b9 => ?_)
      · skip
        refine lv_iload_n hx hb dX5_passedFrom_108 rfl (lv_at hl 2 rfl) ?_
        exact roRi hx hb hr hlocks (by first | (rw [← hq, pf_e1 b9]; done) | (rw [← hq, pf_e2 b17]; done) | (rw [← hq, pf_e3 (kq := fun k => kd (ow k)) (tq := fun k => tms (ow k)) (Nat.not_le.mp (fun q => Int32.not_le.mpr b47 ((sub_le (by omega) (by omega) (by omega)).mpr q)))]; done)) dX5_passedFrom_109
      · skip
        have howk := how k b9
        have htk := htm (ow k)
        refine lv_iload_n hx hb dX5_passedFrom_12 rfl (lv_at hl 2 rfl) ?_
        refine lv_aload_n hx hb dX5_passedFrom_13 rfl (lv_at hl 0 rfl) ?_
        refine va_get (D := D) (ci := 5) (v := .int (nI cnt)) (C := RX5) (T := TX5) (N := 19) hx hb hts hinX5 hown hK hP 0 rfl rfl 7 (by decide) hk85 (fun _ h9 => h9) rfl dX5_passedFrom_14 ?_
        refine f_ge hx hb (by omega) (by omega) (tgt := 108) dX5_passedFrom_17 (by decide) (fun b17 => ?_) (fun b17 => ?_)
        · skip
          refine lv_iload_n hx hb dX5_passedFrom_108 rfl (lv_at hl 2 rfl) ?_
          exact roRi hx hb hr hlocks (by first | (rw [← hq, pf_e1 b9]; done) | (rw [← hq, pf_e2 b17]; done) | (rw [← hq, pf_e3 (kq := fun k => kd (ow k)) (tq := fun k => tms (ow k)) (Nat.not_le.mp (fun q => Int32.not_le.mpr b47 ((sub_le (by omega) (by omega) (by omega)).mpr q)))]; done)) dX5_passedFrom_109
        · skip
          refine lv_aload_n hx hb dX5_passedFrom_20 rfl (lv_at hl 0 rfl) ?_
          refine va_get (D := D) (ci := 5) (v := .ref xt) (C := RX5) (T := TX5) (N := 19) hx hb hts hinX5 hown hK hP 0 rfl rfl 4 (by decide) hk19 (fun _ h9 => h9) rfl dX5_passedFrom_21 ?_
          refine lv_aload_n hx hb dX5_passedFrom_24 rfl (lv_at hl 0 rfl) ?_
          refine va_get (D := D) (ci := 5) (v := .ref xw) (C := RX5) (T := TX5) (N := 19) hx hb hts hinX5 hown hK hP 0 rfl rfl 15 (by decide) hk44 (fun _ h9 => h9) rfl dX5_passedFrom_25 ?_
          refine lv_iload_n hx hb dX5_passedFrom_28 rfl (lv_at hl 3 rfl) ?_
          refine f_ald hx hb hK hP 4 0 rfl rfl (by omega) (by decide) dX5_passedFrom_29 ?_
          refine f_ald hx hb hK hP 2 0 rfl rfl (by omega) (by decide) dX5_passedFrom_30 ?_
          refine lv_aload_n hx hb dX5_passedFrom_31 rfl (lv_at hl 0 rfl) ?_
          refine va_get (D := D) (ci := 5) (v := .ref xt) (C := RX5) (T := TX5) (N := 19) hx hb hts hinX5 hown hK hP 0 rfl rfl 4 (by decide) hk19 (fun _ h9 => h9) rfl dX5_passedFrom_32 ?_
          refine lv_aload_n hx hb dX5_passedFrom_35 rfl (lv_at hl 0 rfl) ?_
          refine va_get (D := D) (ci := 5) (v := .ref xw) (C := RX5) (T := TX5) (N := 19) hx hb hts hinX5 hown hK hP 0 rfl rfl 15 (by decide) hk44 (fun _ h9 => h9) rfl dX5_passedFrom_36 ?_
          refine lv_iload_n hx hb dX5_passedFrom_39 rfl (lv_at hl 1 rfl) ?_
          refine f_ald hx hb hK hP 4 0 rfl rfl (by omega) (by decide) dX5_passedFrom_40 ?_
          refine f_ald hx hb hK hP 2 0 rfl rfl (by omega) (by decide) dX5_passedFrom_41 ?_
          refine lv_isub hx hb dX5_passedFrom_42 ?_
          refine lv_aload_n hx hb dX5_passedFrom_43 rfl (lv_at hl 0 rfl) ?_
          refine va_get (D := D) (ci := 5) (v := .int (nI win)) (C := RX5) (T := TX5) (N := 19) hx hb hts hinX5 hown hK hP 0 rfl rfl 9 (by decide) hk32 (fun _ h9 => h9) rfl dX5_passedFrom_44 ?_
          refine lv_icmp_gt hx hb (tgt := 108) dX5_passedFrom_47 (by decide) (fun b47 => ?_) (fun b47 => ?_)
          · skip
            refine lv_iload_n hx hb dX5_passedFrom_108 rfl (lv_at hl 2 rfl) ?_
            exact roRi hx hb hr hlocks (by first | (rw [← hq, pf_e1 b9]; done) | (rw [← hq, pf_e2 b17]; done) | (rw [← hq, pf_e3 (kq := fun k => kd (ow k)) (tq := fun k => tms (ow k)) (Nat.not_le.mp (fun q => Int32.not_le.mpr b47 ((sub_le (by omega) (by omega) (by omega)).mpr q)))]; done)) dX5_passedFrom_109
          · skip
            have hwk : tms (ow k) ≤ tms (ow pl) + win := (sub_le (by omega) (by omega) (by omega)).mp (Int32.not_lt.mp b47)
            have key75 : ∀ (f : Bool) (ls : Array Slot), (f = decide (kd (ow k) = stp pq)) → lv_has ls 5 [(0, .ref xo), (1, .int (nI pl)), (2, .int (nI pq)), (3, .int (nI k))] → W p l e rm_X5_passedFrom s m [.ref xo, .int (nI pl)].toArray below meth c s.heap [] 0 0 (MQ below (QcRead (nI (gP (fun k => kd (ow k)) (fun k => tms (ow k)) my cnt win stp pl))) [.ref xo, .int (nI pl)].toArray s 0 0 (fun _ => False)) (F0 m 75 ls [.int (bI f)]) := by
              intro f ls hf hl
              refine lv_istore (lv' := [(4, .int (bI f)), (0, .ref xo), (1, .int (nI pl)), (2, .int (nI pq)), (3, .int (nI k))]) hx hb dX5_passedFrom_75 hl (by decide) rfl (fun ls hl => ?_)
              refine lv_iload_n hx hb dX5_passedFrom_77 rfl (lv_at hl 4 rfl) ?_
              refine lv_iload_n hx hb dX5_passedFrom_78 rfl (lv_at hl 2 rfl) ?_
              refine f_ne hx hb (by omega) (by omega) (tgt := 89) dX5_passedFrom_79 (by decide) (fun b79 => ?_) (fun b79 => ?_)
              · skip
                refine lv_iload_n hx hb dX5_passedFrom_89 rfl (lv_at hl 3 rfl) ?_
                refine lv_iload hx hb dX5_passedFrom_90 (lv_at hl 0 rfl) ?_
                refine f_beq hx hb (tgt := 99) dX5_passedFrom_92 (by decide) (fun b92 => ?_) (fun b92 => ?_)
                · skip
                  refine lv_iconst (v := nI 0) hx hb dX5_passedFrom_99 (by decide) ?_
                  refine f_add hx hb dX5_passedFrom_100 ?_
                  refine lv_istore_n (lv' := [(2, .int (nI (pq + 0))), (4, .int (bI f)), (0, .ref xo), (1, .int (nI pl)), (3, .int (nI k))]) hx hb dX5_passedFrom_101 rfl hl (by decide) rfl (fun ls hl => ?_)
                  refine lv_iinc (v := nI (k + 1)) (lv' := [(3, .int (nI (k + 1))), (2, .int (nI (pq + 0))), (4, .int (bI f)), (0, .ref xo), (1, .int (nI pl))]) hx hb dX5_passedFrom_102 hl (k := 4) rfl (ii_1 _) (by decide) rfl (fun ls hl => ?_)
                  refine lv_goto (tgt := 4) hx hb dX5_passedFrom_105 (by decide) ?_
                  exact ih4 (k + 1) (pq + 0) _ (by omega) (by omega) (by omega) ((pf_n (kq := fun k => kd (ow k)) (tq := fun k => tms (ow k)) b9 b17 hwk (of_decide_eq_false (hf.symm.trans b92)) (by first | exact b79 | (exact fun _ => absurd (b84.symm.trans b92) (by decide)))).trans hq) (lv_sub hl [3, 4, 1, 0] rfl)
                · skip
                  refine lv_iconst (v := nI 1) hx hb dX5_passedFrom_95 (by decide) ?_
                  refine lv_goto (tgt := 100) hx hb dX5_passedFrom_96 (by decide) ?_
                  refine f_add hx hb dX5_passedFrom_100 ?_
                  refine lv_istore_n (lv' := [(2, .int (nI (pq + 1))), (4, .int (bI f)), (0, .ref xo), (1, .int (nI pl)), (3, .int (nI k))]) hx hb dX5_passedFrom_101 rfl hl (by decide) rfl (fun ls hl => ?_)
                  refine lv_iinc (v := nI (k + 1)) (lv' := [(3, .int (nI (k + 1))), (2, .int (nI (pq + 1))), (4, .int (bI f)), (0, .ref xo), (1, .int (nI pl))]) hx hb dX5_passedFrom_102 hl (k := 4) rfl (ii_1 _) (by decide) rfl (fun ls hl => ?_)
                  refine lv_goto (tgt := 4) hx hb dX5_passedFrom_105 (by decide) ?_
                  exact ih4 (k + 1) (pq + 1) _ (by omega) (by omega) (by omega) ((pf_y (kq := fun k => kd (ow k)) (tq := fun k => tms (ow k)) b9 b17 hwk (of_decide_eq_true (hf.symm.trans b92))).trans hq) (lv_sub hl [3, 4, 1, 0] rfl)
              · skip
                refine lv_iload hx hb dX5_passedFrom_82 (lv_at hl 0 rfl) ?_
                refine f_bne hx hb (tgt := 89) dX5_passedFrom_84 (by decide) (fun b84 => ?_) (fun b84 => ?_)
                · skip
                  refine lv_iload_n hx hb dX5_passedFrom_89 rfl (lv_at hl 3 rfl) ?_
                  refine lv_iload hx hb dX5_passedFrom_90 (lv_at hl 0 rfl) ?_
                  refine f_beq hx hb (tgt := 99) dX5_passedFrom_92 (by decide) (fun b92 => ?_) (fun b92 => ?_)
                  · skip
                    refine lv_iconst (v := nI 0) hx hb dX5_passedFrom_99 (by decide) ?_
                    refine f_add hx hb dX5_passedFrom_100 ?_
                    refine lv_istore_n (lv' := [(2, .int (nI (pq + 0))), (4, .int (bI f)), (0, .ref xo), (1, .int (nI pl)), (3, .int (nI k))]) hx hb dX5_passedFrom_101 rfl hl (by decide) rfl (fun ls hl => ?_)
                    refine lv_iinc (v := nI (k + 1)) (lv' := [(3, .int (nI (k + 1))), (2, .int (nI (pq + 0))), (4, .int (bI f)), (0, .ref xo), (1, .int (nI pl))]) hx hb dX5_passedFrom_102 hl (k := 4) rfl (ii_1 _) (by decide) rfl (fun ls hl => ?_)
                    refine lv_goto (tgt := 4) hx hb dX5_passedFrom_105 (by decide) ?_
                    exact ih4 (k + 1) (pq + 0) _ (by omega) (by omega) (by omega) ((pf_n (kq := fun k => kd (ow k)) (tq := fun k => tms (ow k)) b9 b17 hwk (of_decide_eq_false (hf.symm.trans b92)) (by first | exact b79 | (exact fun _ => absurd (b84.symm.trans b92) (by decide)))).trans hq) (lv_sub hl [3, 4, 1, 0] rfl)
                  · skip
                    refine lv_iconst (v := nI 1) hx hb dX5_passedFrom_95 (by decide) ?_
                    refine lv_goto (tgt := 100) hx hb dX5_passedFrom_96 (by decide) ?_
                    refine f_add hx hb dX5_passedFrom_100 ?_
                    refine lv_istore_n (lv' := [(2, .int (nI (pq + 1))), (4, .int (bI f)), (0, .ref xo), (1, .int (nI pl)), (3, .int (nI k))]) hx hb dX5_passedFrom_101 rfl hl (by decide) rfl (fun ls hl => ?_)
                    refine lv_iinc (v := nI (k + 1)) (lv' := [(3, .int (nI (k + 1))), (2, .int (nI (pq + 1))), (4, .int (bI f)), (0, .ref xo), (1, .int (nI pl))]) hx hb dX5_passedFrom_102 hl (k := 4) rfl (ii_1 _) (by decide) rfl (fun ls hl => ?_)
                    refine lv_goto (tgt := 4) hx hb dX5_passedFrom_105 (by decide) ?_
                    exact ih4 (k + 1) (pq + 1) _ (by omega) (by omega) (by omega) ((pf_y (kq := fun k => kd (ow k)) (tq := fun k => tms (ow k)) b9 b17 hwk (of_decide_eq_true (hf.symm.trans b92))).trans hq) (lv_sub hl [3, 4, 1, 0] rfl)
                · skip
                  refine lv_iconst (v := nI 0) hx hb dX5_passedFrom_87 (by decide) ?_
                  exact roRi hx hb hr hlocks (by rw [← hq, pf_0 (kq := fun k => kd (ow k)) (tq := fun k => tms (ow k)) b9 b17 hwk (of_decide_eq_false (hf.symm.trans b84)) b79]) dX5_passedFrom_88
            refine lv_aload_n hx hb dX5_passedFrom_50 rfl (lv_at hl 0 rfl) ?_
            refine va_get (D := D) (ci := 5) (v := .ref xk) (C := RX5) (T := TX5) (N := 19) hx hb hts hinX5 hown hK hP 0 rfl rfl 3 (by decide) hk16 (fun _ h9 => h9) rfl dX5_passedFrom_51 ?_
            refine lv_aload_n hx hb dX5_passedFrom_54 rfl (lv_at hl 0 rfl) ?_
            refine va_get (D := D) (ci := 5) (v := .ref xw) (C := RX5) (T := TX5) (N := 19) hx hb hts hinX5 hown hK hP 0 rfl rfl 15 (by decide) hk44 (fun _ h9 => h9) rfl dX5_passedFrom_55 ?_
            refine lv_iload_n hx hb dX5_passedFrom_58 rfl (lv_at hl 3 rfl) ?_
            refine f_ald hx hb hK hP 4 0 rfl rfl (by omega) (by decide) dX5_passedFrom_59 ?_
            refine f_aldr hx hb hK hP 1 0 rfl rfl (by omega) (by decide) dX5_passedFrom_60 ?_
            refine lv_aload_n hx hb dX5_passedFrom_61 rfl (lv_at hl 0 rfl) ?_
            refine va_get (D := D) (ci := 5) (v := .ref xs) (C := RX5) (T := TX5) (N := 19) hx hb hts hinX5 hown hK hP 0 rfl rfl 8 (by decide) hk29 (fun _ h9 => h9) rfl dX5_passedFrom_62 ?_
            refine lv_iload_n hx hb dX5_passedFrom_65 rfl (lv_at hl 2 rfl) ?_
            refine f_aldr hx hb hK hP 3 0 rfl rfl (by omega) (by decide) dX5_passedFrom_66 ?_
            refine lv_icmp_ne hx hb (tgt := 74) dX5_passedFrom_67 (by decide) (fun b67 => ?_) (fun b67 => ?_)
            · skip
              refine lv_iconst (v := nI 0) hx hb dX5_passedFrom_74 (by decide) ?_
              refine f_to (y := bI false) rfl ?_
              exact key75 false _  (by first | exact (decide_eq_true b67).symm | exact (decide_eq_false b67).symm) (lv_sub hl [0, 1, 2, 3] rfl)
            · skip
              refine lv_iconst (v := nI 1) hx hb dX5_passedFrom_70 (by decide) ?_
              refine lv_goto (tgt := 75) hx hb dX5_passedFrom_71 (by decide) ?_
              refine f_to (y := bI true) rfl ?_
              exact key75 true _  (by first | exact (decide_eq_true b67).symm | exact (decide_eq_false b67).symm) (lv_sub hl [0, 1, 2, 3] rfl)
  exact key4 (my - pl + 1) pl 0 _ (by omega) (by omega) (Nat.zero_le _) rfl (lv_sub hl [2, 3, 1, 0] rfl)

abbrev rm_X5_spanFrom : Room := { frames := 0, cells := 0, slots := 0, locals := 0 }
set_option maxHeartbeats 8000000 in
set_option maxRecDepth 100000 in
theorem c_X5_spanFrom (l : Launch) (D : va_G) (cI : ClassId) (xo : Nat) (xu : Nat) (xi : Nat) (xk : Nat) (xt : Nat) (xr : Nat) (xs : Nat) (xa : Nat) (xn : Nat) (xb : Nat) (xw : Nat) (xg : Nat) (n : Nat) (kd : Nat → Int32) (tms : Nat → Nat) (gp : Nat) (cnt : Nat) (stp : Nat → Int32) (win : Nat) (cl : Nat) (my : Nat) (ow : Nat → Nat) (sn : Nat) (th : Nat) (pl : Nat) (hcnt : cnt ≤ 6) (hwin : win < 2000) (hmy : my ≤ 250) (hpl : pl < my) (how : ∀ i, i < my → ow i < 250) (htm : ∀ i, tms i < 2000) (hso : ∀ i j, i ≤ j → j < my → tms (ow i) ≤ tms (ow j)) (hc0 : 0 < cnt) (hgp : gP (fun k => kd (ow k)) (fun k => tms (ow k)) my cnt win stp pl = cnt) : Met l yX5_spanFrom wsX5_spanFrom rm_X5_spanFrom (roP D (tI cI) [.ref xo, .int (nI pl)] [(xo, .inr (5, [.ref xu, .int (nI n), .ref xi, .ref xk, .ref xt, .ref xr, .int (nI gp), .int (nI cnt), .ref xs, .int (nI win), .int (nI cl), .ref xa, .ref xn, .ref xb, .int (nI my), .ref xw, .int (nI sn), .ref xg, .int (nI th)])), (xk, .inl (cI, 250, .inl kd)), (xt, .inl (cI, 250, .inl (nF tms))), (xs, .inl (cI, 6, .inl stp)), (xw, .inl (cI, 250, .inl (nF ow)))]) (QcRead (nI (gS (fun k => kd (ow k)) (fun k => tms (ow k)) my cnt stp pl))) 0 0 (fun _ => False) := by
  refine roOf (cc := cX5_spanFrom) (maxL := 4) (ret := (some .int)) (by decide) rfl (Nat.le_of_ble_eq_true rfl) ?_
  intro p e s m below meth c ls hx hb hml hown hts hr hlocks hP hK hZ hl
  have hown : s.vm.findClass RX5 = some m.cls := hown
  have hl : lv_has ls 4 [(0, .ref xo), (1, .int (nI pl))] := hl
  have hF : CallFix p m c cX5_spanFrom 4 s [.ref xo, .int (nI pl)].toArray wsX5_spanFrom RX5 := ⟨hx, hb, hml, hown, hts⟩
  have hinX5 : ∀ w ∈ wsX50, w ∈ wsX5_spanFrom := by decide +kernel
  have hk85 := hts (.fieldLink RX5 85 "FunnelFoldModel" "steps" "I") (by decide +kernel)
  have hk19 := hts (.fieldLink RX5 19 "FunnelFoldModel" "time" "[I") (by decide +kernel)
  have hk44 := hts (.fieldLink RX5 44 "FunnelFoldModel" "own" "[I") (by decide +kernel)
  have hk16 := hts (.fieldLink RX5 16 "FunnelFoldModel" "kind" "[I") (by decide +kernel)
  have hk29 := hts (.fieldLink RX5 29 "FunnelFoldModel" "step" "[I") (by decide +kernel)
  have hopl := how pl hpl
  have htpl := htm (ow pl)
  refine lv_iconst (v := nI 0) hx hb dX5_spanFrom_0 (by decide) ?_
  refine lv_istore_n (lv' := [(2, .int (nI 0)), (0, .ref xo), (1, .int (nI pl))]) hx hb dX5_spanFrom_1 rfl hl (by decide) rfl (fun ls hl => ?_)
  refine lv_iload_n hx hb dX5_spanFrom_2 rfl (lv_at hl 2 rfl) ?_
  refine lv_istore_n (lv' := [(3, .int (nI pl)), (2, .int (nI 0)), (0, .ref xo), (1, .int (nI pl))]) hx hb dX5_spanFrom_3 rfl hl (by decide) rfl (fun ls hl => ?_)
  have key4 : ∀ (fuel : Nat) (k : Nat) (pq : Nat) (ls : Array Slot), my - k < fuel → (pl ≤ k ∧ k ≤ my) → (pq ≤ cnt) → (pq = 0 ∨ pl < k) → (pfL (fun k => kd (ow k)) (fun k => tms (ow k)) cnt win stp pl (my - k) k pq = cnt) → (spL (fun k => kd (ow k)) cnt stp (my - k) k pq = spL (fun k => kd (ow k)) cnt stp (my - pl) pl 0) → lv_has ls 4 [(0, .ref xo), (1, .int (nI pl)), (2, .int (nI pq)), (3, .int (nI k))] → W p l e rm_X5_spanFrom s m [.ref xo, .int (nI pl)].toArray below meth c s.heap [] 0 0 (MQ below (QcRead (nI (gS (fun k => kd (ow k)) (fun k => tms (ow k)) my cnt stp pl))) [.ref xo, .int (nI pl)].toArray s 0 0 (fun _ => False)) (F0 m 4 ls []) := by
    intro fuel
    induction fuel with
    | zero => intro k pq ls hfu; exact absurd hfu (Nat.not_lt_zero _)
    | succ fuel ih4 =>
      intro k pq ls hfu hk hpq h0 hq hs hl
      refine lv_iload_n hx hb dX5_spanFrom_4 rfl (lv_at hl 2 rfl) ?_
      refine lv_aload_n hx hb dX5_spanFrom_5 rfl (lv_at hl 0 rfl) ?_
      refine va_get (D := D) (ci := 5) (v := .int (nI cnt)) (C := RX5) (T := TX5) (N := 19) hx hb hts hinX5 hown hK hP 0 rfl rfl 7 (by decide) hk85 (fun _ h9 => h9) rfl dX5_spanFrom_6 ?_
      refine f_ge hx hb (by omega) (by omega) (tgt := 46) dX5_spanFrom_9 (by decide) (fun b9 => ?_) (fun b9 => ?_)
      · skip
        have hk0 : pl < k := by omega
        have hok1 := how (k - 1) (by omega)
        have htk1 := htm (ow (k - 1))
        have hso1 := hso pl (k - 1) (by omega) (by omega)
        have hke := (sp_e (kq := (fun k => kd (ow k))) (m := my) (stp := stp) (k := k) b9).symm.trans hs
        refine lv_aload_n hx hb dX5_spanFrom_46 rfl (lv_at hl 0 rfl) ?_
        refine va_get (D := D) (ci := 5) (v := .ref xt) (C := RX5) (T := TX5) (N := 19) hx hb hts hinX5 hown hK hP 0 rfl rfl 4 (by decide) hk19 (fun _ h9 => h9) rfl dX5_spanFrom_47 ?_
        refine lv_aload_n hx hb dX5_spanFrom_50 rfl (lv_at hl 0 rfl) ?_
        refine va_get (D := D) (ci := 5) (v := .ref xw) (C := RX5) (T := TX5) (N := 19) hx hb hts hinX5 hown hK hP 0 rfl rfl 15 (by decide) hk44 (fun _ h9 => h9) rfl dX5_spanFrom_51 ?_
        refine lv_iload_n hx hb dX5_spanFrom_54 rfl (lv_at hl 3 rfl) ?_
        refine lv_iconst (v := nI 1) hx hb dX5_spanFrom_55 (by decide) ?_
        refine f_sub hx hb (by omega) dX5_spanFrom_56 ?_
        refine f_ald hx hb hK hP 4 0 rfl rfl (by omega) (by decide) dX5_spanFrom_57 ?_
        refine f_ald hx hb hK hP 2 0 rfl rfl (by omega) (by decide) dX5_spanFrom_58 ?_
        refine lv_aload_n hx hb dX5_spanFrom_59 rfl (lv_at hl 0 rfl) ?_
        refine va_get (D := D) (ci := 5) (v := .ref xt) (C := RX5) (T := TX5) (N := 19) hx hb hts hinX5 hown hK hP 0 rfl rfl 4 (by decide) hk19 (fun _ h9 => h9) rfl dX5_spanFrom_60 ?_
        refine lv_aload_n hx hb dX5_spanFrom_63 rfl (lv_at hl 0 rfl) ?_
        refine va_get (D := D) (ci := 5) (v := .ref xw) (C := RX5) (T := TX5) (N := 19) hx hb hts hinX5 hown hK hP 0 rfl rfl 15 (by decide) hk44 (fun _ h9 => h9) rfl dX5_spanFrom_64 ?_
        refine lv_iload_n hx hb dX5_spanFrom_67 rfl (lv_at hl 1 rfl) ?_
        refine f_ald hx hb hK hP 4 0 rfl rfl (by omega) (by decide) dX5_spanFrom_68 ?_
        refine f_ald hx hb hK hP 2 0 rfl rfl (by omega) (by decide) dX5_spanFrom_69 ?_
        refine f_sub hx hb (by omega) dX5_spanFrom_70 ?_
        exact roRi hx hb hr hlocks (by unfold gS; rw [← hke]) dX5_spanFrom_71
      · skip
        have hst := pf_step hq b9
        have howk := how k hst.1
        refine lv_iload_n hx hb dX5_spanFrom_12 rfl (lv_at hl 2 rfl) ?_
        refine lv_aload_n hx hb dX5_spanFrom_13 rfl (lv_at hl 0 rfl) ?_
        refine va_get (D := D) (ci := 5) (v := .ref xk) (C := RX5) (T := TX5) (N := 19) hx hb hts hinX5 hown hK hP 0 rfl rfl 3 (by decide) hk16 (fun _ h9 => h9) rfl dX5_spanFrom_14 ?_
        refine lv_aload_n hx hb dX5_spanFrom_17 rfl (lv_at hl 0 rfl) ?_
        refine va_get (D := D) (ci := 5) (v := .ref xw) (C := RX5) (T := TX5) (N := 19) hx hb hts hinX5 hown hK hP 0 rfl rfl 15 (by decide) hk44 (fun _ h9 => h9) rfl dX5_spanFrom_18 ?_
        refine lv_iload_n hx hb dX5_spanFrom_21 rfl (lv_at hl 3 rfl) ?_
        refine f_ald hx hb hK hP 4 0 rfl rfl (by omega) (by decide) dX5_spanFrom_22 ?_
        refine f_aldr hx hb hK hP 1 0 rfl rfl (by omega) (by decide) dX5_spanFrom_23 ?_
        refine lv_aload_n hx hb dX5_spanFrom_24 rfl (lv_at hl 0 rfl) ?_
        refine va_get (D := D) (ci := 5) (v := .ref xs) (C := RX5) (T := TX5) (N := 19) hx hb hts hinX5 hown hK hP 0 rfl rfl 8 (by decide) hk29 (fun _ h9 => h9) rfl dX5_spanFrom_25 ?_
        refine lv_iload_n hx hb dX5_spanFrom_28 rfl (lv_at hl 2 rfl) ?_
        refine f_aldr hx hb hK hP 3 0 rfl rfl (by omega) (by decide) dX5_spanFrom_29 ?_
        refine lv_icmp_ne hx hb (tgt := 37) dX5_spanFrom_30 (by decide) (fun b30 => ?_) (fun b30 => ?_)
        · skip
          refine lv_iconst (v := nI 0) hx hb dX5_spanFrom_37 (by decide) ?_
          refine f_add hx hb dX5_spanFrom_38 ?_
          refine lv_istore_n (lv' := [(2, .int (nI (pq + 0))), (0, .ref xo), (1, .int (nI pl)), (3, .int (nI k))]) hx hb dX5_spanFrom_39 rfl hl (by decide) rfl (fun ls hl => ?_)
          refine lv_iinc (v := nI (k + 1)) (lv' := [(3, .int (nI (k + 1))), (2, .int (nI (pq + 0))), (0, .ref xo), (1, .int (nI pl))]) hx hb dX5_spanFrom_40 hl (k := 3) rfl (ii_1 _) (by decide) rfl (fun ls hl => ?_)
          refine lv_goto (tgt := 4) hx hb dX5_spanFrom_43 (by decide) ?_
          exact ih4 (k + 1) (pq + 0) _ (by omega) (by omega) (by omega) (by omega) (hst.2.2 b30) ((sp_n (kq := fun k => kd (ow k)) hst.1 b9 b30).trans hs) (lv_sub hl [2, 3, 1, 0] rfl)
        · skip
          refine lv_iconst (v := nI 1) hx hb dX5_spanFrom_33 (by decide) ?_
          refine lv_goto (tgt := 38) hx hb dX5_spanFrom_34 (by decide) ?_
          refine f_add hx hb dX5_spanFrom_38 ?_
          refine lv_istore_n (lv' := [(2, .int (nI (pq + 1))), (0, .ref xo), (1, .int (nI pl)), (3, .int (nI k))]) hx hb dX5_spanFrom_39 rfl hl (by decide) rfl (fun ls hl => ?_)
          refine lv_iinc (v := nI (k + 1)) (lv' := [(3, .int (nI (k + 1))), (2, .int (nI (pq + 1))), (0, .ref xo), (1, .int (nI pl))]) hx hb dX5_spanFrom_40 hl (k := 3) rfl (ii_1 _) (by decide) rfl (fun ls hl => ?_)
          refine lv_goto (tgt := 4) hx hb dX5_spanFrom_43 (by decide) ?_
          exact ih4 (k + 1) (pq + 1) _ (by omega) (by omega) (by omega) (by omega) (hst.2.1 b30) ((sp_y (kq := fun k => kd (ow k)) hst.1 b9 b30).trans hs) (lv_sub hl [2, 3, 1, 0] rfl)
  exact key4 (my - pl + 1) pl 0 _ (by omega) (by omega) (Nat.zero_le _) (Or.inl rfl) hgp rfl (lv_sub hl [2, 3, 1, 0] rfl)

abbrev rm_X5_depthOf : Room := { frames := 1, cells := 0, slots := 0, locals := 24 }
abbrev q_X5_depthOf (D : va_G) (cI : ClassId) (xo : Nat) (xu : Nat) (xi : Nat) (xk : Nat) (xt : Nat) (xr : Nat) (xs : Nat) (xa : Nat) (xn : Nat) (xb : Nat) (xw : Nat) (xg : Nat) (us : Nat → Nat) (n : Nat) (ids : Nat → Nat) (kd : Nat → Int32) (tms : Nat → Nat) (ord : Nat → Nat) (gp : Nat) (cnt : Nat) (stp : Nat → Int32) (win : Nat) (cl : Nat) (my : Nat) (ow : Nat → Nat) (sn : Nat) (bg : Nat → Nat) (th : Nat) (u : Nat) (A : Nat → Prop) : Array Value → State → Outcome → State → Prop := muQi D (fun (r : Int32) (uu : Nat × (Nat → Nat) × Nat × (Nat → Nat)) => match uu with | (my2, ow2, sn2, bg2) => LKok us ids tms ord n gp u my2 ow2 sn2 bg2 ∧ r = nI (dpM us ids tms ord kd n cnt win stp u)) (fun (uu : Nat × (Nat → Nat) × Nat × (Nat → Nat)) => match uu with | (my2, ow2, sn2, bg2) => [(xo, .inr (5, [.ref xu, .int (nI n), .ref xi, .ref xk, .ref xt, .ref xr, .int (nI gp), .int (nI cnt), .ref xs, .int (nI win), .int (nI cl), .ref xa, .ref xn, .ref xb, .int (nI my2), .ref xw, .int (nI sn2), .ref xg, .int (nI th)])), (xu, .inl (cI, 20, .inl (nF us))), (xi, .inl (cI, 250, .inl (nF ids))), (xk, .inl (cI, 250, .inl kd)), (xt, .inl (cI, 250, .inl (nF tms))), (xr, .inl (cI, 250, .inl (nF ord))), (xs, .inl (cI, 6, .inl stp)), (xw, .inl (cI, 250, .inl (nF ow2))), (xg, .inl (cI, 251, .inl (nF bg2)))]) A
set_option maxHeartbeats 8000000 in
set_option maxRecDepth 100000 in
theorem c_X5_depthOf (l : Launch) (D : va_G) (cI : ClassId) (xo : Nat) (xu : Nat) (xi : Nat) (xk : Nat) (xt : Nat) (xr : Nat) (xs : Nat) (xa : Nat) (xn : Nat) (xb : Nat) (xw : Nat) (xg : Nat) (us : Nat → Nat) (n : Nat) (ids : Nat → Nat) (kd : Nat → Int32) (tms : Nat → Nat) (ord : Nat → Nat) (gp : Nat) (cnt : Nat) (stp : Nat → Int32) (win : Nat) (cl : Nat) (my : Nat) (ow : Nat → Nat) (sn : Nat) (bg : Nat → Nat) (th : Nat) (u : Nat) (sz : Nat) (hI : Inv us ids tms ord n) (hcnt : cnt ≤ 6) (hwin : win < 2000) (hg : gp ≤ 500) (hu : u < 20) : Met l yX5_depthOf wsX5_depthOf rm_X5_depthOf (muP D (tI cI) [.ref xo, .int (nI u)] [(xo, .inr (5, [.ref xu, .int (nI n), .ref xi, .ref xk, .ref xt, .ref xr, .int (nI gp), .int (nI cnt), .ref xs, .int (nI win), .int (nI cl), .ref xa, .ref xn, .ref xb, .int (nI my), .ref xw, .int (nI sn), .ref xg, .int (nI th)])), (xu, .inl (cI, 20, .inl (nF us))), (xi, .inl (cI, 250, .inl (nF ids))), (xk, .inl (cI, 250, .inl kd)), (xt, .inl (cI, 250, .inl (nF tms))), (xr, .inl (cI, 250, .inl (nF ord))), (xs, .inl (cI, 6, .inl stp)), (xw, .inl (cI, 250, .inl (nF ow))), (xg, .inl (cI, 251, .inl (nF bg)))] sz) (q_X5_depthOf D cI xo xu xi xk xt xr xs xa xn xb xw xg us n ids kd tms ord gp cnt stp win cl my ow sn bg th u (va_A [(xo, .inr (5, [.ref xu, .int (nI n), .ref xi, .ref xk, .ref xt, .ref xr, .int (nI gp), .int (nI cnt), .ref xs, .int (nI win), .int (nI cl), .ref xa, .ref xn, .ref xb, .int (nI my), .ref xw, .int (nI sn), .ref xg, .int (nI th)])), (xu, .inl (cI, 20, .inl (nF us))), (xi, .inl (cI, 250, .inl (nF ids))), (xk, .inl (cI, 250, .inl kd)), (xt, .inl (cI, 250, .inl (nF tms))), (xr, .inl (cI, 250, .inl (nF ord))), (xs, .inl (cI, 6, .inl stp)), (xw, .inl (cI, 250, .inl (nF ow))), (xg, .inl (cI, 251, .inl (nF bg)))] sz)) 0 0 (va_A [(xo, .inr (5, [.ref xu, .int (nI n), .ref xi, .ref xk, .ref xt, .ref xr, .int (nI gp), .int (nI cnt), .ref xs, .int (nI win), .int (nI cl), .ref xa, .ref xn, .ref xb, .int (nI my), .ref xw, .int (nI sn), .ref xg, .int (nI th)])), (xu, .inl (cI, 20, .inl (nF us))), (xi, .inl (cI, 250, .inl (nF ids))), (xk, .inl (cI, 250, .inl kd)), (xt, .inl (cI, 250, .inl (nF tms))), (xr, .inl (cI, 250, .inl (nF ord))), (xs, .inl (cI, 6, .inl stp)), (xw, .inl (cI, 250, .inl (nF ow))), (xg, .inl (cI, 251, .inl (nF bg)))] sz) := by
  refine muOf (Qc := fun A => q_X5_depthOf D cI xo xu xi xk xt xr xs xa xn xb xw xg us n ids kd tms ord gp cnt stp win cl my ow sn bg th u A) (cc := cX5_depthOf) (maxL := 5) (ret := (some .int)) (by decide) rfl (Nat.le_of_ble_eq_true rfl) ?_
  intro p e s m below meth c ls A hx hb hml hown hts hr hlocks hnm hP hK hZ hD hA hS hl
  have hown : s.vm.findClass RX5 = some m.cls := hown
  have hl : lv_has ls 5 [(0, .ref xo), (1, .int (nI u))] := hl
  have hF : CallFix p m c cX5_depthOf 5 s [.ref xo, .int (nI u)].toArray wsX5_depthOf RX5 := ⟨hx, hb, hml, hown, hts⟩
  have hinX5 : ∀ w ∈ wsX50, w ∈ wsX5_depthOf := by decide +kernel
  have hk71 := hts (.fieldLink RX5 71 "FunnelFoldModel" "many" "I") (by decide +kernel)
  have hn250 := hI.hn
  refine lv_aload_n hx hb dX5_depthOf_0 rfl (lv_at hl 0 rfl) ?_
  refine lv_iload_n hx hb dX5_depthOf_1 rfl (lv_at hl 1 rfl) ?_
  refine muCv (wr := [(xk, .inl (cI, 250, .inl kd)), (xs, .inl (cI, 6, .inl stp))]) (wB := (fun (uu : Nat × (Nat → Nat) × Nat × (Nat → Nat)) => match uu with | (my2, ow2, sn2, bg2) => [(xo, .inr (5, [.ref xu, .int (nI n), .ref xi, .ref xk, .ref xt, .ref xr, .int (nI gp), .int (nI cnt), .ref xs, .int (nI win), .int (nI cl), .ref xa, .ref xn, .ref xb, .int (nI my2), .ref xw, .int (nI sn2), .ref xg, .int (nI th)])), (xu, .inl (cI, 20, .inl (nF us))), (xi, .inl (cI, 250, .inl (nF ids))), (xk, .inl (cI, 250, .inl kd)), (xt, .inl (cI, 250, .inl (nF tms))), (xr, .inl (cI, 250, .inl (nF ord))), (xs, .inl (cI, 6, .inl stp)), (xw, .inl (cI, 250, .inl (nF ow2))), (xg, .inl (cI, 251, .inl (nF bg2)))])) (va_runV (As := [.int (nI u)]) (rest := []) hF (c_X5_look l D cI xo xu xi xk xt xr xs xa xn xb xw xg us n ids tms ord gp cnt win cl my ow sn bg th u s.heap.size (by first | assumption | omega) (by first | assumption | omega) (by first | assumption | omega)) (cwV 1 hts gX5_depthOf_X5_look rfl rfl rfl (by decide +kernel) ⟨Nat.le_of_ble_eq_true rfl, Nat.le_of_ble_eq_true rfl⟩) (muV hK hZ [0] rfl hP hD [0, 1, 2, 4, 5, 7, 8] (by decide) rfl 0 (ci := 5) rfl rfl) rfl rfl hl.1 rfl (lv_room (Nat.le_of_ble_eq_true rfl)) dX5_depthOf_2 ⟨Nat.le_of_ble_eq_true rfl, Nat.le_of_ble_eq_true rfl⟩) hP hD hS hA [0, 1, 2, 4, 5, 7, 8] [3, 6] [2, 3, 4, 0, 5, 6, 1, 7, 8] rfl rfl (by decide) (by decide) (by decide) (fun _ => rfl) (fun u_7 H locs hw_6 hP hD hS => ?_)
  obtain ⟨my2_1, ow2_2, sn2_3, bg2_4⟩ := u_7
  have hw_6 : LKok us ids tms ord n gp u my2_1 ow2_2 sn2_3 bg2_4 := hw_6
  have hP : va_P D vwCl [(xo, .inr (5, [.ref xu, .int (nI n), .ref xi, .ref xk, .ref xt, .ref xr, .int (nI gp), .int (nI cnt), .ref xs, .int (nI win), .int (nI cl), .ref xa, .ref xn, .ref xb, .int (nI my2_1), .ref xw, .int (nI sn2_3), .ref xg, .int (nI th)])), (xu, .inl (cI, 20, .inl (nF us))), (xi, .inl (cI, 250, .inl (nF ids))), (xk, .inl (cI, 250, .inl kd)), (xt, .inl (cI, 250, .inl (nF tms))), (xr, .inl (cI, 250, .inl (nF ord))), (xs, .inl (cI, 6, .inl stp)), (xw, .inl (cI, 250, .inl (nF ow2_2))), (xg, .inl (cI, 251, .inl (nF bg2_4)))] H := hP
  have hD : va_D A [(xo, .inr (5, [.ref xu, .int (nI n), .ref xi, .ref xk, .ref xt, .ref xr, .int (nI gp), .int (nI cnt), .ref xs, .int (nI win), .int (nI cl), .ref xa, .ref xn, .ref xb, .int (nI my2_1), .ref xw, .int (nI sn2_3), .ref xg, .int (nI th)])), (xu, .inl (cI, 20, .inl (nF us))), (xi, .inl (cI, 250, .inl (nF ids))), (xk, .inl (cI, 250, .inl kd)), (xt, .inl (cI, 250, .inl (nF tms))), (xr, .inl (cI, 250, .inl (nF ord))), (xs, .inl (cI, 6, .inl stp)), (xw, .inl (cI, 250, .inl (nF ow2_2))), (xg, .inl (cI, 251, .inl (nF bg2_4)))] := hD
  have hLK := hw_6
  have hLm := hLK.le
  have hLs := hLK.le2
  refine lv_iconst (v := nI 0) hx hb dX5_depthOf_5 (by decide) ?_
  refine lv_istore_n (lv' := [(2, .int (nI 0)), (0, .ref xo), (1, .int (nI u))]) hx hb dX5_depthOf_6 rfl hl (by decide) rfl (fun ls hl => ?_)
  refine lv_iconst (v := nI 0) hx hb dX5_depthOf_7 (by decide) ?_
  refine lv_istore_n (lv' := [(3, .int (nI 0)), (2, .int (nI 0)), (0, .ref xo), (1, .int (nI u))]) hx hb dX5_depthOf_8 rfl hl (by decide) rfl (fun ls hl => ?_)
  have key9 : ∀ (fuel : Nat) (j : Nat) (dd : Nat) (m1 : Nat) (o1 : Nat → Nat) (s1 : Nat) (g1 : Nat → Nat) (H : Heap) (locs : List Loc) (ls : Array Slot), m1 - j < fuel → (j ≤ m1) → (dd = mxF (gPu us ids tms ord kd n cnt win stp u) j) → (LKok us ids tms ord n gp u m1 o1 s1 g1) → va_P D vwCl [(xo, .inr (5, [.ref xu, .int (nI n), .ref xi, .ref xk, .ref xt, .ref xr, .int (nI gp), .int (nI cnt), .ref xs, .int (nI win), .int (nI cl), .ref xa, .ref xn, .ref xb, .int (nI m1), .ref xw, .int (nI s1), .ref xg, .int (nI th)])), (xu, .inl (cI, 20, .inl (nF us))), (xi, .inl (cI, 250, .inl (nF ids))), (xk, .inl (cI, 250, .inl kd)), (xt, .inl (cI, 250, .inl (nF tms))), (xr, .inl (cI, 250, .inl (nF ord))), (xs, .inl (cI, 6, .inl stp)), (xw, .inl (cI, 250, .inl (nF o1))), (xg, .inl (cI, 251, .inl (nF g1)))] H → va_D A [(xo, .inr (5, [.ref xu, .int (nI n), .ref xi, .ref xk, .ref xt, .ref xr, .int (nI gp), .int (nI cnt), .ref xs, .int (nI win), .int (nI cl), .ref xa, .ref xn, .ref xb, .int (nI m1), .ref xw, .int (nI s1), .ref xg, .int (nI th)])), (xu, .inl (cI, 20, .inl (nF us))), (xi, .inl (cI, 250, .inl (nF ids))), (xk, .inl (cI, 250, .inl kd)), (xt, .inl (cI, 250, .inl (nF tms))), (xr, .inl (cI, 250, .inl (nF ord))), (xs, .inl (cI, 6, .inl stp)), (xw, .inl (cI, 250, .inl (nF o1))), (xg, .inl (cI, 251, .inl (nF g1)))] → va_S A s.heap H locs → lv_has ls 5 [(0, .ref xo), (1, .int (nI u)), (2, .int (nI dd)), (3, .int (nI j))] → W p l e rm_X5_depthOf s m [.ref xo, .int (nI u)].toArray below meth c H locs 0 0 (MQ below (q_X5_depthOf D cI xo xu xi xk xt xr xs xa xn xb xw xg us n ids kd tms ord gp cnt stp win cl my ow sn bg th u A) [.ref xo, .int (nI u)].toArray s 0 0 A) (F0 m 9 ls []) := by
    intro fuel
    induction fuel with
    | zero => intro j dd m1 o1 s1 g1 H locs ls hfu; exact absurd hfu (Nat.not_lt_zero _)
    | succ fuel ih9 =>
      intro j dd m1 o1 s1 g1 H locs ls hfu hj hd hLK hP hD hS hl
      have hLm := hLK.le
      refine lv_iload_n hx hb dX5_depthOf_9 rfl (lv_at hl 3 rfl) ?_
      refine lv_aload_n hx hb dX5_depthOf_10 rfl (lv_at hl 0 rfl) ?_
      refine va_get (D := D) (ci := 5) (v := .int (nI m1)) (C := RX5) (T := TX5) (N := 19) hx hb hts hinX5 hown hK hP 0 rfl rfl 14 (by decide) hk71 (fun _ h9 => h9) rfl dX5_depthOf_11 ?_
      refine f_ge hx hb (by omega) (by omega) (tgt := 43) dX5_depthOf_14 (by decide) (fun b14 => ?_) (fun b14 => ?_)
      · skip
        refine lv_iload_n hx hb dX5_depthOf_43 rfl (lv_at hl 2 rfl) ?_
        exact muRi hx hb hr hlocks (m1, o1, s1, g1) (⟨hLK, by rw [hd]; unfold dpM; rw [← hLK.cnt, show j = m1 by omega]⟩) hP hD hS dX5_depthOf_44
      · skip
        refine lv_aload_n hx hb dX5_depthOf_17 rfl (lv_at hl 0 rfl) ?_
        refine lv_iload_n hx hb dX5_depthOf_18 rfl (lv_at hl 3 rfl) ?_
        refine roC (va_runV (As := [.int (nI j)]) (rest := []) hF (c_X5_passedFrom l D cI xo xu xi xk xt xr xs xa xn xb xw xg n kd tms gp cnt stp win cl m1 o1 s1 th j (by first | assumption | omega) (by first | assumption | omega) (by first | assumption | omega) (by first | assumption | omega) (fun i hi => hLK.ow_lt hI hi) hI.htm) (cwV 1 hts gX5_depthOf_X5_passedFrom rfl rfl rfl (by decide +kernel) ⟨Nat.le_of_ble_eq_true rfl, Nat.le_of_ble_eq_true rfl⟩) (roV hK hZ [0] rfl hP [0, 3, 4, 6, 7] rfl 0 (ci := 5) rfl rfl) rfl rfl hl.1 rfl (lv_room (Nat.le_of_ble_eq_true rfl)) dX5_depthOf_19 ⟨Nat.le_of_ble_eq_true rfl, Nat.le_of_ble_eq_true rfl⟩) ?_
        refine lv_istore (lv' := [(4, .int (nI (gP (fun k => kd (o1 k)) (fun k => tms (o1 k)) m1 cnt win stp j))), (0, .ref xo), (1, .int (nI u)), (2, .int (nI dd)), (3, .int (nI j))]) hx hb dX5_depthOf_22 hl (by decide) rfl (fun ls hl => ?_)
        have hge : gP (fun k => kd (o1 k)) (fun k => tms (o1 k)) m1 cnt win stp j = gPu us ids tms ord kd n cnt win stp u j := (gP_cong (fun i hi => hLK.hka hi) (fun i hi => hLK.hta hi) b14).trans (by rw [hLK.cnt])
        have hgl : gP (fun k => kd (o1 k)) (fun k => tms (o1 k)) m1 cnt win stp j ≤ cnt := gP_le
        have hdl : mxF (gPu us ids tms ord kd n cnt win stp u) j ≤ cnt := mx_le (fun _ => gP_le) j
        refine lv_iload hx hb dX5_depthOf_24 (lv_at hl 0 rfl) ?_
        refine lv_iload_n hx hb dX5_depthOf_26 rfl (lv_at hl 3 rfl) ?_
        refine f_le hx hb (by omega) (by omega) (tgt := 35) dX5_depthOf_27 (by decide) (fun b27 => ?_) (fun b27 => ?_)
        · skip
          refine lv_iload_n hx hb dX5_depthOf_35 rfl (lv_at hl 3 rfl) ?_
          refine lv_istore_n (lv' := [(2, .int (nI dd)), (4, .int (nI (gP (fun k => kd (o1 k)) (fun k => tms (o1 k)) m1 cnt win stp j))), (0, .ref xo), (1, .int (nI u)), (3, .int (nI j))]) hx hb dX5_depthOf_36 rfl hl (by decide) rfl (fun ls hl => ?_)
          refine lv_iinc (v := nI (j + 1)) (lv' := [(3, .int (nI (j + 1))), (2, .int (nI dd)), (4, .int (nI (gP (fun k => kd (o1 k)) (fun k => tms (o1 k)) m1 cnt win stp j))), (0, .ref xo), (1, .int (nI u))]) hx hb dX5_depthOf_37 hl (k := 4) rfl (ii_1 _) (by decide) rfl (fun ls hl => ?_)
          refine lv_goto (tgt := 9) hx hb dX5_depthOf_40 (by decide) ?_
          exact ih9 (j + 1) dd m1 o1 s1 g1 _ _ _ (by omega) (by omega) (hd.trans (mx_n (f := gPu us ids tms ord kd n cnt win stp u) (by rw [← hd, ← hge]; exact b27))) hLK hP hD hS (lv_sub hl [3, 4, 1, 0] rfl)
        · skip
          refine lv_iload hx hb dX5_depthOf_30 (lv_at hl 0 rfl) ?_
          refine lv_goto (tgt := 36) hx hb dX5_depthOf_32 (by decide) ?_
          refine lv_istore_n (lv' := [(2, .int (nI (gP (fun k => kd (o1 k)) (fun k => tms (o1 k)) m1 cnt win stp j))), (4, .int (nI (gP (fun k => kd (o1 k)) (fun k => tms (o1 k)) m1 cnt win stp j))), (0, .ref xo), (1, .int (nI u)), (3, .int (nI j))]) hx hb dX5_depthOf_36 rfl hl (by decide) rfl (fun ls hl => ?_)
          refine lv_iinc (v := nI (j + 1)) (lv' := [(3, .int (nI (j + 1))), (2, .int (nI (gP (fun k => kd (o1 k)) (fun k => tms (o1 k)) m1 cnt win stp j))), (4, .int (nI (gP (fun k => kd (o1 k)) (fun k => tms (o1 k)) m1 cnt win stp j))), (0, .ref xo), (1, .int (nI u))]) hx hb dX5_depthOf_37 hl (k := 4) rfl (ii_1 _) (by decide) rfl (fun ls hl => ?_)
          refine lv_goto (tgt := 9) hx hb dX5_depthOf_40 (by decide) ?_
          exact ih9 (j + 1) (gP (fun k => kd (o1 k)) (fun k => tms (o1 k)) m1 cnt win stp j) m1 o1 s1 g1 _ _ _ (by omega) (by omega) (hge.trans (mx_y (f := gPu us ids tms ord kd n cnt win stp u) (by rw [← hd, ← hge]; exact b27))) hLK hP hD hS (lv_sub hl [3, 4, 1, 0] rfl)
  exact key9 (my2_1 - 0 + 1) 0 0 my2_1 ow2_2 sn2_3 bg2_4 _ _ _ (by omega) (Nat.zero_le _) rfl hLK hP hD hS (lv_sub hl [2, 3, 1, 0] rfl)

abbrev rm_X5_depth : Room := { frames := 2, cells := 0, slots := 0, locals := 48 }
abbrev q_X5_depth (D : va_G) (cI : ClassId) (xo : Nat) (xu : Nat) (xi : Nat) (xk : Nat) (xt : Nat) (xr : Nat) (xs : Nat) (xa : Nat) (xn : Nat) (xb : Nat) (xw : Nat) (xg : Nat) (us : Nat → Nat) (n : Nat) (ids : Nat → Nat) (kd : Nat → Int32) (tms : Nat → Nat) (ord : Nat → Nat) (gp : Nat) (cnt : Nat) (stp : Nat → Int32) (win : Nat) (cl : Nat) (kA : Nat → Int32) (kN : Nat → Int32) (kS : Nat → Int32) (my : Nat) (ow : Nat → Nat) (sn : Nat) (bg : Nat → Nat) (th : Nat) (k1 : Int32) (A : Nat → Prop) : Array Value → State → Outcome → State → Prop := muQi D (fun (r : Int32) (uu : Nat × Nat × (Nat → Nat) × Nat × (Nat → Nat)) => match uu with | (th2, my2, ow2, sn2, bg2) => (inRb k1 0 19 = true ∧ th2 = 0 ∧ r = nI (dpM us ids tms ord kd n cnt win stp (us (cN k1)))) ∨ (inRb k1 0 19 = false ∧ th2 = 1)) (fun (uu : Nat × Nat × (Nat → Nat) × Nat × (Nat → Nat)) => match uu with | (th2, my2, ow2, sn2, bg2) => [(xo, .inr (5, [.ref xu, .int (nI n), .ref xi, .ref xk, .ref xt, .ref xr, .int (nI gp), .int (nI cnt), .ref xs, .int (nI win), .int (nI cl), .ref xa, .ref xn, .ref xb, .int (nI my2), .ref xw, .int (nI sn2), .ref xg, .int (nI th2)])), (xu, .inl (cI, 20, .inl (nF us))), (xi, .inl (cI, 250, .inl (nF ids))), (xk, .inl (cI, 250, .inl kd)), (xt, .inl (cI, 250, .inl (nF tms))), (xr, .inl (cI, 250, .inl (nF ord))), (xs, .inl (cI, 6, .inl stp)), (xa, .inl (cI, 20, .inl kA)), (xn, .inl (cI, 20, .inl kN)), (xb, .inl (cI, 20, .inl kS)), (xw, .inl (cI, 250, .inl (nF ow2))), (xg, .inl (cI, 251, .inl (nF bg2)))]) A
set_option maxHeartbeats 8000000 in
set_option maxRecDepth 100000 in
theorem c_X5_depth (l : Launch) (D : va_G) (cI : ClassId) (xo : Nat) (xu : Nat) (xi : Nat) (xk : Nat) (xt : Nat) (xr : Nat) (xs : Nat) (xa : Nat) (xn : Nat) (xb : Nat) (xw : Nat) (xg : Nat) (us : Nat → Nat) (n : Nat) (ids : Nat → Nat) (kd : Nat → Int32) (tms : Nat → Nat) (ord : Nat → Nat) (gp : Nat) (cnt : Nat) (stp : Nat → Int32) (win : Nat) (cl : Nat) (kA : Nat → Int32) (kN : Nat → Int32) (kS : Nat → Int32) (my : Nat) (ow : Nat → Nat) (sn : Nat) (bg : Nat → Nat) (th : Nat) (k1 : Int32) (sz : Nat) (hI : Inv us ids tms ord n) (hcnt : cnt ≤ 6) (hwin : win < 2000) (hg : gp ≤ 500) (hcl : cl ≤ 20) : Met l yX5_depth wsX5_depth rm_X5_depth (muP D (tI cI) [.ref xo, .int k1] [(xo, .inr (5, [.ref xu, .int (nI n), .ref xi, .ref xk, .ref xt, .ref xr, .int (nI gp), .int (nI cnt), .ref xs, .int (nI win), .int (nI cl), .ref xa, .ref xn, .ref xb, .int (nI my), .ref xw, .int (nI sn), .ref xg, .int (nI th)])), (xu, .inl (cI, 20, .inl (nF us))), (xi, .inl (cI, 250, .inl (nF ids))), (xk, .inl (cI, 250, .inl kd)), (xt, .inl (cI, 250, .inl (nF tms))), (xr, .inl (cI, 250, .inl (nF ord))), (xs, .inl (cI, 6, .inl stp)), (xa, .inl (cI, 20, .inl kA)), (xn, .inl (cI, 20, .inl kN)), (xb, .inl (cI, 20, .inl kS)), (xw, .inl (cI, 250, .inl (nF ow))), (xg, .inl (cI, 251, .inl (nF bg)))] sz) (q_X5_depth D cI xo xu xi xk xt xr xs xa xn xb xw xg us n ids kd tms ord gp cnt stp win cl kA kN kS my ow sn bg th k1 (va_A [(xo, .inr (5, [.ref xu, .int (nI n), .ref xi, .ref xk, .ref xt, .ref xr, .int (nI gp), .int (nI cnt), .ref xs, .int (nI win), .int (nI cl), .ref xa, .ref xn, .ref xb, .int (nI my), .ref xw, .int (nI sn), .ref xg, .int (nI th)])), (xu, .inl (cI, 20, .inl (nF us))), (xi, .inl (cI, 250, .inl (nF ids))), (xk, .inl (cI, 250, .inl kd)), (xt, .inl (cI, 250, .inl (nF tms))), (xr, .inl (cI, 250, .inl (nF ord))), (xs, .inl (cI, 6, .inl stp)), (xa, .inl (cI, 20, .inl kA)), (xn, .inl (cI, 20, .inl kN)), (xb, .inl (cI, 20, .inl kS)), (xw, .inl (cI, 250, .inl (nF ow))), (xg, .inl (cI, 251, .inl (nF bg)))] sz)) 0 0 (va_A [(xo, .inr (5, [.ref xu, .int (nI n), .ref xi, .ref xk, .ref xt, .ref xr, .int (nI gp), .int (nI cnt), .ref xs, .int (nI win), .int (nI cl), .ref xa, .ref xn, .ref xb, .int (nI my), .ref xw, .int (nI sn), .ref xg, .int (nI th)])), (xu, .inl (cI, 20, .inl (nF us))), (xi, .inl (cI, 250, .inl (nF ids))), (xk, .inl (cI, 250, .inl kd)), (xt, .inl (cI, 250, .inl (nF tms))), (xr, .inl (cI, 250, .inl (nF ord))), (xs, .inl (cI, 6, .inl stp)), (xa, .inl (cI, 20, .inl kA)), (xn, .inl (cI, 20, .inl kN)), (xb, .inl (cI, 20, .inl kS)), (xw, .inl (cI, 250, .inl (nF ow))), (xg, .inl (cI, 251, .inl (nF bg)))] sz) := by
  refine muOf (Qc := fun A => q_X5_depth D cI xo xu xi xk xt xr xs xa xn xb xw xg us n ids kd tms ord gp cnt stp win cl kA kN kS my ow sn bg th k1 A) (cc := cX5_depth) (maxL := 2) (ret := (some .int)) (by decide) rfl (Nat.le_of_ble_eq_true rfl) ?_
  intro p e s m below meth c ls A hx hb hml hown hts hr hlocks hnm hP hK hZ hD hA hS hl
  have hown : s.vm.findClass RX5 = some m.cls := hown
  have hl : lv_has ls 2 [(0, .ref xo), (1, .int k1)] := hl
  have hF : CallFix p m c cX5_depth 2 s [.ref xo, .int k1].toArray wsX5_depth RX5 := ⟨hx, hb, hml, hown, hts⟩
  have hinX5 : ∀ w ∈ wsX50, w ∈ wsX5_depth := by decide +kernel
  have hk7 := hts (.fieldLink RX5 7 "FunnelFoldModel" "user" "[I") (by decide +kernel)
  have hn250 := hI.hn
  refine lv_aload_n hx hb dX5_depth_0 rfl (lv_at hl 0 rfl) ?_
  refine lv_iload_n hx hb dX5_depth_1 rfl (lv_at hl 1 rfl) ?_
  refine roC (va_runS (As := [.int k1]) (rest := [.ref xo]) hF (c_X5_isId l k1 ) (va_cwS 1 hts gX5_depth_X5_isId rfl rfl rfl (by decide +kernel) ⟨Nat.le_of_ble_eq_true rfl, Nat.le_of_ble_eq_true rfl⟩) preEq rfl rfl hl.1 rfl (lv_room (Nat.le_of_ble_eq_true rfl)) dX5_depth_2 ⟨Nat.le_of_ble_eq_true rfl, Nat.le_of_ble_eq_true rfl⟩) ?_
  refine muCi (wr := [(xu, .inl (cI, 20, .inl (nF us))), (xi, .inl (cI, 250, .inl (nF ids))), (xk, .inl (cI, 250, .inl kd)), (xt, .inl (cI, 250, .inl (nF tms))), (xr, .inl (cI, 250, .inl (nF ord))), (xs, .inl (cI, 6, .inl stp)), (xa, .inl (cI, 20, .inl kA)), (xn, .inl (cI, 20, .inl kN)), (xb, .inl (cI, 20, .inl kS)), (xw, .inl (cI, 250, .inl (nF ow))), (xg, .inl (cI, 251, .inl (nF bg)))]) (wB := (fun (uu : Nat) => match uu with | th2 => [(xo, .inr (5, [.ref xu, .int (nI n), .ref xi, .ref xk, .ref xt, .ref xr, .int (nI gp), .int (nI cnt), .ref xs, .int (nI win), .int (nI cl), .ref xa, .ref xn, .ref xb, .int (nI my), .ref xw, .int (nI sn), .ref xg, .int (nI th2)])), (xu, .inl (cI, 20, .inl (nF us))), (xi, .inl (cI, 250, .inl (nF ids))), (xk, .inl (cI, 250, .inl kd)), (xt, .inl (cI, 250, .inl (nF tms))), (xr, .inl (cI, 250, .inl (nF ord))), (xs, .inl (cI, 6, .inl stp)), (xa, .inl (cI, 20, .inl kA)), (xn, .inl (cI, 20, .inl kN)), (xb, .inl (cI, 20, .inl kS)), (xw, .inl (cI, 250, .inl (nF ow))), (xg, .inl (cI, 251, .inl (nF bg)))])) (va_runV (As := [.int (bI (inRb k1 0 19))]) (rest := []) hF (c_X5_may l D cI xo xu xi xk xt xr xs xa xn xb xw xg n gp cnt win cl my sn th (inRb k1 0 19) s.heap.size ) (cwV 1 hts gX5_depth_X5_may rfl rfl rfl (by decide +kernel) ⟨Nat.le_of_ble_eq_true rfl, Nat.le_of_ble_eq_true rfl⟩) (muV hK hZ [0] rfl hP hD [0] (by decide) rfl 0 (ci := 5) rfl rfl) rfl rfl hl.1 rfl (lv_room (Nat.le_of_ble_eq_true rfl)) dX5_depth_5 ⟨Nat.le_of_ble_eq_true rfl, Nat.le_of_ble_eq_true rfl⟩) hP hD hS hA [0] [1, 2, 3, 4, 5, 6, 7, 8, 9, 10, 11] [11, 0, 1, 2, 3, 4, 5, 6, 7, 8, 9, 10] rfl rfl (by decide) (by decide) (by decide) (fun _ => rfl) (fun r_2 th2_1 H locs hw_3 hP hD hS => ?_)
  have hw_3 : r_2 = bI (inRb k1 0 19) ∧ th2_1 = mb1 (inRb k1 0 19) := hw_3
  have hP : va_P D vwCl [(xo, .inr (5, [.ref xu, .int (nI n), .ref xi, .ref xk, .ref xt, .ref xr, .int (nI gp), .int (nI cnt), .ref xs, .int (nI win), .int (nI cl), .ref xa, .ref xn, .ref xb, .int (nI my), .ref xw, .int (nI sn), .ref xg, .int (nI th2_1)])), (xu, .inl (cI, 20, .inl (nF us))), (xi, .inl (cI, 250, .inl (nF ids))), (xk, .inl (cI, 250, .inl kd)), (xt, .inl (cI, 250, .inl (nF tms))), (xr, .inl (cI, 250, .inl (nF ord))), (xs, .inl (cI, 6, .inl stp)), (xa, .inl (cI, 20, .inl kA)), (xn, .inl (cI, 20, .inl kN)), (xb, .inl (cI, 20, .inl kS)), (xw, .inl (cI, 250, .inl (nF ow))), (xg, .inl (cI, 251, .inl (nF bg)))] H := hP
  have hD : va_D A [(xo, .inr (5, [.ref xu, .int (nI n), .ref xi, .ref xk, .ref xt, .ref xr, .int (nI gp), .int (nI cnt), .ref xs, .int (nI win), .int (nI cl), .ref xa, .ref xn, .ref xb, .int (nI my), .ref xw, .int (nI sn), .ref xg, .int (nI th2_1)])), (xu, .inl (cI, 20, .inl (nF us))), (xi, .inl (cI, 250, .inl (nF ids))), (xk, .inl (cI, 250, .inl kd)), (xt, .inl (cI, 250, .inl (nF tms))), (xr, .inl (cI, 250, .inl (nF ord))), (xs, .inl (cI, 6, .inl stp)), (xa, .inl (cI, 20, .inl kA)), (xn, .inl (cI, 20, .inl kN)), (xb, .inl (cI, 20, .inl kS)), (xw, .inl (cI, 250, .inl (nF ow))), (xg, .inl (cI, 251, .inl (nF bg)))] := hD
  refine f_to (y := bI (inRb k1 0 19)) hw_3.1 ?_
  have hth := hw_3.2
  refine f_beq hx hb (tgt := 24) dX5_depth_8 (by decide) (fun b8 => ?_) (fun b8 => ?_)
  · skip
    refine lv_iconst (v := nI 0) hx hb dX5_depth_24 (by decide) ?_
    exact muRi hx hb hr hlocks (th2_1, my, ow, sn, bg) (Or.inr ⟨b8, by rw [hth, b8]; rfl⟩) hP hD hS dX5_depth_25
  · skip
    obtain ⟨i, hiL, hiH, rfl⟩ := inR_nat (inRb_t.mp b8) (by omega) (by omega)
    have hl : lv_has ls 2 [(0, .ref xo), (1, .int (nI i))] := hl
    have hui := hI.hus i
    refine lv_aload_n hx hb dX5_depth_11 rfl (lv_at hl 0 rfl) ?_
    refine lv_aload_n hx hb dX5_depth_12 rfl (lv_at hl 0 rfl) ?_
    refine va_get (D := D) (ci := 5) (v := .ref xu) (C := RX5) (T := TX5) (N := 19) hx hb hts hinX5 hown hK hP 0 rfl rfl 0 (by decide) hk7 (fun _ h9 => h9) rfl dX5_depth_13 ?_
    refine lv_iload_n hx hb dX5_depth_16 rfl (lv_at hl 1 rfl) ?_
    refine f_ald hx hb hK hP 1 0 rfl rfl (by omega) (by decide) dX5_depth_17 ?_
    refine muCi (wr := [(xa, .inl (cI, 20, .inl kA)), (xn, .inl (cI, 20, .inl kN)), (xb, .inl (cI, 20, .inl kS))]) (wB := (fun (uu : Nat × (Nat → Nat) × Nat × (Nat → Nat)) => match uu with | (my2, ow2, sn2, bg2) => [(xo, .inr (5, [.ref xu, .int (nI n), .ref xi, .ref xk, .ref xt, .ref xr, .int (nI gp), .int (nI cnt), .ref xs, .int (nI win), .int (nI cl), .ref xa, .ref xn, .ref xb, .int (nI my2), .ref xw, .int (nI sn2), .ref xg, .int (nI th2_1)])), (xu, .inl (cI, 20, .inl (nF us))), (xi, .inl (cI, 250, .inl (nF ids))), (xk, .inl (cI, 250, .inl kd)), (xt, .inl (cI, 250, .inl (nF tms))), (xr, .inl (cI, 250, .inl (nF ord))), (xs, .inl (cI, 6, .inl stp)), (xa, .inl (cI, 20, .inl kA)), (xn, .inl (cI, 20, .inl kN)), (xb, .inl (cI, 20, .inl kS)), (xw, .inl (cI, 250, .inl (nF ow2))), (xg, .inl (cI, 251, .inl (nF bg2)))])) (va_runV (As := [.int (nI (us i))]) (rest := []) hF (c_X5_depthOf l D cI xo xu xi xk xt xr xs xa xn xb xw xg us n ids kd tms ord gp cnt stp win cl my ow sn bg th2_1 (us i) H.size (by first | assumption | omega) (by first | assumption | omega) (by first | assumption | omega) (by first | assumption | omega) (by first | assumption | omega)) (cwV 1 hts gX5_depth_X5_depthOf rfl rfl rfl (by decide +kernel) ⟨Nat.le_of_ble_eq_true rfl, Nat.le_of_ble_eq_true rfl⟩) (muV hK hZ [0] rfl hP hD [0, 1, 2, 3, 4, 5, 6, 10, 11] (by decide) rfl 0 (ci := 5) rfl rfl) rfl rfl hl.1 rfl (lv_room (Nat.le_of_ble_eq_true rfl)) dX5_depth_18 ⟨Nat.le_of_ble_eq_true rfl, Nat.le_of_ble_eq_true rfl⟩) hP hD hS hA [0, 1, 2, 3, 4, 5, 6, 10, 11] [7, 8, 9] [3, 4, 5, 6, 7, 8, 9, 0, 1, 2, 10, 11] rfl rfl (by decide) (by decide) (by decide) (fun _ => rfl) (fun r_8 u_10 H locs hw_9 hP hD hS => ?_)
    obtain ⟨my2_4, ow2_5, sn2_6, bg2_7⟩ := u_10
    have hw_9 : LKok us ids tms ord n gp (us i) my2_4 ow2_5 sn2_6 bg2_7 ∧ r_8 = nI (dpM us ids tms ord kd n cnt win stp (us i)) := hw_9
    have hP : va_P D vwCl [(xo, .inr (5, [.ref xu, .int (nI n), .ref xi, .ref xk, .ref xt, .ref xr, .int (nI gp), .int (nI cnt), .ref xs, .int (nI win), .int (nI cl), .ref xa, .ref xn, .ref xb, .int (nI my2_4), .ref xw, .int (nI sn2_6), .ref xg, .int (nI th2_1)])), (xu, .inl (cI, 20, .inl (nF us))), (xi, .inl (cI, 250, .inl (nF ids))), (xk, .inl (cI, 250, .inl kd)), (xt, .inl (cI, 250, .inl (nF tms))), (xr, .inl (cI, 250, .inl (nF ord))), (xs, .inl (cI, 6, .inl stp)), (xa, .inl (cI, 20, .inl kA)), (xn, .inl (cI, 20, .inl kN)), (xb, .inl (cI, 20, .inl kS)), (xw, .inl (cI, 250, .inl (nF ow2_5))), (xg, .inl (cI, 251, .inl (nF bg2_7)))] H := hP
    have hD : va_D A [(xo, .inr (5, [.ref xu, .int (nI n), .ref xi, .ref xk, .ref xt, .ref xr, .int (nI gp), .int (nI cnt), .ref xs, .int (nI win), .int (nI cl), .ref xa, .ref xn, .ref xb, .int (nI my2_4), .ref xw, .int (nI sn2_6), .ref xg, .int (nI th2_1)])), (xu, .inl (cI, 20, .inl (nF us))), (xi, .inl (cI, 250, .inl (nF ids))), (xk, .inl (cI, 250, .inl kd)), (xt, .inl (cI, 250, .inl (nF tms))), (xr, .inl (cI, 250, .inl (nF ord))), (xs, .inl (cI, 6, .inl stp)), (xa, .inl (cI, 20, .inl kA)), (xn, .inl (cI, 20, .inl kN)), (xb, .inl (cI, 20, .inl kS)), (xw, .inl (cI, 250, .inl (nF ow2_5))), (xg, .inl (cI, 251, .inl (nF bg2_7)))] := hD
    refine f_to (y := nI (dpM us ids tms ord kd n cnt win stp (us i))) hw_9.2 ?_
    have hLK := hw_9.1
    have hLm := hLK.le
    have hLs := hLK.le2
    refine lv_goto (tgt := 25) hx hb dX5_depth_21 (by decide) ?_
    exact muRi hx hb hr hlocks (th2_1, my2_4, ow2_5, sn2_6, bg2_7) (Or.inl ⟨b8, by rw [hth, b8]; rfl, by rw [cN_nI (by omega)]⟩) hP hD hS dX5_depth_25

abbrev rm_X5_passed : Room := { frames := 2, cells := 0, slots := 0, locals := 48 }
abbrev q_X5_passed (D : va_G) (cI : ClassId) (xo : Nat) (xu : Nat) (xi : Nat) (xk : Nat) (xt : Nat) (xr : Nat) (xs : Nat) (xa : Nat) (xn : Nat) (xb : Nat) (xw : Nat) (xg : Nat) (us : Nat → Nat) (n : Nat) (ids : Nat → Nat) (kd : Nat → Int32) (tms : Nat → Nat) (ord : Nat → Nat) (gp : Nat) (cnt : Nat) (stp : Nat → Int32) (win : Nat) (cl : Nat) (kA : Nat → Int32) (kN : Nat → Int32) (kS : Nat → Int32) (my : Nat) (ow : Nat → Nat) (sn : Nat) (bg : Nat → Nat) (th : Nat) (k1 : Int32) (A : Nat → Prop) : Array Value → State → Outcome → State → Prop := muQi D (fun (r : Int32) (uu : Nat × Nat × (Nat → Nat) × Nat × (Nat → Nat)) => match uu with | (th2, my2, ow2, sn2, bg2) => (inBb k1 cnt = true ∧ th2 = 0 ∧ r = nI (fb_ct (fun u => decide (cN k1 < dpM us ids tms ord kd n cnt win stp u)) 20)) ∨ (inBb k1 cnt = false ∧ th2 = 1)) (fun (uu : Nat × Nat × (Nat → Nat) × Nat × (Nat → Nat)) => match uu with | (th2, my2, ow2, sn2, bg2) => [(xo, .inr (5, [.ref xu, .int (nI n), .ref xi, .ref xk, .ref xt, .ref xr, .int (nI gp), .int (nI cnt), .ref xs, .int (nI win), .int (nI cl), .ref xa, .ref xn, .ref xb, .int (nI my2), .ref xw, .int (nI sn2), .ref xg, .int (nI th2)])), (xu, .inl (cI, 20, .inl (nF us))), (xi, .inl (cI, 250, .inl (nF ids))), (xk, .inl (cI, 250, .inl kd)), (xt, .inl (cI, 250, .inl (nF tms))), (xr, .inl (cI, 250, .inl (nF ord))), (xs, .inl (cI, 6, .inl stp)), (xa, .inl (cI, 20, .inl kA)), (xn, .inl (cI, 20, .inl kN)), (xb, .inl (cI, 20, .inl kS)), (xw, .inl (cI, 250, .inl (nF ow2))), (xg, .inl (cI, 251, .inl (nF bg2)))]) A
set_option maxHeartbeats 8000000 in
set_option maxRecDepth 100000 in
theorem c_X5_passed (l : Launch) (D : va_G) (cI : ClassId) (xo : Nat) (xu : Nat) (xi : Nat) (xk : Nat) (xt : Nat) (xr : Nat) (xs : Nat) (xa : Nat) (xn : Nat) (xb : Nat) (xw : Nat) (xg : Nat) (us : Nat → Nat) (n : Nat) (ids : Nat → Nat) (kd : Nat → Int32) (tms : Nat → Nat) (ord : Nat → Nat) (gp : Nat) (cnt : Nat) (stp : Nat → Int32) (win : Nat) (cl : Nat) (kA : Nat → Int32) (kN : Nat → Int32) (kS : Nat → Int32) (my : Nat) (ow : Nat → Nat) (sn : Nat) (bg : Nat → Nat) (th : Nat) (k1 : Int32) (sz : Nat) (hI : Inv us ids tms ord n) (hcnt : cnt ≤ 6) (hwin : win < 2000) (hg : gp ≤ 500) (hcl : cl ≤ 20) : Met l yX5_passed wsX5_passed rm_X5_passed (muP D (tI cI) [.ref xo, .int k1] [(xo, .inr (5, [.ref xu, .int (nI n), .ref xi, .ref xk, .ref xt, .ref xr, .int (nI gp), .int (nI cnt), .ref xs, .int (nI win), .int (nI cl), .ref xa, .ref xn, .ref xb, .int (nI my), .ref xw, .int (nI sn), .ref xg, .int (nI th)])), (xu, .inl (cI, 20, .inl (nF us))), (xi, .inl (cI, 250, .inl (nF ids))), (xk, .inl (cI, 250, .inl kd)), (xt, .inl (cI, 250, .inl (nF tms))), (xr, .inl (cI, 250, .inl (nF ord))), (xs, .inl (cI, 6, .inl stp)), (xa, .inl (cI, 20, .inl kA)), (xn, .inl (cI, 20, .inl kN)), (xb, .inl (cI, 20, .inl kS)), (xw, .inl (cI, 250, .inl (nF ow))), (xg, .inl (cI, 251, .inl (nF bg)))] sz) (q_X5_passed D cI xo xu xi xk xt xr xs xa xn xb xw xg us n ids kd tms ord gp cnt stp win cl kA kN kS my ow sn bg th k1 (va_A [(xo, .inr (5, [.ref xu, .int (nI n), .ref xi, .ref xk, .ref xt, .ref xr, .int (nI gp), .int (nI cnt), .ref xs, .int (nI win), .int (nI cl), .ref xa, .ref xn, .ref xb, .int (nI my), .ref xw, .int (nI sn), .ref xg, .int (nI th)])), (xu, .inl (cI, 20, .inl (nF us))), (xi, .inl (cI, 250, .inl (nF ids))), (xk, .inl (cI, 250, .inl kd)), (xt, .inl (cI, 250, .inl (nF tms))), (xr, .inl (cI, 250, .inl (nF ord))), (xs, .inl (cI, 6, .inl stp)), (xa, .inl (cI, 20, .inl kA)), (xn, .inl (cI, 20, .inl kN)), (xb, .inl (cI, 20, .inl kS)), (xw, .inl (cI, 250, .inl (nF ow))), (xg, .inl (cI, 251, .inl (nF bg)))] sz)) 0 0 (va_A [(xo, .inr (5, [.ref xu, .int (nI n), .ref xi, .ref xk, .ref xt, .ref xr, .int (nI gp), .int (nI cnt), .ref xs, .int (nI win), .int (nI cl), .ref xa, .ref xn, .ref xb, .int (nI my), .ref xw, .int (nI sn), .ref xg, .int (nI th)])), (xu, .inl (cI, 20, .inl (nF us))), (xi, .inl (cI, 250, .inl (nF ids))), (xk, .inl (cI, 250, .inl kd)), (xt, .inl (cI, 250, .inl (nF tms))), (xr, .inl (cI, 250, .inl (nF ord))), (xs, .inl (cI, 6, .inl stp)), (xa, .inl (cI, 20, .inl kA)), (xn, .inl (cI, 20, .inl kN)), (xb, .inl (cI, 20, .inl kS)), (xw, .inl (cI, 250, .inl (nF ow))), (xg, .inl (cI, 251, .inl (nF bg)))] sz) := by
  refine muOf (Qc := fun A => q_X5_passed D cI xo xu xi xk xt xr xs xa xn xb xw xg us n ids kd tms ord gp cnt stp win cl kA kN kS my ow sn bg th k1 A) (cc := cX5_passed) (maxL := 4) (ret := (some .int)) (by decide) rfl (Nat.le_of_ble_eq_true rfl) ?_
  intro p e s m below meth c ls A hx hb hml hown hts hr hlocks hnm hP hK hZ hD hA hS hl
  have hown : s.vm.findClass RX5 = some m.cls := hown
  have hl : lv_has ls 4 [(0, .ref xo), (1, .int k1)] := hl
  have hF : CallFix p m c cX5_passed 4 s [.ref xo, .int k1].toArray wsX5_passed RX5 := ⟨hx, hb, hml, hown, hts⟩
  have hinX5 : ∀ w ∈ wsX50, w ∈ wsX5_passed := by decide +kernel
  have hk85 := hts (.fieldLink RX5 85 "FunnelFoldModel" "steps" "I") (by decide +kernel)
  have hn250 := hI.hn
  have key18 : ∀ (f : Bool) (H : Heap) (locs : List Loc) (ls : Array Slot), (f = inBb k1 cnt) → va_P D vwCl [(xo, .inr (5, [.ref xu, .int (nI n), .ref xi, .ref xk, .ref xt, .ref xr, .int (nI gp), .int (nI cnt), .ref xs, .int (nI win), .int (nI cl), .ref xa, .ref xn, .ref xb, .int (nI my), .ref xw, .int (nI sn), .ref xg, .int (nI th)])), (xu, .inl (cI, 20, .inl (nF us))), (xi, .inl (cI, 250, .inl (nF ids))), (xk, .inl (cI, 250, .inl kd)), (xt, .inl (cI, 250, .inl (nF tms))), (xr, .inl (cI, 250, .inl (nF ord))), (xs, .inl (cI, 6, .inl stp)), (xa, .inl (cI, 20, .inl kA)), (xn, .inl (cI, 20, .inl kN)), (xb, .inl (cI, 20, .inl kS)), (xw, .inl (cI, 250, .inl (nF ow))), (xg, .inl (cI, 251, .inl (nF bg)))] H → va_D A [(xo, .inr (5, [.ref xu, .int (nI n), .ref xi, .ref xk, .ref xt, .ref xr, .int (nI gp), .int (nI cnt), .ref xs, .int (nI win), .int (nI cl), .ref xa, .ref xn, .ref xb, .int (nI my), .ref xw, .int (nI sn), .ref xg, .int (nI th)])), (xu, .inl (cI, 20, .inl (nF us))), (xi, .inl (cI, 250, .inl (nF ids))), (xk, .inl (cI, 250, .inl kd)), (xt, .inl (cI, 250, .inl (nF tms))), (xr, .inl (cI, 250, .inl (nF ord))), (xs, .inl (cI, 6, .inl stp)), (xa, .inl (cI, 20, .inl kA)), (xn, .inl (cI, 20, .inl kN)), (xb, .inl (cI, 20, .inl kS)), (xw, .inl (cI, 250, .inl (nF ow))), (xg, .inl (cI, 251, .inl (nF bg)))] → va_S A s.heap H locs → lv_has ls 4 [(0, .ref xo), (1, .int k1)] → W p l e rm_X5_passed s m [.ref xo, .int k1].toArray below meth c H locs 0 0 (MQ below (q_X5_passed D cI xo xu xi xk xt xr xs xa xn xb xw xg us n ids kd tms ord gp cnt stp win cl kA kN kS my ow sn bg th k1 A) [.ref xo, .int k1].toArray s 0 0 A) (F0 m 18 ls [.int (bI f), .ref xo]) := by
    intro f H locs ls hf hP hD hS hl
    refine muCi (wr := [(xu, .inl (cI, 20, .inl (nF us))), (xi, .inl (cI, 250, .inl (nF ids))), (xk, .inl (cI, 250, .inl kd)), (xt, .inl (cI, 250, .inl (nF tms))), (xr, .inl (cI, 250, .inl (nF ord))), (xs, .inl (cI, 6, .inl stp)), (xa, .inl (cI, 20, .inl kA)), (xn, .inl (cI, 20, .inl kN)), (xb, .inl (cI, 20, .inl kS)), (xw, .inl (cI, 250, .inl (nF ow))), (xg, .inl (cI, 251, .inl (nF bg)))]) (wB := (fun (uu : Nat) => match uu with | th2 => [(xo, .inr (5, [.ref xu, .int (nI n), .ref xi, .ref xk, .ref xt, .ref xr, .int (nI gp), .int (nI cnt), .ref xs, .int (nI win), .int (nI cl), .ref xa, .ref xn, .ref xb, .int (nI my), .ref xw, .int (nI sn), .ref xg, .int (nI th2)])), (xu, .inl (cI, 20, .inl (nF us))), (xi, .inl (cI, 250, .inl (nF ids))), (xk, .inl (cI, 250, .inl kd)), (xt, .inl (cI, 250, .inl (nF tms))), (xr, .inl (cI, 250, .inl (nF ord))), (xs, .inl (cI, 6, .inl stp)), (xa, .inl (cI, 20, .inl kA)), (xn, .inl (cI, 20, .inl kN)), (xb, .inl (cI, 20, .inl kS)), (xw, .inl (cI, 250, .inl (nF ow))), (xg, .inl (cI, 251, .inl (nF bg)))])) (va_runV (As := [.int (bI f)]) (rest := []) hF (c_X5_may l D cI xo xu xi xk xt xr xs xa xn xb xw xg n gp cnt win cl my sn th f H.size ) (cwV 1 hts gX5_passed_X5_may rfl rfl rfl (by decide +kernel) ⟨Nat.le_of_ble_eq_true rfl, Nat.le_of_ble_eq_true rfl⟩) (muV hK hZ [0] rfl hP hD [0] (by decide) rfl 0 (ci := 5) rfl rfl) rfl rfl hl.1 rfl (lv_room (Nat.le_of_ble_eq_true rfl)) dX5_passed_18 ⟨Nat.le_of_ble_eq_true rfl, Nat.le_of_ble_eq_true rfl⟩) hP hD hS hA [0] [1, 2, 3, 4, 5, 6, 7, 8, 9, 10, 11] [11, 0, 1, 2, 3, 4, 5, 6, 7, 8, 9, 10] rfl rfl (by decide) (by decide) (by decide) (fun _ => rfl) (fun r_2 th2_1 H locs hw_3 hP hD hS => ?_)
    have hw_3 : r_2 = bI f ∧ th2_1 = mb1 f := hw_3
    have hP : va_P D vwCl [(xo, .inr (5, [.ref xu, .int (nI n), .ref xi, .ref xk, .ref xt, .ref xr, .int (nI gp), .int (nI cnt), .ref xs, .int (nI win), .int (nI cl), .ref xa, .ref xn, .ref xb, .int (nI my), .ref xw, .int (nI sn), .ref xg, .int (nI th2_1)])), (xu, .inl (cI, 20, .inl (nF us))), (xi, .inl (cI, 250, .inl (nF ids))), (xk, .inl (cI, 250, .inl kd)), (xt, .inl (cI, 250, .inl (nF tms))), (xr, .inl (cI, 250, .inl (nF ord))), (xs, .inl (cI, 6, .inl stp)), (xa, .inl (cI, 20, .inl kA)), (xn, .inl (cI, 20, .inl kN)), (xb, .inl (cI, 20, .inl kS)), (xw, .inl (cI, 250, .inl (nF ow))), (xg, .inl (cI, 251, .inl (nF bg)))] H := hP
    have hD : va_D A [(xo, .inr (5, [.ref xu, .int (nI n), .ref xi, .ref xk, .ref xt, .ref xr, .int (nI gp), .int (nI cnt), .ref xs, .int (nI win), .int (nI cl), .ref xa, .ref xn, .ref xb, .int (nI my), .ref xw, .int (nI sn), .ref xg, .int (nI th2_1)])), (xu, .inl (cI, 20, .inl (nF us))), (xi, .inl (cI, 250, .inl (nF ids))), (xk, .inl (cI, 250, .inl kd)), (xt, .inl (cI, 250, .inl (nF tms))), (xr, .inl (cI, 250, .inl (nF ord))), (xs, .inl (cI, 6, .inl stp)), (xa, .inl (cI, 20, .inl kA)), (xn, .inl (cI, 20, .inl kN)), (xb, .inl (cI, 20, .inl kS)), (xw, .inl (cI, 250, .inl (nF ow))), (xg, .inl (cI, 251, .inl (nF bg)))] := hD
    refine f_to (y := bI f) hw_3.1 ?_
    have hth := hw_3.2
    refine f_bne hx hb (tgt := 26) dX5_passed_21 (by decide) (fun b21 => ?_) (fun b21 => ?_)
    · skip
      obtain ⟨i, hiH, rfl⟩ := inB_nat (inBb_t.mp (hf.symm.trans b21)) (by omega)
      have hl : lv_has ls 4 [(0, .ref xo), (1, .int (nI i))] := hl
      refine lv_iconst (v := nI 0) hx hb dX5_passed_26 (by decide) ?_
      refine lv_istore_n (lv' := [(2, .int (nI 0)), (0, .ref xo), (1, .int (nI i))]) hx hb dX5_passed_27 rfl hl (by decide) rfl (fun ls hl => ?_)
      refine lv_iconst (v := nI 0) hx hb dX5_passed_28 (by decide) ?_
      refine lv_istore_n (lv' := [(3, .int (nI 0)), (2, .int (nI 0)), (0, .ref xo), (1, .int (nI i))]) hx hb dX5_passed_29 rfl hl (by decide) rfl (fun ls hl => ?_)
      have key30 : ∀ (fuel : Nat) (x : Nat) (w : Nat) (m1 : Nat) (o1 : Nat → Nat) (s1 : Nat) (g1 : Nat → Nat) (H : Heap) (locs : List Loc) (ls : Array Slot), 20 - x < fuel → (x ≤ 20) → (w = fb_ct (fun u => decide (i < dpM us ids tms ord kd n cnt win stp u)) x) → va_P D vwCl [(xo, .inr (5, [.ref xu, .int (nI n), .ref xi, .ref xk, .ref xt, .ref xr, .int (nI gp), .int (nI cnt), .ref xs, .int (nI win), .int (nI cl), .ref xa, .ref xn, .ref xb, .int (nI m1), .ref xw, .int (nI s1), .ref xg, .int (nI th2_1)])), (xu, .inl (cI, 20, .inl (nF us))), (xi, .inl (cI, 250, .inl (nF ids))), (xk, .inl (cI, 250, .inl kd)), (xt, .inl (cI, 250, .inl (nF tms))), (xr, .inl (cI, 250, .inl (nF ord))), (xs, .inl (cI, 6, .inl stp)), (xa, .inl (cI, 20, .inl kA)), (xn, .inl (cI, 20, .inl kN)), (xb, .inl (cI, 20, .inl kS)), (xw, .inl (cI, 250, .inl (nF o1))), (xg, .inl (cI, 251, .inl (nF g1)))] H → va_D A [(xo, .inr (5, [.ref xu, .int (nI n), .ref xi, .ref xk, .ref xt, .ref xr, .int (nI gp), .int (nI cnt), .ref xs, .int (nI win), .int (nI cl), .ref xa, .ref xn, .ref xb, .int (nI m1), .ref xw, .int (nI s1), .ref xg, .int (nI th2_1)])), (xu, .inl (cI, 20, .inl (nF us))), (xi, .inl (cI, 250, .inl (nF ids))), (xk, .inl (cI, 250, .inl kd)), (xt, .inl (cI, 250, .inl (nF tms))), (xr, .inl (cI, 250, .inl (nF ord))), (xs, .inl (cI, 6, .inl stp)), (xa, .inl (cI, 20, .inl kA)), (xn, .inl (cI, 20, .inl kN)), (xb, .inl (cI, 20, .inl kS)), (xw, .inl (cI, 250, .inl (nF o1))), (xg, .inl (cI, 251, .inl (nF g1)))] → va_S A s.heap H locs → lv_has ls 4 [(0, .ref xo), (1, .int (nI i)), (2, .int (nI w)), (3, .int (nI x))] → W p l e rm_X5_passed s m [.ref xo, .int (nI i)].toArray below meth c H locs 0 0 (MQ below (q_X5_passed D cI xo xu xi xk xt xr xs xa xn xb xw xg us n ids kd tms ord gp cnt stp win cl kA kN kS my ow sn bg th (nI i) A) [.ref xo, .int (nI i)].toArray s 0 0 A) (F0 m 30 ls []) := by
        intro fuel
        induction fuel with
        | zero => intro x w m1 o1 s1 g1 H locs ls hfu; exact absurd hfu (Nat.not_lt_zero _)
        | succ fuel ih30 =>
          intro x w m1 o1 s1 g1 H locs ls hfu hx2 hw2 hP hD hS hl
          refine lv_iload_n hx hb dX5_passed_30 rfl (lv_at hl 3 rfl) ?_
          refine lv_bipush (v := nI 20) hx hb dX5_passed_31 (by decide) ?_
          refine f_ge hx hb (by omega) (by omega) (tgt := 59) dX5_passed_33 (by decide) (fun b33 => ?_) (fun b33 => ?_)
          · skip
            refine lv_iload_n hx hb dX5_passed_59 rfl (lv_at hl 2 rfl) ?_
            exact muRi hx hb hr hlocks (th2_1, m1, o1, s1, g1) (Or.inl ⟨hf.symm.trans b21, by rw [hth, b21]; rfl, by rw [cN_nI (by omega), hw2, show x = 20 by omega]⟩) hP hD hS dX5_passed_60
          · skip
            refine lv_iload_n hx hb dX5_passed_36 rfl (lv_at hl 2 rfl) ?_
            refine lv_aload_n hx hb dX5_passed_37 rfl (lv_at hl 0 rfl) ?_
            refine lv_iload_n hx hb dX5_passed_38 rfl (lv_at hl 3 rfl) ?_
            refine muCi (wr := [(xa, .inl (cI, 20, .inl kA)), (xn, .inl (cI, 20, .inl kN)), (xb, .inl (cI, 20, .inl kS))]) (wB := (fun (uu : Nat × (Nat → Nat) × Nat × (Nat → Nat)) => match uu with | (my2, ow2, sn2, bg2) => [(xo, .inr (5, [.ref xu, .int (nI n), .ref xi, .ref xk, .ref xt, .ref xr, .int (nI gp), .int (nI cnt), .ref xs, .int (nI win), .int (nI cl), .ref xa, .ref xn, .ref xb, .int (nI my2), .ref xw, .int (nI sn2), .ref xg, .int (nI th2_1)])), (xu, .inl (cI, 20, .inl (nF us))), (xi, .inl (cI, 250, .inl (nF ids))), (xk, .inl (cI, 250, .inl kd)), (xt, .inl (cI, 250, .inl (nF tms))), (xr, .inl (cI, 250, .inl (nF ord))), (xs, .inl (cI, 6, .inl stp)), (xa, .inl (cI, 20, .inl kA)), (xn, .inl (cI, 20, .inl kN)), (xb, .inl (cI, 20, .inl kS)), (xw, .inl (cI, 250, .inl (nF ow2))), (xg, .inl (cI, 251, .inl (nF bg2)))])) (va_runV (As := [.int (nI x)]) (rest := [.int (nI w)]) hF (c_X5_depthOf l D cI xo xu xi xk xt xr xs xa xn xb xw xg us n ids kd tms ord gp cnt stp win cl m1 o1 s1 g1 th2_1 x H.size (by first | assumption | omega) (by first | assumption | omega) (by first | assumption | omega) (by first | assumption | omega) (by first | assumption | omega)) (cwV 1 hts gX5_passed_X5_depthOf rfl rfl rfl (by decide +kernel) ⟨Nat.le_of_ble_eq_true rfl, Nat.le_of_ble_eq_true rfl⟩) (muV hK hZ [0] rfl hP hD [0, 1, 2, 3, 4, 5, 6, 10, 11] (by decide) rfl 0 (ci := 5) rfl rfl) rfl rfl hl.1 rfl (lv_room (Nat.le_of_ble_eq_true rfl)) dX5_passed_39 ⟨Nat.le_of_ble_eq_true rfl, Nat.le_of_ble_eq_true rfl⟩) hP hD hS hA [0, 1, 2, 3, 4, 5, 6, 10, 11] [7, 8, 9] [3, 4, 5, 6, 7, 8, 9, 0, 1, 2, 10, 11] rfl rfl (by decide) (by decide) (by decide) (fun _ => rfl) (fun r_8 u_10 H locs hw_9 hP hD hS => ?_)
            obtain ⟨my2_4, ow2_5, sn2_6, bg2_7⟩ := u_10
            have hw_9 : LKok us ids tms ord n gp x my2_4 ow2_5 sn2_6 bg2_7 ∧ r_8 = nI (dpM us ids tms ord kd n cnt win stp x) := hw_9
            have hP : va_P D vwCl [(xo, .inr (5, [.ref xu, .int (nI n), .ref xi, .ref xk, .ref xt, .ref xr, .int (nI gp), .int (nI cnt), .ref xs, .int (nI win), .int (nI cl), .ref xa, .ref xn, .ref xb, .int (nI my2_4), .ref xw, .int (nI sn2_6), .ref xg, .int (nI th2_1)])), (xu, .inl (cI, 20, .inl (nF us))), (xi, .inl (cI, 250, .inl (nF ids))), (xk, .inl (cI, 250, .inl kd)), (xt, .inl (cI, 250, .inl (nF tms))), (xr, .inl (cI, 250, .inl (nF ord))), (xs, .inl (cI, 6, .inl stp)), (xa, .inl (cI, 20, .inl kA)), (xn, .inl (cI, 20, .inl kN)), (xb, .inl (cI, 20, .inl kS)), (xw, .inl (cI, 250, .inl (nF ow2_5))), (xg, .inl (cI, 251, .inl (nF bg2_7)))] H := hP
            have hD : va_D A [(xo, .inr (5, [.ref xu, .int (nI n), .ref xi, .ref xk, .ref xt, .ref xr, .int (nI gp), .int (nI cnt), .ref xs, .int (nI win), .int (nI cl), .ref xa, .ref xn, .ref xb, .int (nI my2_4), .ref xw, .int (nI sn2_6), .ref xg, .int (nI th2_1)])), (xu, .inl (cI, 20, .inl (nF us))), (xi, .inl (cI, 250, .inl (nF ids))), (xk, .inl (cI, 250, .inl kd)), (xt, .inl (cI, 250, .inl (nF tms))), (xr, .inl (cI, 250, .inl (nF ord))), (xs, .inl (cI, 6, .inl stp)), (xa, .inl (cI, 20, .inl kA)), (xn, .inl (cI, 20, .inl kN)), (xb, .inl (cI, 20, .inl kS)), (xw, .inl (cI, 250, .inl (nF ow2_5))), (xg, .inl (cI, 251, .inl (nF bg2_7)))] := hD
            refine f_to (y := nI (dpM us ids tms ord kd n cnt win stp x)) hw_9.2 ?_
            have hLK := hw_9.1
            have hLm := hLK.le
            have hLs := hLK.le2
            have hdx := dpM_le us ids tms ord kd n cnt win stp x
            refine lv_iload_n hx hb dX5_passed_42 rfl (lv_at hl 1 rfl) ?_
            refine f_le hx hb (by omega) (by omega) (tgt := 50) dX5_passed_43 (by decide) (fun b43 => ?_) (fun b43 => ?_)
            · skip
              refine lv_iconst (v := nI 0) hx hb dX5_passed_50 (by decide) ?_
              refine f_add hx hb dX5_passed_51 ?_
              refine lv_istore_n (lv' := [(2, .int (nI (w + 0))), (0, .ref xo), (1, .int (nI i)), (3, .int (nI x))]) hx hb dX5_passed_52 rfl hl (by decide) rfl (fun ls hl => ?_)
              refine lv_iinc (v := nI (x + 1)) (lv' := [(3, .int (nI (x + 1))), (2, .int (nI (w + 0))), (0, .ref xo), (1, .int (nI i))]) hx hb dX5_passed_53 hl (k := 3) rfl (ii_1 _) (by decide) rfl (fun ls hl => ?_)
              refine lv_goto (tgt := 30) hx hb dX5_passed_56 (by decide) ?_
              exact ih30 (x + 1) (w + 0) my2_4 ow2_5 sn2_6 bg2_7 _ _ _ (by omega) (by omega) (by rw [hw2]; exact (ct_n (decide_eq_false (Nat.not_lt.mpr b43))).symm) hP hD hS (lv_sub hl [2, 3, 1, 0] rfl)
            · skip
              refine lv_iconst (v := nI 1) hx hb dX5_passed_46 (by decide) ?_
              refine lv_goto (tgt := 51) hx hb dX5_passed_47 (by decide) ?_
              refine f_add hx hb dX5_passed_51 ?_
              refine lv_istore_n (lv' := [(2, .int (nI (w + 1))), (0, .ref xo), (1, .int (nI i)), (3, .int (nI x))]) hx hb dX5_passed_52 rfl hl (by decide) rfl (fun ls hl => ?_)
              refine lv_iinc (v := nI (x + 1)) (lv' := [(3, .int (nI (x + 1))), (2, .int (nI (w + 1))), (0, .ref xo), (1, .int (nI i))]) hx hb dX5_passed_53 hl (k := 3) rfl (ii_1 _) (by decide) rfl (fun ls hl => ?_)
              refine lv_goto (tgt := 30) hx hb dX5_passed_56 (by decide) ?_
              exact ih30 (x + 1) (w + 1) my2_4 ow2_5 sn2_6 bg2_7 _ _ _ (by omega) (by omega) (by rw [hw2]; exact (ct_y (decide_eq_true b43)).symm) hP hD hS (lv_sub hl [2, 3, 1, 0] rfl)
      exact key30 (20 - 0 + 1) 0 0 my ow sn bg _ _ _ (by omega) (Nat.zero_le _) rfl hP hD hS (lv_sub hl [2, 3, 1, 0] rfl)
    · skip
      refine lv_iconst (v := nI 0) hx hb dX5_passed_24 (by decide) ?_
      exact muRi hx hb hr hlocks (th2_1, my, ow, sn, bg) (Or.inr ⟨hf.symm.trans b21, by rw [hth, b21]; rfl⟩) hP hD hS dX5_passed_25
  refine lv_aload_n hx hb dX5_passed_0 rfl (lv_at hl 0 rfl) ?_
  refine lv_iload_n hx hb dX5_passed_1 rfl (lv_at hl 1 rfl) ?_
  refine lv_if_lt hx hb (tgt := 17) dX5_passed_2 (by decide) (fun b2 => ?_) (fun b2 => ?_)
  · skip
    refine lv_iconst (v := nI 0) hx hb dX5_passed_17 (by decide) ?_
    refine f_to (y := bI false) rfl ?_
    exact key18 false _ _ _  (by first | exact (inBb_lt b2).symm | exact (inBb_ge b10).symm | exact (inBb_in b2 b10).symm) hP hD hS (lv_sub hl [0, 1] rfl)
  · skip
    refine lv_iload_n hx hb dX5_passed_5 rfl (lv_at hl 1 rfl) ?_
    refine lv_aload_n hx hb dX5_passed_6 rfl (lv_at hl 0 rfl) ?_
    refine va_get (D := D) (ci := 5) (v := .int (nI cnt)) (C := RX5) (T := TX5) (N := 19) hx hb hts hinX5 hown hK hP 0 rfl rfl 7 (by decide) hk85 (fun _ h9 => h9) rfl dX5_passed_7 ?_
    refine lv_icmp_ge hx hb (tgt := 17) dX5_passed_10 (by decide) (fun b10 => ?_) (fun b10 => ?_)
    · skip
      refine lv_iconst (v := nI 0) hx hb dX5_passed_17 (by decide) ?_
      refine f_to (y := bI false) rfl ?_
      exact key18 false _ _ _  (by first | exact (inBb_lt b2).symm | exact (inBb_ge b10).symm | exact (inBb_in b2 b10).symm) hP hD hS (lv_sub hl [0, 1] rfl)
    · skip
      refine lv_iconst (v := nI 1) hx hb dX5_passed_13 (by decide) ?_
      refine lv_goto (tgt := 18) hx hb dX5_passed_14 (by decide) ?_
      refine f_to (y := bI true) rfl ?_
      exact key18 true _ _ _  (by first | exact (inBb_lt b2).symm | exact (inBb_ge b10).symm | exact (inBb_in b2 b10).symm) hP hD hS (lv_sub hl [0, 1] rfl)

