/-- what a user is worth, by events, sessions or depth -/
def woV (us ids : Nat → Nat) (kd : Nat → Int32) (tms ord : Nat → Nat) (n : Nat) (stp : Nat → Int32) (cnt win gp b u : Nat) : Nat := if b = 0 then mm us ids ord n u else if b = 1 then fb_ct (bs (tau us ids tms ord n u) gp) (mm us ids ord n u) else (folL stp cnt win (kap us ids kd ord n u) (tau us ids tms ord n u) (mm us ids ord n u)).2.1
theorem wo_0 {us ids : Nat → Nat} {kd : Nat → Int32} {tms ord : Nat → Nat} {n : Nat} {stp : Nat → Int32} {cnt win gp b u : Nat} (h : b = 0) : woV us ids kd tms ord n stp cnt win gp b u = mm us ids ord n u := if_pos h
theorem wo_1 {us ids : Nat → Nat} {kd : Nat → Int32} {tms ord : Nat → Nat} {n : Nat} {stp : Nat → Int32} {cnt win gp b u : Nat} (h : b = 1) : woV us ids kd tms ord n stp cnt win gp b u = fb_ct (bs (tau us ids tms ord n u) gp) (mm us ids ord n u) := (if_neg (by omega)).trans (if_pos h)
theorem wo_2 {us ids : Nat → Nat} {kd : Nat → Int32} {tms ord : Nat → Nat} {n : Nat} {stp : Nat → Int32} {cnt win gp b u : Nat} (h : 0 < b) (h2 : b ≠ 1) : woV us ids kd tms ord n stp cnt win gp b u = (folL stp cnt win (kap us ids kd ord n u) (tau us ids tms ord n u) (mm us ids ord n u)).2.1 := (if_neg (by omega)).trans (if_neg h2)

abbrev rm_L_worth : Room := { frames := 3, cells := 1, slots := 7, locals := 83 }
abbrev q_L_worth (D : va_G) (cI : ClassId) (lu : Nat) (li : Nat) (lk : Nat) (lt_ : Nat) (lc : Nat) (lz : Nat) (lo : Nat) (us : Nat → Nat) (ids : Nat → Nat) (tms : Nat → Nat) (ord : Nat → Nat) (n : Nat) (kd : Nat → Int32) (stp : Nat → Int32) (gp : Nat) (win : Nat) (cnt : Nat) (cl : Nat) (who : Nat) (b : Nat) (fo : Nat → Int32) (A : Nat → Prop) : Array Value → State → Outcome → State → Prop := muQi D (fun (r : Int32) (uu : (Nat → Int32)) => match uu with | fo2 => r = nI (woV us ids kd tms ord n stp cnt win gp b who)) (fun (uu : (Nat → Int32)) => match uu with | fo2 => [(lu, .inl (cI, 8, .inl (nF us))), (li, .inl (cI, 64, .inl (nF ids))), (lk, .inl (cI, 64, .inl kd)), (lt_, .inl (cI, 64, .inl (nF tms))), (lc, .inl (cI, 5, .inl (nF (cF n gp win cnt cl)))), (lz, .inl (cI, 6, .inl stp)), (lo, .inl (cI, 3, .inl fo2))]) A
set_option maxHeartbeats 8000000 in
set_option maxRecDepth 100000 in
theorem c_L_worth (l : Launch) (D : va_G) (cI : ClassId) (lu : Nat) (li : Nat) (lk : Nat) (lt_ : Nat) (lc : Nat) (lz : Nat) (lo : Nat) (us : Nat → Nat) (ids : Nat → Nat) (tms : Nat → Nat) (ord : Nat → Nat) (n : Nat) (kd : Nat → Int32) (stp : Nat → Int32) (gp : Nat) (win : Nat) (cnt : Nat) (cl : Nat) (who : Nat) (b : Nat) (fo : Nat → Int32) (sz : Nat) (hL : Lw us ids tms ord n) (hwho : who < 2 ^ 31) (hcnt : cnt ≤ 6) (hwin : win < 2000) (hg : gp ≤ 500) (hb9 : b < 2 ^ 31) : Met l yL_worth wsL_worth rm_L_worth (muP D (tI cI) [.ref lu, .ref li, .ref lk, .ref lt_, .ref lc, .ref lz, .int (nI who), .int (nI b), .ref lo] [(lu, .inl (cI, 8, .inl (nF us))), (li, .inl (cI, 64, .inl (nF ids))), (lk, .inl (cI, 64, .inl kd)), (lt_, .inl (cI, 64, .inl (nF tms))), (lc, .inl (cI, 5, .inl (nF (cF n gp win cnt cl)))), (lz, .inl (cI, 6, .inl stp)), (lo, .inl (cI, 3, .inl fo))] sz) (q_L_worth D cI lu li lk lt_ lc lz lo us ids tms ord n kd stp gp win cnt cl who b fo (va_A [(lu, .inl (cI, 8, .inl (nF us))), (li, .inl (cI, 64, .inl (nF ids))), (lk, .inl (cI, 64, .inl kd)), (lt_, .inl (cI, 64, .inl (nF tms))), (lc, .inl (cI, 5, .inl (nF (cF n gp win cnt cl)))), (lz, .inl (cI, 6, .inl stp)), (lo, .inl (cI, 3, .inl fo))] sz)) 1 7 (va_A [(lu, .inl (cI, 8, .inl (nF us))), (li, .inl (cI, 64, .inl (nF ids))), (lk, .inl (cI, 64, .inl kd)), (lt_, .inl (cI, 64, .inl (nF tms))), (lc, .inl (cI, 5, .inl (nF (cF n gp win cnt cl)))), (lz, .inl (cI, 6, .inl stp)), (lo, .inl (cI, 3, .inl fo))] sz) := by
  refine muOf (Qc := fun A => q_L_worth D cI lu li lk lt_ lc lz lo us ids tms ord n kd stp gp win cnt cl who b fo A) (cc := cL_worth) (maxL := 9) (ret := (some .int)) (by decide) rfl (Nat.le_of_ble_eq_true rfl) ?_
  intro p e s m below meth c ls A hx hb hml hown hts hr hlocks hnm hP hK hZ hD hA hS hl
  have hown : s.vm.findClass RL = some m.cls := hown
  have hl : lv_has ls 9 [(0, .ref lu), (1, .ref li), (2, .ref lk), (3, .ref lt_), (4, .ref lc), (5, .ref lz), (6, .int (nI who)), (7, .int (nI b)), (8, .ref lo)] := hl
  have hF : CallFix p m c cL_worth 9 s [.ref lu, .ref li, .ref lk, .ref lt_, .ref lc, .ref lz, .int (nI who), .int (nI b), .ref lo].toArray wsL_worth RL := ⟨hx, hb, hml, hown, hts⟩
  have hI := hL.inv
  have hT := hL.ties
  have hn64 := hL.le
  have hmm := mm_le us ids ord n who
  have hctl := fb_ct_le ((bs (tau us ids tms ord n who) gp)) (mm us ids ord n who)
  refine lv_iload hx hb dL_worth_0 (lv_at hl 7 rfl) ?_
  refine f_zne hx hb (by omega) (tgt := 17) dL_worth_2 (by decide) (fun b2 => ?_) (fun b2 => ?_)
  · skip
    refine lv_iload hx hb dL_worth_17 (lv_at hl 7 rfl) ?_
    refine lv_iconst (v := nI 1) hx hb dL_worth_19 (by decide) ?_
    refine f_ne hx hb (by omega) (by omega) (tgt := 39) dL_worth_20 (by decide) (fun b20 => ?_) (fun b20 => ?_)
    · skip
      refine lv_aload_n hx hb dL_worth_39 rfl (lv_at hl 0 rfl) ?_
      refine lv_aload_n hx hb dL_worth_40 rfl (lv_at hl 1 rfl) ?_
      refine lv_aload_n hx hb dL_worth_41 rfl (lv_at hl 2 rfl) ?_
      refine lv_aload_n hx hb dL_worth_42 rfl (lv_at hl 3 rfl) ?_
      refine lv_aload hx hb dL_worth_43 (lv_at hl 4 rfl) ?_
      refine lv_aload hx hb dL_worth_45 (lv_at hl 5 rfl) ?_
      refine lv_iload hx hb dL_worth_47 (lv_at hl 6 rfl) ?_
      refine lv_aload hx hb dL_worth_49 (lv_at hl 8 rfl) ?_
      refine muCi (wr := []) (wB := (fun (uu : (Nat → Int32)) => match uu with | fo2 => [(lu, .inl (cI, 8, .inl (nF us))), (li, .inl (cI, 64, .inl (nF ids))), (lk, .inl (cI, 64, .inl kd)), (lt_, .inl (cI, 64, .inl (nF tms))), (lc, .inl (cI, 5, .inl (nF (cF n gp win cnt cl)))), (lz, .inl (cI, 6, .inl stp)), (lo, .inl (cI, 3, .inl fo2))])) (va_runS (As := [.ref lu, .ref li, .ref lk, .ref lt_, .ref lc, .ref lz, .int (nI who), .ref lo]) (rest := []) hF (c_L_depth l D cI lu li lk lt_ lc lz lo us ids tms ord n kd stp gp win cnt cl who fo s.heap.size (by first | assumption | omega) (by first | assumption | omega) (by first | assumption | omega) (by first | assumption | omega)) (va_cwS 8 hts gL_worth_L_depth rfl rfl rfl (by decide +kernel) ⟨Nat.le_of_ble_eq_true rfl, Nat.le_of_ble_eq_true rfl⟩) (muS hK hZ [0] rfl hP hD [0, 1, 2, 3, 4, 5, 6] (by decide) rfl) rfl rfl hl.1 rfl (lv_room (Nat.le_of_ble_eq_true rfl)) dL_worth_51 ⟨Nat.le_of_ble_eq_true rfl, Nat.le_of_ble_eq_true rfl⟩) hP hD hS hA [0, 1, 2, 3, 4, 5, 6] [] [0, 1, 2, 3, 4, 5, 6] rfl rfl (by decide) (by decide) (by decide) (fun _ => rfl) (fun r_2 fo2_1 H locs hw_3 hP hD hS => ?_)
      have hw_3 : r_2 = nI (folL stp cnt win (kap us ids kd ord n who) (tau us ids tms ord n who) (mm us ids ord n who)).2.1 ∧ fo2_1 0 = oI (folL stp cnt win (kap us ids kd ord n who) (tau us ids tms ord n who) (mm us ids ord n who)).2.2 := hw_3
      have hP : va_P D vwCl [(lu, .inl (cI, 8, .inl (nF us))), (li, .inl (cI, 64, .inl (nF ids))), (lk, .inl (cI, 64, .inl kd)), (lt_, .inl (cI, 64, .inl (nF tms))), (lc, .inl (cI, 5, .inl (nF (cF n gp win cnt cl)))), (lz, .inl (cI, 6, .inl stp)), (lo, .inl (cI, 3, .inl fo2_1))] H := hP
      have hD : va_D A [(lu, .inl (cI, 8, .inl (nF us))), (li, .inl (cI, 64, .inl (nF ids))), (lk, .inl (cI, 64, .inl kd)), (lt_, .inl (cI, 64, .inl (nF tms))), (lc, .inl (cI, 5, .inl (nF (cF n gp win cnt cl)))), (lz, .inl (cI, 6, .inl stp)), (lo, .inl (cI, 3, .inl fo2_1))] := hD
      refine f_to (y := nI ((folL stp cnt win (kap us ids kd ord n who) (tau us ids tms ord n who) (mm us ids ord n who)).2.1)) hw_3.1 ?_
      exact muRi hx hb hr hlocks fo2_1 ((by first | rw [wo_0 b2] | rw [wo_1 b20] | rw [wo_2 b2 b20])) hP hD hS dL_worth_54
    · skip
      refine lv_aload_n hx hb dL_worth_23 rfl (lv_at hl 0 rfl) ?_
      refine lv_aload_n hx hb dL_worth_24 rfl (lv_at hl 1 rfl) ?_
      refine lv_aload_n hx hb dL_worth_25 rfl (lv_at hl 3 rfl) ?_
      refine lv_aload hx hb dL_worth_26 (lv_at hl 4 rfl) ?_
      refine lv_iload hx hb dL_worth_28 (lv_at hl 6 rfl) ?_
      refine lv_iconst (v := (-1)) hx hb dL_worth_30 (by decide) ?_
      refine lv_aload hx hb dL_worth_31 (lv_at hl 8 rfl) ?_
      refine muCi (wr := [(lk, .inl (cI, 64, .inl kd)), (lz, .inl (cI, 6, .inl stp))]) (wB := (fun _ => [(lu, .inl (cI, 8, .inl (nF us))), (li, .inl (cI, 64, .inl (nF ids))), (lk, .inl (cI, 64, .inl kd)), (lt_, .inl (cI, 64, .inl (nF tms))), (lc, .inl (cI, 5, .inl (nF (cF n gp win cnt cl)))), (lz, .inl (cI, 6, .inl stp)), (lo, .inl (cI, 3, .inl (soL (-1) (tau us ids tms ord n who) gp (upd fo 0 (nI 0)) (mm us ids ord n who))))])) (va_runS (As := [.ref lu, .ref li, .ref lt_, .ref lc, .int (nI who), .int (-1), .ref lo]) (rest := []) hF (c_L_sessions l D cI lu li lt_ lc lo us ids tms ord n gp win cnt cl who (-1) fo s.heap.size (by first | assumption | omega) (by first | assumption | omega) (by first | assumption | omega)) (va_cwS 7 hts gL_worth_L_sessions rfl rfl rfl (by decide +kernel) ⟨Nat.le_of_ble_eq_true rfl, Nat.le_of_ble_eq_true rfl⟩) (muS hK hZ [0] rfl hP hD [0, 1, 3, 4, 6] (by decide) rfl) rfl rfl hl.1 rfl (lv_room (Nat.le_of_ble_eq_true rfl)) dL_worth_33 ⟨Nat.le_of_ble_eq_true rfl, Nat.le_of_ble_eq_true rfl⟩) hP hD hS hA [0, 1, 3, 4, 6] [2, 5] [2, 3, 0, 4, 5, 1, 6] rfl rfl (by decide) (by decide) (by decide) (fun _ => rfl) (fun r_4 u_6 H locs hw_5 hP hD hS => ?_)
      have hw_5 : r_4 = nI (fb_ct (bs (tau us ids tms ord n who) gp) (mm us ids ord n who)) := hw_5
      have hP : va_P D vwCl [(lu, .inl (cI, 8, .inl (nF us))), (li, .inl (cI, 64, .inl (nF ids))), (lk, .inl (cI, 64, .inl kd)), (lt_, .inl (cI, 64, .inl (nF tms))), (lc, .inl (cI, 5, .inl (nF (cF n gp win cnt cl)))), (lz, .inl (cI, 6, .inl stp)), (lo, .inl (cI, 3, .inl (soL (-1) (tau us ids tms ord n who) gp (upd fo 0 (nI 0)) (mm us ids ord n who))))] H := hP
      have hD : va_D A [(lu, .inl (cI, 8, .inl (nF us))), (li, .inl (cI, 64, .inl (nF ids))), (lk, .inl (cI, 64, .inl kd)), (lt_, .inl (cI, 64, .inl (nF tms))), (lc, .inl (cI, 5, .inl (nF (cF n gp win cnt cl)))), (lz, .inl (cI, 6, .inl stp)), (lo, .inl (cI, 3, .inl (soL (-1) (tau us ids tms ord n who) gp (upd fo 0 (nI 0)) (mm us ids ord n who))))] := hD
      refine f_to (y := nI (fb_ct (bs (tau us ids tms ord n who) gp) (mm us ids ord n who))) hw_5 ?_
      refine lv_goto (tgt := 54) hx hb dL_worth_36 (by decide) ?_
      refine W.widen (k := 1) (n := 7) (by omega) (by omega) ?_
      exact muRi hx hb hr hlocks (soL (-1) (tau us ids tms ord n who) gp (upd fo 0 (nI 0)) (mm us ids ord n who)) ((by first | rw [wo_0 b2] | rw [wo_1 b20] | rw [wo_2 b2 b20])) hP hD hS dL_worth_54
  · skip
    refine lv_aload_n hx hb dL_worth_5 rfl (lv_at hl 0 rfl) ?_
    refine lv_aload_n hx hb dL_worth_6 rfl (lv_at hl 1 rfl) ?_
    refine lv_aload hx hb dL_worth_7 (lv_at hl 4 rfl) ?_
    refine lv_iload hx hb dL_worth_9 (lv_at hl 6 rfl) ?_
    refine roC (va_runS (As := [.ref lu, .ref li, .ref lc, .int (nI who)]) (rest := []) hF (c_L_many l D cI lu li lc us ids tms ord n gp win cnt cl who (by first | assumption | omega) (by first | assumption | omega)) (va_cwS 4 hts gL_worth_L_many rfl rfl rfl (by decide +kernel) ⟨Nat.le_of_ble_eq_true rfl, Nat.le_of_ble_eq_true rfl⟩) (roS hK hZ [0] rfl hP [0, 1, 4] rfl) rfl rfl hl.1 rfl (lv_room (Nat.le_of_ble_eq_true rfl)) dL_worth_11 ⟨Nat.le_of_ble_eq_true rfl, Nat.le_of_ble_eq_true rfl⟩) ?_
    refine lv_goto (tgt := 54) hx hb dL_worth_14 (by decide) ?_
    refine W.widen (k := 1) (n := 7) (by omega) (by omega) ?_
    exact muRi hx hb hr hlocks fo ((by first | rw [wo_0 b2] | rw [wo_1 b20] | rw [wo_2 b2 b20])) hP hD hS dL_worth_54

/-- the script's cells, and what goes on behind them -/
def ceV (L : Nat) (xs : Nat → Int32) (k : Nat) : Int32 := if k < L then xs k else ((((2860486313 : Int64) * (nI k + nI 6).toInt64).toUInt64 >>> ((nI 6).toInt64.toUInt64 &&& Int64.toUInt64 63)).toInt64).toInt32
abbrev ceP (b L : Nat) (xs : Nat → Int32) (av : List Value) : Array Value → State → Prop := va_Pc av (fun U => va_X b L xs U U.heap ∧ b < U.heap.size)
abbrev rm_L_cell : Room := { frames := 0, cells := 0, slots := 0, locals := 0 }
set_option maxHeartbeats 8000000 in
set_option maxRecDepth 100000 in
theorem c_L_cell (l : Launch) (b L : Nat) (xs : Nat → Int32) (k : Nat) (hL : L < 2 ^ 31) (hk : k < 2 ^ 31) : Met l yL_cell wsL_cell rm_L_cell (ceP b L xs [.ref b, .int (nI k)]) (QcRead (ceV L xs k)) 0 0 (fun _ => False) := by
  refine Met.ofW (cc := cL_cell) (maxL := 2) (ret := (some .int)) (by decide) rfl ?_
  intro p e s m args below meth c s₁ B hml hv
  obtain ⟨rfl, hX, hbl⟩ := hv
  have hl := lv_entry [.ref b, .int (nI k)] (n := 2) (Nat.le_of_ble_eq_true rfl)
  rw [lg_entry_eq]
  have hx := B.exec
  have hb : c.code = cL_cell := B.bytes
  have hown : s.vm.findClass RL = some m.cls := findClass_of_methodNamed B.named
  have hts := atoms_spec (ws := wsL_cell) B.pre
  have hr := B.returns
  have hlocks := B.notSynchronized
  have hS : va_S (fun _ => False) s.heap s.heap [] := va_S.rf
  generalize (lg_sl ([.ref b, .int (nI k)])  ++ List.replicate (2 - (lg_sl ([.ref b, .int (nI k)])).length) Slot.unset).toArray = ls at hl ⊢
  have hl : lv_has ls 2 [(0, .ref b), (1, .int (nI k))] := hl
  refine lv_iload_n hx hb dL_cell_0 rfl (lv_at hl 1 rfl) ?_
  refine lv_aload_n hx hb dL_cell_1 rfl (lv_at hl 0 rfl) ?_
  refine va_slen hx hb hX hbl (fun h => h) hS dL_cell_2 ?_
  refine lv_icmp_ge (tgt := 12) hx hb dL_cell_3 (by decide) (fun h => ?_) (fun h => ?_)
  · have h1 : L ≤ k := (nI_leI hL hk).mp h
    refine lv_ldc2 hx hb hown (hts (.constantLong RL 7 2860486313) (by decide +kernel)) dL_cell_12 ?_
    refine lv_iload_n hx hb dL_cell_15 rfl (lv_at hl 1 rfl) ?_
    refine lv_bipush (v := nI 6) hx hb dL_cell_16 (by decide) ?_
    refine lv_iadd hx hb dL_cell_18 ?_
    refine lv_i2l (v := (nI k + nI 6).toInt64) hx hb dL_cell_19 rfl ?_
    refine lv_lmul hx hb dL_cell_20 ?_
    refine lv_bipush (v := nI 6) hx hb dL_cell_21 (by decide) ?_
    refine lv_lushr (v := (((2860486313 : Int64) * (nI k + nI 6).toInt64).toUInt64 >>> ((nI 6).toInt64.toUInt64 &&& Int64.toUInt64 63)).toInt64) hx hb dL_cell_23 rfl ?_
    refine lv_l2i (v := ceV L xs k) hx hb dL_cell_24 (if_neg (by omega)).symm ?_
    exact roRi hx hb hr hlocks rfl dL_cell_25
  · have h1 : k < L := Nat.not_le.mp fun q => h ((nI_leI hL hk).mpr q)
    refine lv_aload_n hx hb dL_cell_6 rfl (lv_at hl 0 rfl) ?_
    refine lv_iload_n hx hb dL_cell_7 rfl (lv_at hl 1 rfl) ?_
    refine va_sld hx hb hX hbl (fun h => h) hS (vp_in_nI h1 hL) dL_cell_8 ?_
    refine lv_goto (tgt := 25) hx hb dL_cell_9 (by decide) ?_
    exact roRi hx hb hr hlocks (by rw [nI_clamp hk]; exact (if_pos h1).symm) dL_cell_25
