
abbrev rm_L_depth : Room := { frames := 2, cells := 1, slots := 7, locals := 51 }
abbrev q_L_depth (D : va_G) (cI : ClassId) (lu : Nat) (li : Nat) (lk : Nat) (lt_ : Nat) (lc : Nat) (lz : Nat) (lo : Nat) (us : Nat → Nat) (ids : Nat → Nat) (tms : Nat → Nat) (ord : Nat → Nat) (n : Nat) (kd : Nat → Int32) (stp : Nat → Int32) (gp : Nat) (win : Nat) (cnt : Nat) (cl : Nat) (who : Nat) (fo : Nat → Int32) (A : Nat → Prop) : Array Value → State → Outcome → State → Prop := muQi D (fun (r : Int32) (uu : (Nat → Int32)) => match uu with | fo2 => r = nI (folL stp cnt win (kap us ids kd ord n who) (tau us ids tms ord n who) (mm us ids ord n who)).2.1 ∧ fo2 0 = oI (folL stp cnt win (kap us ids kd ord n who) (tau us ids tms ord n who) (mm us ids ord n who)).2.2) (fun (uu : (Nat → Int32)) => match uu with | fo2 => [(lu, .inl (cI, 8, .inl (nF us))), (li, .inl (cI, 64, .inl (nF ids))), (lk, .inl (cI, 64, .inl kd)), (lt_, .inl (cI, 64, .inl (nF tms))), (lc, .inl (cI, 5, .inl (nF (cF n gp win cnt cl)))), (lz, .inl (cI, 6, .inl stp)), (lo, .inl (cI, 3, .inl fo2))]) A
set_option maxHeartbeats 8000000 in
set_option maxRecDepth 100000 in
theorem c_L_depth (l : Launch) (D : va_G) (cI : ClassId) (lu : Nat) (li : Nat) (lk : Nat) (lt_ : Nat) (lc : Nat) (lz : Nat) (lo : Nat) (us : Nat → Nat) (ids : Nat → Nat) (tms : Nat → Nat) (ord : Nat → Nat) (n : Nat) (kd : Nat → Int32) (stp : Nat → Int32) (gp : Nat) (win : Nat) (cnt : Nat) (cl : Nat) (who : Nat) (fo : Nat → Int32) (sz : Nat) (hL : Lw us ids tms ord n) (hwho : who < 2 ^ 31) (hcnt : cnt ≤ 6) (hwin : win < 2000) : Met l yL_depth wsL_depth rm_L_depth (muP D (tI cI) [.ref lu, .ref li, .ref lk, .ref lt_, .ref lc, .ref lz, .int (nI who), .ref lo] [(lu, .inl (cI, 8, .inl (nF us))), (li, .inl (cI, 64, .inl (nF ids))), (lk, .inl (cI, 64, .inl kd)), (lt_, .inl (cI, 64, .inl (nF tms))), (lc, .inl (cI, 5, .inl (nF (cF n gp win cnt cl)))), (lz, .inl (cI, 6, .inl stp)), (lo, .inl (cI, 3, .inl fo))] sz) (q_L_depth D cI lu li lk lt_ lc lz lo us ids tms ord n kd stp gp win cnt cl who fo (va_A [(lu, .inl (cI, 8, .inl (nF us))), (li, .inl (cI, 64, .inl (nF ids))), (lk, .inl (cI, 64, .inl kd)), (lt_, .inl (cI, 64, .inl (nF tms))), (lc, .inl (cI, 5, .inl (nF (cF n gp win cnt cl)))), (lz, .inl (cI, 6, .inl stp)), (lo, .inl (cI, 3, .inl fo))] sz)) 1 7 (va_A [(lu, .inl (cI, 8, .inl (nF us))), (li, .inl (cI, 64, .inl (nF ids))), (lk, .inl (cI, 64, .inl kd)), (lt_, .inl (cI, 64, .inl (nF tms))), (lc, .inl (cI, 5, .inl (nF (cF n gp win cnt cl)))), (lz, .inl (cI, 6, .inl stp)), (lo, .inl (cI, 3, .inl fo))] sz) := by
  refine muOf (Qc := fun A => q_L_depth D cI lu li lk lt_ lc lz lo us ids tms ord n kd stp gp win cnt cl who fo A) (cc := cL_depth) (maxL := 13) (ret := (some .int)) (by decide) rfl (Nat.le_of_ble_eq_true rfl) ?_
  intro p e s m below meth c ls A hx hb hml hown hts hr hlocks hnm hP hK hZ hD hA hS hl
  have hown : s.vm.findClass RL = some m.cls := hown
  have hl : lv_has ls 13 [(0, .ref lu), (1, .ref li), (2, .ref lk), (3, .ref lt_), (4, .ref lc), (5, .ref lz), (6, .int (nI who)), (7, .ref lo)] := hl
  have hF : CallFix p m c cL_depth 13 s [.ref lu, .ref li, .ref lk, .ref lt_, .ref lc, .ref lz, .int (nI who), .ref lo].toArray wsL_depth RL := ⟨hx, hb, hml, hown, hts⟩
  have hai := hts (.arrayClass .int) (by decide +kernel)
  have hI := hL.inv
  have hT := hL.ties
  have hn64 := hL.le
  have hmm := mm_le us ids ord n who
  refine lv_bipush (v := nI 7) hx hb dL_depth_0 (by decide) ?_
  refine mk_newa hx hb hai hK hP hD hS hA (n := 7) (by decide) (Nat.le_of_ble_eq_true rfl) (Nat.le_of_ble_eq_true rfl) dL_depth_2 (fun q_1 H hP hD hS => ?_)
  have hP : va_P D vwCl [(lu, .inl (cI, 8, .inl (nF us))), (li, .inl (cI, 64, .inl (nF ids))), (lk, .inl (cI, 64, .inl kd)), (lt_, .inl (cI, 64, .inl (nF tms))), (lc, .inl (cI, 5, .inl (nF (cF n gp win cnt cl)))), (lz, .inl (cI, 6, .inl stp)), (lo, .inl (cI, 3, .inl fo)), (q_1, .inl (cI, 7, .inl (nF (fun _ => 0))))] H := hP
  have hD : va_D A [(lu, .inl (cI, 8, .inl (nF us))), (li, .inl (cI, 64, .inl (nF ids))), (lk, .inl (cI, 64, .inl kd)), (lt_, .inl (cI, 64, .inl (nF tms))), (lc, .inl (cI, 5, .inl (nF (cF n gp win cnt cl)))), (lz, .inl (cI, 6, .inl stp)), (lo, .inl (cI, 3, .inl fo)), (q_1, .inl (cI, 7, .inl (nF (fun _ => 0))))] := hD
  refine lv_astore (lv' := [(8, .ref q_1), (0, .ref lu), (1, .ref li), (2, .ref lk), (3, .ref lt_), (4, .ref lc), (5, .ref lz), (6, .int (nI who)), (7, .ref lo)]) hx hb dL_depth_4 hl (by decide) rfl (fun ls hl => ?_)
  refine lv_iconst (v := nI 0) hx hb dL_depth_6 (by decide) ?_
  refine lv_istore (lv' := [(9, .int (nI 0)), (8, .ref q_1), (0, .ref lu), (1, .ref li), (2, .ref lk), (3, .ref lt_), (4, .ref lc), (5, .ref lz), (6, .int (nI who)), (7, .ref lo)]) hx hb dL_depth_7 hl (by decide) rfl (fun ls hl => ?_)
  refine lv_aload hx hb dL_depth_9 (lv_at hl 9 rfl) ?_
  refine lv_iconst (v := nI 0) hx hb dL_depth_11 (by decide) ?_
  refine lv_iconst (v := (-1)) hx hb dL_depth_12 (by decide) ?_
  refine f_astr hx hb hK hP hD hS 6 0 rfl rfl (by omega) (by decide) dL_depth_13 (fun H locs hP hD hS => ?_)
  have hP : va_P D vwCl [(lu, .inl (cI, 8, .inl (nF us))), (li, .inl (cI, 64, .inl (nF ids))), (lk, .inl (cI, 64, .inl kd)), (lt_, .inl (cI, 64, .inl (nF tms))), (lc, .inl (cI, 5, .inl (nF (cF n gp win cnt cl)))), (lz, .inl (cI, 6, .inl stp)), (lo, .inl (cI, 3, .inl (upd fo 0 (-1)))), (q_1, .inl (cI, 7, .inl (nF (fun _ => 0))))] H := hP
  have hD : va_D A [(lu, .inl (cI, 8, .inl (nF us))), (li, .inl (cI, 64, .inl (nF ids))), (lk, .inl (cI, 64, .inl kd)), (lt_, .inl (cI, 64, .inl (nF tms))), (lc, .inl (cI, 5, .inl (nF (cF n gp win cnt cl)))), (lz, .inl (cI, 6, .inl stp)), (lo, .inl (cI, 3, .inl (upd fo 0 (-1)))), (q_1, .inl (cI, 7, .inl (nF (fun _ => 0))))] := hD
  refine lv_iconst (v := nI 0) hx hb dL_depth_14 (by decide) ?_
  refine lv_istore (lv' := [(10, .int (nI 0)), (9, .int (nI 0)), (8, .ref q_1), (0, .ref lu), (1, .ref li), (2, .ref lk), (3, .ref lt_), (4, .ref lc), (5, .ref lz), (6, .int (nI who)), (7, .ref lo)]) hx hb dL_depth_15 hl (by decide) rfl (fun ls hl => ?_)
  have key17 : ∀ (fuel : Nat) (k : Nat) (f1 : Nat → Int32) (H : Heap) (locs : List Loc) (ls : Array Slot), 7 - k < fuel → (k ≤ 7) → (∀ j, j < k → f1 j = -1) → va_P D vwCl [(lu, .inl (cI, 8, .inl (nF us))), (li, .inl (cI, 64, .inl (nF ids))), (lk, .inl (cI, 64, .inl kd)), (lt_, .inl (cI, 64, .inl (nF tms))), (lc, .inl (cI, 5, .inl (nF (cF n gp win cnt cl)))), (lz, .inl (cI, 6, .inl stp)), (lo, .inl (cI, 3, .inl (upd fo 0 (-1)))), (q_1, .inl (cI, 7, .inl f1))] H → va_D A [(lu, .inl (cI, 8, .inl (nF us))), (li, .inl (cI, 64, .inl (nF ids))), (lk, .inl (cI, 64, .inl kd)), (lt_, .inl (cI, 64, .inl (nF tms))), (lc, .inl (cI, 5, .inl (nF (cF n gp win cnt cl)))), (lz, .inl (cI, 6, .inl stp)), (lo, .inl (cI, 3, .inl (upd fo 0 (-1)))), (q_1, .inl (cI, 7, .inl f1))] → va_S A s.heap H locs → lv_has ls 13 [(0, .ref lu), (1, .ref li), (2, .ref lk), (3, .ref lt_), (4, .ref lc), (5, .ref lz), (6, .int (nI who)), (7, .ref lo), (8, .ref q_1), (9, .int (nI 0)), (10, .int (nI k))] → W p l e rm_L_depth s m [.ref lu, .ref li, .ref lk, .ref lt_, .ref lc, .ref lz, .int (nI who), .ref lo].toArray below meth c H locs 1 7 (MQ below (q_L_depth D cI lu li lk lt_ lc lz lo us ids tms ord n kd stp gp win cnt cl who fo A) [.ref lu, .ref li, .ref lk, .ref lt_, .ref lc, .ref lz, .int (nI who), .ref lo].toArray s 1 7 A) (F0 m 17 ls []) := by
    intro fuel
    induction fuel with
    | zero => intro k f1 H locs ls hfu; exact absurd hfu (Nat.not_lt_zero _)
    | succ fuel ih17 =>
      intro k f1 H locs ls hfu hk hff hP hD hS hl
      refine lv_iload hx hb dL_depth_17 (lv_at hl 10 rfl) ?_
      refine lv_bipush (v := nI 7) hx hb dL_depth_19 (by decide) ?_
      refine f_ge hx hb (by omega) (by omega) (tgt := 36) dL_depth_21 (by decide) (fun b21 => ?_) (fun b21 => ?_)
      · skip
        have hP := P_cong hP 7 (a := q_1) (g := oF (fun _ => none)) rfl (fun k hk => (hff k (by omega)).trans rfl)
        have hD := hD.set (p := 7) (e := .inl (cI, 7, .inl (oF (fun _ => none)))) rfl
        have hP : va_P D vwCl [(lu, .inl (cI, 8, .inl (nF us))), (li, .inl (cI, 64, .inl (nF ids))), (lk, .inl (cI, 64, .inl kd)), (lt_, .inl (cI, 64, .inl (nF tms))), (lc, .inl (cI, 5, .inl (nF (cF n gp win cnt cl)))), (lz, .inl (cI, 6, .inl stp)), (lo, .inl (cI, 3, .inl (upd fo 0 (-1)))), (q_1, .inl (cI, 7, .inl (oF (fun _ => none))))] H := hP
        have hD : va_D A [(lu, .inl (cI, 8, .inl (nF us))), (li, .inl (cI, 64, .inl (nF ids))), (lk, .inl (cI, 64, .inl kd)), (lt_, .inl (cI, 64, .inl (nF tms))), (lc, .inl (cI, 5, .inl (nF (cF n gp win cnt cl)))), (lz, .inl (cI, 6, .inl stp)), (lo, .inl (cI, 3, .inl (upd fo 0 (-1)))), (q_1, .inl (cI, 7, .inl (oF (fun _ => none))))] := hD
        refine lv_aload_n hx hb dL_depth_36 rfl (lv_at hl 0 rfl) ?_
        refine lv_aload_n hx hb dL_depth_37 rfl (lv_at hl 1 rfl) ?_
        refine lv_aload_n hx hb dL_depth_38 rfl (lv_at hl 3 rfl) ?_
        refine lv_aload hx hb dL_depth_39 (lv_at hl 4 rfl) ?_
        refine lv_iload hx hb dL_depth_41 (lv_at hl 6 rfl) ?_
        refine lv_iconst (v := (-1)) hx hb dL_depth_43 (by decide) ?_
        refine roC (va_runS (As := [.ref lu, .ref li, .ref lt_, .ref lc, .int (nI who), .int (-1)]) (rest := []) hF (c_L_next_0 l D cI lu li lt_ lc us ids tms ord n gp win cnt cl who (by first | assumption | omega) (by first | assumption | omega)) (va_cwS 6 hts gL_depth_L_next rfl rfl rfl (by decide +kernel) ⟨Nat.le_of_ble_eq_true rfl, Nat.le_of_ble_eq_true rfl⟩) (roS hK hZ [0] rfl hP [0, 1, 3, 4] rfl) rfl rfl hl.1 rfl (lv_room (Nat.le_of_ble_eq_true rfl)) dL_depth_44 ⟨Nat.le_of_ble_eq_true rfl, Nat.le_of_ble_eq_true rfl⟩) ?_
        refine lv_istore (lv' := [(10, .int (oI (nxE us ids ord n who 0))), (0, .ref lu), (1, .ref li), (2, .ref lk), (3, .ref lt_), (4, .ref lc), (5, .ref lz), (6, .int (nI who)), (7, .ref lo), (8, .ref q_1), (9, .int (nI 0))]) hx hb dL_depth_47 hl (by decide) rfl (fun ls hl => ?_)
        have key49 : ∀ (fuel : Nat) (i : Nat) (eo : Option Nat) (bg : Nat → Option Nat) (dp : Nat) (fm : Option Nat) (f2 : Nat → Int32) (H : Heap) (locs : List Loc) (ls : Array Slot), mm us ids ord n who + 1 - i < fuel → (i ≤ mm us ids ord n who) → (eo = nxE us ids ord n who i) → ((bg, dp, fm) = ldF stp cnt win (kap us ids kd ord n who) (tau us ids tms ord n who) i) → (f2 0 = oI fm) → va_P D vwCl [(lu, .inl (cI, 8, .inl (nF us))), (li, .inl (cI, 64, .inl (nF ids))), (lk, .inl (cI, 64, .inl kd)), (lt_, .inl (cI, 64, .inl (nF tms))), (lc, .inl (cI, 5, .inl (nF (cF n gp win cnt cl)))), (lz, .inl (cI, 6, .inl stp)), (lo, .inl (cI, 3, .inl f2)), (q_1, .inl (cI, 7, .inl (oF bg)))] H → va_D A [(lu, .inl (cI, 8, .inl (nF us))), (li, .inl (cI, 64, .inl (nF ids))), (lk, .inl (cI, 64, .inl kd)), (lt_, .inl (cI, 64, .inl (nF tms))), (lc, .inl (cI, 5, .inl (nF (cF n gp win cnt cl)))), (lz, .inl (cI, 6, .inl stp)), (lo, .inl (cI, 3, .inl f2)), (q_1, .inl (cI, 7, .inl (oF bg)))] → va_S A s.heap H locs → lv_has ls 13 [(0, .ref lu), (1, .ref li), (2, .ref lk), (3, .ref lt_), (4, .ref lc), (5, .ref lz), (6, .int (nI who)), (7, .ref lo), (8, .ref q_1), (9, .int (nI dp)), (10, .int (oI eo))] → W p l e rm_L_depth s m [.ref lu, .ref li, .ref lk, .ref lt_, .ref lc, .ref lz, .int (nI who), .ref lo].toArray below meth c H locs 1 7 (MQ below (q_L_depth D cI lu li lk lt_ lc lz lo us ids tms ord n kd stp gp win cnt cl who fo A) [.ref lu, .ref li, .ref lk, .ref lt_, .ref lc, .ref lz, .int (nI who), .ref lo].toArray s 1 7 A) (F0 m 49 ls []) := by
          intro fuel
          induction fuel with
          | zero => intro i eo bg dp fm f2 H locs ls hfu; exact absurd hfu (Nat.not_lt_zero _)
          | succ fuel ih49 =>
            intro i eo bg dp fm f2 H locs ls hfu hi he hd hf2 hP hD hS hl
            refine lv_iload hx hb dL_depth_49 (lv_at hl 10 rfl) ?_
            refine f_olt hx hb (fun z hz => Nat.lt_of_lt_of_le (nx_b hI (he.symm.trans hz)) (by omega)) (tgt := 237) dL_depth_51 (by decide) (fun b51 => ?_) (fun x51 b51 => ?_)
            · skip
              have hiM : i = mm us ids ord n who := Nat.le_antisymm hi (nxE_0 (he.symm.trans b51))
              have hfin : (dp, fm) = (folL stp cnt win (kap us ids kd ord n who) (tau us ids tms ord n who) (mm us ids ord n who)).2 := by rw [← ldF_e (tau_so hI) (fun k => hI.htm _), ← hiM, ← hd]
              refine lv_iload hx hb dL_depth_237 (lv_at hl 9 rfl) ?_
              have hP := hP.sub (ws' := [(lu, .inl (cI, 8, .inl (nF us))), (li, .inl (cI, 64, .inl (nF ids))), (lk, .inl (cI, 64, .inl kd)), (lt_, .inl (cI, 64, .inl (nF tms))), (lc, .inl (cI, 5, .inl (nF (cF n gp win cnt cl)))), (lz, .inl (cI, 6, .inl stp)), (lo, .inl (cI, 3, .inl f2))]) [0, 1, 2, 3, 4, 5, 6] rfl
              have hD := hD.sub (ws' := [(lu, .inl (cI, 8, .inl (nF us))), (li, .inl (cI, 64, .inl (nF ids))), (lk, .inl (cI, 64, .inl kd)), (lt_, .inl (cI, 64, .inl (nF tms))), (lc, .inl (cI, 5, .inl (nF (cF n gp win cnt cl)))), (lz, .inl (cI, 6, .inl stp)), (lo, .inl (cI, 3, .inl f2))]) [0, 1, 2, 3, 4, 5, 6] (by decide) rfl
              exact muRi hx hb hr hlocks f2 (⟨by rw [← hfin], by rw [hf2, ← hfin]⟩) hP hD hS dL_depth_239
            · skip
              subst b51
              have hP : va_P D vwCl [(lu, .inl (cI, 8, .inl (nF us))), (li, .inl (cI, 64, .inl (nF ids))), (lk, .inl (cI, 64, .inl kd)), (lt_, .inl (cI, 64, .inl (nF tms))), (lc, .inl (cI, 5, .inl (nF (cF n gp win cnt cl)))), (lz, .inl (cI, 6, .inl stp)), (lo, .inl (cI, 3, .inl f2)), (q_1, .inl (cI, 7, .inl (oF bg)))] H := hP
              have hD : va_D A [(lu, .inl (cI, 8, .inl (nF us))), (li, .inl (cI, 64, .inl (nF ids))), (lk, .inl (cI, 64, .inl kd)), (lt_, .inl (cI, 64, .inl (nF tms))), (lc, .inl (cI, 5, .inl (nF (cF n gp win cnt cl)))), (lz, .inl (cI, 6, .inl stp)), (lo, .inl (cI, 3, .inl f2)), (q_1, .inl (cI, 7, .inl (oF bg)))] := hD
              have hl : lv_has ls 13 [(0, .ref lu), (1, .ref li), (2, .ref lk), (3, .ref lt_), (4, .ref lc), (5, .ref lz), (6, .int (nI who)), (7, .ref lo), (8, .ref q_1), (9, .int (nI dp)), (10, .int (nI x51))] := hl
              obtain ⟨hi1, hee⟩ := nxE_s he.symm
              have hel := (Em_lt hI hi1).1
              rw [← hee] at hel
              have hte := hI.htm x51
              have htu : tms x51 = tau us ids tms ord n who i := by rw [hee]
              have hku : kd x51 = kap us ids kd ord n who i := by rw [hee]
              have hdk : DPok (tms x51) (bg, dp, fm) := by rw [hd, htu]; exact ldF_ok hcnt (fun k => hI.htm _) (tau_sort hI) i hi1
              refine lv_aload hx hb dL_depth_54 (lv_at hl 4 rfl) ?_
              refine lv_iconst (v := nI 3) hx hb dL_depth_56 (by decide) ?_
              refine f_ald hx hb hK hP 4 0 rfl rfl (by omega) (by decide) dL_depth_57 ?_
              refine f_to (y := nI cnt) rfl ?_
              refine lv_iconst (v := nI 1) hx hb dL_depth_58 (by decide) ?_
              refine lv_isub hx hb dL_depth_59 ?_
              refine lv_istore (lv' := [(11, .int ((nI cnt) - (nI 1))), (0, .ref lu), (1, .ref li), (2, .ref lk), (3, .ref lt_), (4, .ref lc), (5, .ref lz), (6, .int (nI who)), (7, .ref lo), (8, .ref q_1), (9, .int (nI dp)), (10, .int (nI x51))]) hx hb dL_depth_60 hl (by decide) rfl (fun ls hl => ?_)
              have key62 : ∀ (fuel : Nat) (q : Nat) (bg1 : Nat → Option Nat) (dp1 : Nat) (fm1 : Option Nat) (f3 : Nat → Int32) (H : Heap) (locs : List Loc) (ls : Array Slot), q < fuel → (q ≤ cnt) → (DPok (tms x51) (bg1, dp1, fm1)) → (ldT stp cnt win (kd x51) (tms x51) q (bg1, dp1, fm1) = ldT stp cnt win (kd x51) (tms x51) cnt (bg, dp, fm)) → (f3 0 = oI fm1) → va_P D vwCl [(lu, .inl (cI, 8, .inl (nF us))), (li, .inl (cI, 64, .inl (nF ids))), (lk, .inl (cI, 64, .inl kd)), (lt_, .inl (cI, 64, .inl (nF tms))), (lc, .inl (cI, 5, .inl (nF (cF n gp win cnt cl)))), (lz, .inl (cI, 6, .inl stp)), (lo, .inl (cI, 3, .inl f3)), (q_1, .inl (cI, 7, .inl (oF bg1)))] H → va_D A [(lu, .inl (cI, 8, .inl (nF us))), (li, .inl (cI, 64, .inl (nF ids))), (lk, .inl (cI, 64, .inl kd)), (lt_, .inl (cI, 64, .inl (nF tms))), (lc, .inl (cI, 5, .inl (nF (cF n gp win cnt cl)))), (lz, .inl (cI, 6, .inl stp)), (lo, .inl (cI, 3, .inl f3)), (q_1, .inl (cI, 7, .inl (oF bg1)))] → va_S A s.heap H locs → lv_has ls 13 [(0, .ref lu), (1, .ref li), (2, .ref lk), (3, .ref lt_), (4, .ref lc), (5, .ref lz), (6, .int (nI who)), (7, .ref lo), (8, .ref q_1), (9, .int (nI dp1)), (10, .int (nI x51)), (11, .int (nI q - nI 1))] → W p l e rm_L_depth s m [.ref lu, .ref li, .ref lk, .ref lt_, .ref lc, .ref lz, .int (nI who), .ref lo].toArray below meth c H locs 1 7 (MQ below (q_L_depth D cI lu li lk lt_ lc lz lo us ids tms ord n kd stp gp win cnt cl who fo A) [.ref lu, .ref li, .ref lk, .ref lt_, .ref lc, .ref lz, .int (nI who), .ref lo].toArray s 1 7 A) (F0 m 62 ls []) := by
                intro fuel
                induction fuel with
                | zero => intro q bg1 dp1 fm1 f3 H locs ls hfu; exact absurd hfu (Nat.not_lt_zero _)
                | succ fuel ih62 =>
                  intro q bg1 dp1 fm1 f3 H locs ls hfu hq hd1 hi2 hf3 hP hD hS hl
                  refine lv_iload hx hb dL_depth_62 (lv_at hl 11 rfl) ?_
                  refine lv_if_lt hx hb (tgt := 220) dL_depth_64 (by decide) (fun b64 => ?_) (fun b64 => ?_)
                  · skip
                    have hq0 : q = 0 := dq_0 (by omega) b64
                    rw [hq0] at hi2
                    refine lv_aload_n hx hb dL_depth_220 rfl (lv_at hl 0 rfl) ?_
                    refine lv_aload_n hx hb dL_depth_221 rfl (lv_at hl 1 rfl) ?_
                    refine lv_aload_n hx hb dL_depth_222 rfl (lv_at hl 3 rfl) ?_
                    refine lv_aload hx hb dL_depth_223 (lv_at hl 4 rfl) ?_
                    refine lv_iload hx hb dL_depth_225 (lv_at hl 6 rfl) ?_
                    refine lv_iload hx hb dL_depth_227 (lv_at hl 10 rfl) ?_
                    refine roC (va_runS (As := [.ref lu, .ref li, .ref lt_, .ref lc, .int (nI who), .int (nI x51)]) (rest := []) hF (c_L_next_1 l D cI lu li lt_ lc us ids tms ord n gp win cnt cl who x51 i hL hwho (by first | assumption | omega) (by first | assumption | omega)) (va_cwS 6 hts gL_depth_L_next rfl rfl rfl (by decide +kernel) ⟨Nat.le_of_ble_eq_true rfl, Nat.le_of_ble_eq_true rfl⟩) (roS hK hZ [0] rfl hP [0, 1, 3, 4] rfl) rfl rfl hl.1 rfl (lv_room (Nat.le_of_ble_eq_true rfl)) dL_depth_229 ⟨Nat.le_of_ble_eq_true rfl, Nat.le_of_ble_eq_true rfl⟩) ?_
                    refine lv_istore (lv' := [(10, .int (oI (nxE us ids ord n who (i + 1)))), (0, .ref lu), (1, .ref li), (2, .ref lk), (3, .ref lt_), (4, .ref lc), (5, .ref lz), (6, .int (nI who)), (7, .ref lo), (8, .ref q_1), (9, .int (nI dp1)), (11, .int (nI q - nI 1))]) hx hb dL_depth_232 hl (by decide) rfl (fun ls hl => ?_)
                    refine lv_goto (tgt := 49) hx hb dL_depth_234 (by decide) ?_
                    exact ih49 (i + 1) (nxE us ids ord n who (i + 1)) bg1 dp1 fm1 f3 _ _ _ (by omega) (by omega) rfl (by show _ = ldT stp cnt win (kap us ids kd ord n who i) (tau us ids tms ord n who i) cnt (ldF stp cnt win (kap us ids kd ord n who) (tau us ids tms ord n who) i); rw [← hd, ← hku, ← htu]; exact hi2) hf3 hP hD hS (lv_sub hl [1, 2, 3, 4, 5, 6, 7, 8, 9, 10, 0] rfl)
                  · skip
                    obtain ⟨q1, rfl⟩ : ∃ q1, q = q1 + 1 := ⟨q - 1, by have := dq_n (by omega) b64; omega⟩
                    rw [pk_sub (a := q1 + 1) (b := 1) (by omega), Nat.add_sub_cancel] at hl
                    have hl : lv_has ls 13 [(0, .ref lu), (1, .ref li), (2, .ref lk), (3, .ref lt_), (4, .ref lc), (5, .ref lz), (6, .int (nI who)), (7, .ref lo), (8, .ref q_1), (9, .int (nI dp1)), (10, .int (nI x51)), (11, .int (nI q1))] := hl
                    have key214 : ∀ (bg4 : Nat → Option Nat) (dp4 : Nat) (fm4 : Option Nat) (f4 : Nat → Int32) (H : Heap) (locs : List Loc) (ls : Array Slot), (ldT stp cnt win (kd x51) (tms x51) q1 (bg4, dp4, fm4) = ldT stp cnt win (kd x51) (tms x51) cnt (bg, dp, fm)) → (DPok (tms x51) (bg4, dp4, fm4)) → (f4 0 = oI fm4) → va_P D vwCl [(lu, .inl (cI, 8, .inl (nF us))), (li, .inl (cI, 64, .inl (nF ids))), (lk, .inl (cI, 64, .inl kd)), (lt_, .inl (cI, 64, .inl (nF tms))), (lc, .inl (cI, 5, .inl (nF (cF n gp win cnt cl)))), (lz, .inl (cI, 6, .inl stp)), (lo, .inl (cI, 3, .inl f4)), (q_1, .inl (cI, 7, .inl (oF bg4)))] H → va_D A [(lu, .inl (cI, 8, .inl (nF us))), (li, .inl (cI, 64, .inl (nF ids))), (lk, .inl (cI, 64, .inl kd)), (lt_, .inl (cI, 64, .inl (nF tms))), (lc, .inl (cI, 5, .inl (nF (cF n gp win cnt cl)))), (lz, .inl (cI, 6, .inl stp)), (lo, .inl (cI, 3, .inl f4)), (q_1, .inl (cI, 7, .inl (oF bg4)))] → va_S A s.heap H locs → lv_has ls 13 [(0, .ref lu), (1, .ref li), (2, .ref lk), (3, .ref lt_), (4, .ref lc), (5, .ref lz), (6, .int (nI who)), (7, .ref lo), (8, .ref q_1), (9, .int (nI dp4)), (10, .int (nI x51)), (11, .int (nI q1))] → W p l e rm_L_depth s m [.ref lu, .ref li, .ref lk, .ref lt_, .ref lc, .ref lz, .int (nI who), .ref lo].toArray below meth c H locs 1 7 (MQ below (q_L_depth D cI lu li lk lt_ lc lz lo us ids tms ord n kd stp gp win cnt cl who fo A) [.ref lu, .ref li, .ref lk, .ref lt_, .ref lc, .ref lz, .int (nI who), .ref lo].toArray s 1 7 A) (F0 m 214 ls []) := by
                      intro bg4 dp4 fm4 f4 H locs ls hi4 hd4 hf4 hP hD hS hl
                      refine lv_iinc (v := nI q1 - nI 1) (lv' := [(11, .int (nI q1 - nI 1)), (0, .ref lu), (1, .ref li), (2, .ref lk), (3, .ref lt_), (4, .ref lc), (5, .ref lz), (6, .int (nI who)), (7, .ref lo), (8, .ref q_1), (9, .int (nI dp4)), (10, .int (nI x51))]) hx hb dL_depth_214 hl (k := 11) rfl (ii_d _) (by decide) rfl (fun ls hl => ?_)
                      refine lv_goto (tgt := 62) hx hb dL_depth_217 (by decide) ?_
                      exact ih62 q1 bg4 dp4 fm4 f4 _ _ _ (by omega) (by omega) hd4 hi4 hf4 hP hD hS (lv_sub hl [1, 2, 3, 4, 5, 6, 7, 8, 9, 10, 11, 0] rfl)
                    refine lv_aload hx hb dL_depth_67 (lv_at hl 5 rfl) ?_
                    refine lv_iload hx hb dL_depth_69 (lv_at hl 11 rfl) ?_
                    refine f_aldr hx hb hK hP 5 0 rfl rfl (by omega) (by decide) dL_depth_71 ?_
                    refine lv_aload_n hx hb dL_depth_72 rfl (lv_at hl 2 rfl) ?_
                    refine lv_iload hx hb dL_depth_73 (lv_at hl 10 rfl) ?_
                    refine f_aldr hx hb hK hP 2 0 rfl rfl (by omega) (by decide) dL_depth_75 ?_
                    refine lv_icmp_ne hx hb (tgt := 214) dL_depth_76 (by decide) (fun b76 => ?_) (fun b76 => ?_)
                    · skip
                      exact key214 bg1 dp1 fm1 f3 _ _ _  (by rw [← ldT_n b76]; exact hi2) hd1 hf3 hP hD hS (lv_sub hl [0, 1, 2, 3, 4, 5, 6, 7, 8, 9, 10, 11] rfl)
                    · skip
                      have key98 : ∀ (o : Option Nat) (H : Heap) (locs : List Loc) (ls : Array Slot), (o = if q1 = 0 then some (tms x51) else bg1 (q1 - 1)) → (∀ x, o = some x → x ≤ (tms x51)) → va_P D vwCl [(lu, .inl (cI, 8, .inl (nF us))), (li, .inl (cI, 64, .inl (nF ids))), (lk, .inl (cI, 64, .inl kd)), (lt_, .inl (cI, 64, .inl (nF tms))), (lc, .inl (cI, 5, .inl (nF (cF n gp win cnt cl)))), (lz, .inl (cI, 6, .inl stp)), (lo, .inl (cI, 3, .inl f3)), (q_1, .inl (cI, 7, .inl (oF bg1)))] H → va_D A [(lu, .inl (cI, 8, .inl (nF us))), (li, .inl (cI, 64, .inl (nF ids))), (lk, .inl (cI, 64, .inl kd)), (lt_, .inl (cI, 64, .inl (nF tms))), (lc, .inl (cI, 5, .inl (nF (cF n gp win cnt cl)))), (lz, .inl (cI, 6, .inl stp)), (lo, .inl (cI, 3, .inl f3)), (q_1, .inl (cI, 7, .inl (oF bg1)))] → va_S A s.heap H locs → lv_has ls 13 [(0, .ref lu), (1, .ref li), (2, .ref lk), (3, .ref lt_), (4, .ref lc), (5, .ref lz), (6, .int (nI who)), (7, .ref lo), (8, .ref q_1), (9, .int (nI dp1)), (10, .int (nI x51)), (11, .int (nI q1))] → W p l e rm_L_depth s m [.ref lu, .ref li, .ref lk, .ref lt_, .ref lc, .ref lz, .int (nI who), .ref lo].toArray below meth c H locs 1 7 (MQ below (q_L_depth D cI lu li lk lt_ lc lz lo us ids tms ord n kd stp gp win cnt cl who fo A) [.ref lu, .ref li, .ref lk, .ref lt_, .ref lc, .ref lz, .int (nI who), .ref lo].toArray s 1 7 A) (F0 m 98 ls [.int (oI o)]) := by
                        intro o H locs ls ho hox hP hD hS hl
                        refine lv_istore (lv' := [(12, .int (oI o)), (0, .ref lu), (1, .ref li), (2, .ref lk), (3, .ref lt_), (4, .ref lc), (5, .ref lz), (6, .int (nI who)), (7, .ref lo), (8, .ref q_1), (9, .int (nI dp1)), (10, .int (nI x51)), (11, .int (nI q1))]) hx hb dL_depth_98 hl (by decide) rfl (fun ls hl => ?_)
                        have key125 : ∀ (bg2 : Nat → Option Nat) (H : Heap) (locs : List Loc) (ls : Array Slot), (bg2 = va_up bg1 q1 (mxO o (bg1 q1))) → va_P D vwCl [(lu, .inl (cI, 8, .inl (nF us))), (li, .inl (cI, 64, .inl (nF ids))), (lk, .inl (cI, 64, .inl kd)), (lt_, .inl (cI, 64, .inl (nF tms))), (lc, .inl (cI, 5, .inl (nF (cF n gp win cnt cl)))), (lz, .inl (cI, 6, .inl stp)), (lo, .inl (cI, 3, .inl f3)), (q_1, .inl (cI, 7, .inl (oF bg2)))] H → va_D A [(lu, .inl (cI, 8, .inl (nF us))), (li, .inl (cI, 64, .inl (nF ids))), (lk, .inl (cI, 64, .inl kd)), (lt_, .inl (cI, 64, .inl (nF tms))), (lc, .inl (cI, 5, .inl (nF (cF n gp win cnt cl)))), (lz, .inl (cI, 6, .inl stp)), (lo, .inl (cI, 3, .inl f3)), (q_1, .inl (cI, 7, .inl (oF bg2)))] → va_S A s.heap H locs → lv_has ls 13 [(12, .int (oI o)), (0, .ref lu), (1, .ref li), (2, .ref lk), (3, .ref lt_), (4, .ref lc), (5, .ref lz), (6, .int (nI who)), (7, .ref lo), (8, .ref q_1), (9, .int (nI dp1)), (10, .int (nI x51)), (11, .int (nI q1))] → W p l e rm_L_depth s m [.ref lu, .ref li, .ref lk, .ref lt_, .ref lc, .ref lz, .int (nI who), .ref lo].toArray below meth c H locs 1 7 (MQ below (q_L_depth D cI lu li lk lt_ lc lz lo us ids tms ord n kd stp gp win cnt cl who fo A) [.ref lu, .ref li, .ref lk, .ref lt_, .ref lc, .ref lz, .int (nI who), .ref lo].toArray s 1 7 A) (F0 m 125 ls []) := by
                          intro bg2 H locs ls hbg hP hD hS hl
                          refine lv_iload hx hb dL_depth_125 (lv_at hl 0 rfl) ?_
                          refine f_olt hx hb (fun x h => Nat.lt_of_le_of_lt (hox x h) (by omega)) (tgt := 214) dL_depth_127 (by decide) (fun b127 => ?_) (fun x127 b127 => ?_)
                          · skip
                            exact key214 bg2 dp1 fm1 f3 _ _ _  (by first | exact (by rw [← ldP_0 (cnt := cnt) (win := win) (st := q1) (t := tms x51) (ps := dp1) ho hbg b127, ← ldT_y b76]; exact hi2) | exact (by rw [← ldP_w (cnt := cnt) (win := win) (st := q1) (t := tms x51) (ps := dp1) ho hbg rfl b141, ← ldT_y b76]; exact hi2) | exact (by rw [hdp, ← ldP_n (cnt := cnt) (win := win) (st := q1) (t := tms x51) (ps := dp1) ho hbg rfl b141 (by omega), ← ldT_y b76]; exact hi2) | exact (by rw [hdp, ← ldP_l (cnt := cnt) (win := win) (st := q1) (t := tms x51) (ps := dp1) ho hbg rfl b141 (by omega) b182, ← ldT_y b76]; exact hi2) | exact (by rw [hdp, ← ldP_l2 (cnt := cnt) (win := win) (st := q1) (t := tms x51) (ps := dp1) ho hbg rfl b141 (by omega) b196, ← ldT_y b76]; exact hi2) | exact (by rw [hdp, ← ldP_l3 (cnt := cnt) (win := win) (st := q1) (t := tms x51) (ps := dp1) ho hbg rfl b141 (by omega) b196, ← ldT_y b76]; exact hi2)) (by have hk := ldP_ok (cnt := cnt) (win := win) (st := q1) (by omega) hte hd1; first | (rw [ldP_0 (cnt := cnt) (win := win) (st := q1) (t := tms x51) (ps := dp1) ho hbg b127] at hk; exact hk) | (rw [ldP_w (cnt := cnt) (win := win) (st := q1) (t := tms x51) (ps := dp1) ho hbg rfl b141] at hk; exact hk) | (rw [ldP_n (cnt := cnt) (win := win) (st := q1) (t := tms x51) (ps := dp1) ho hbg rfl b141 (by omega), ← hdp] at hk; exact hk) | (rw [ldP_l (cnt := cnt) (win := win) (st := q1) (t := tms x51) (ps := dp1) ho hbg rfl b141 (by omega) b182, ← hdp] at hk; exact hk) | (rw [ldP_l2 (cnt := cnt) (win := win) (st := q1) (t := tms x51) (ps := dp1) ho hbg rfl b141 (by omega) b196, ← hdp] at hk; exact hk) | (rw [ldP_l3 (cnt := cnt) (win := win) (st := q1) (t := tms x51) (ps := dp1) ho hbg rfl b141 (by omega) b196, ← hdp] at hk; exact hk)) hf3 hP hD hS (lv_sub hl [1, 2, 3, 4, 5, 6, 7, 8, 9, 10, 11, 12] rfl)
                          · skip
                            subst b127
                            have hP : va_P D vwCl [(lu, .inl (cI, 8, .inl (nF us))), (li, .inl (cI, 64, .inl (nF ids))), (lk, .inl (cI, 64, .inl kd)), (lt_, .inl (cI, 64, .inl (nF tms))), (lc, .inl (cI, 5, .inl (nF (cF n gp win cnt cl)))), (lz, .inl (cI, 6, .inl stp)), (lo, .inl (cI, 3, .inl f3)), (q_1, .inl (cI, 7, .inl (oF bg2)))] H := hP
                            have hD : va_D A [(lu, .inl (cI, 8, .inl (nF us))), (li, .inl (cI, 64, .inl (nF ids))), (lk, .inl (cI, 64, .inl kd)), (lt_, .inl (cI, 64, .inl (nF tms))), (lc, .inl (cI, 5, .inl (nF (cF n gp win cnt cl)))), (lz, .inl (cI, 6, .inl stp)), (lo, .inl (cI, 3, .inl f3)), (q_1, .inl (cI, 7, .inl (oF bg2)))] := hD
                            have hl : lv_has ls 13 [(12, .int (nI x127)), (0, .ref lu), (1, .ref li), (2, .ref lk), (3, .ref lt_), (4, .ref lc), (5, .ref lz), (6, .int (nI who)), (7, .ref lo), (8, .ref q_1), (9, .int (nI dp1)), (10, .int (nI x51)), (11, .int (nI q1))] := hl
                            have hx1 : x127 ≤ tms x51 := hox _ rfl
                            have hdp6 : dp1 ≤ 6 := hd1.2.1
                            refine lv_aload_n hx hb dL_depth_130 rfl (lv_at hl 4 rfl) ?_
                            refine lv_iload hx hb dL_depth_131 (lv_at hl 11 rfl) ?_
                            refine f_ald hx hb hK hP 3 0 rfl rfl (by omega) (by decide) dL_depth_133 ?_
                            refine lv_iload hx hb dL_depth_134 (lv_at hl 0 rfl) ?_
                            refine f_sub hx hb hx1 dL_depth_136 ?_
                            refine lv_aload hx hb dL_depth_137 (lv_at hl 5 rfl) ?_
                            refine lv_iconst (v := nI 2) hx hb dL_depth_139 (by decide) ?_
                            refine f_ald hx hb hK hP 4 0 rfl rfl (by omega) (by decide) dL_depth_140 ?_
                            refine f_to (y := nI win) rfl ?_
                            refine f_gt hx hb (by omega) (by omega) (tgt := 214) dL_depth_141 (by decide) (fun b141 => ?_) (fun b141 => ?_)
                            · skip
                              exact key214 bg2 dp1 fm1 f3 _ _ _  (by first | exact (by rw [← ldP_0 (cnt := cnt) (win := win) (st := q1) (t := tms x51) (ps := dp1) ho hbg b127, ← ldT_y b76]; exact hi2) | exact (by rw [← ldP_w (cnt := cnt) (win := win) (st := q1) (t := tms x51) (ps := dp1) ho hbg rfl b141, ← ldT_y b76]; exact hi2) | exact (by rw [hdp, ← ldP_n (cnt := cnt) (win := win) (st := q1) (t := tms x51) (ps := dp1) ho hbg rfl b141 (by omega), ← ldT_y b76]; exact hi2) | exact (by rw [hdp, ← ldP_l (cnt := cnt) (win := win) (st := q1) (t := tms x51) (ps := dp1) ho hbg rfl b141 (by omega) b182, ← ldT_y b76]; exact hi2) | exact (by rw [hdp, ← ldP_l2 (cnt := cnt) (win := win) (st := q1) (t := tms x51) (ps := dp1) ho hbg rfl b141 (by omega) b196, ← ldT_y b76]; exact hi2) | exact (by rw [hdp, ← ldP_l3 (cnt := cnt) (win := win) (st := q1) (t := tms x51) (ps := dp1) ho hbg rfl b141 (by omega) b196, ← ldT_y b76]; exact hi2)) (by have hk := ldP_ok (cnt := cnt) (win := win) (st := q1) (by omega) hte hd1; first | (rw [ldP_0 (cnt := cnt) (win := win) (st := q1) (t := tms x51) (ps := dp1) ho hbg b127] at hk; exact hk) | (rw [ldP_w (cnt := cnt) (win := win) (st := q1) (t := tms x51) (ps := dp1) ho hbg rfl b141] at hk; exact hk) | (rw [ldP_n (cnt := cnt) (win := win) (st := q1) (t := tms x51) (ps := dp1) ho hbg rfl b141 (by omega), ← hdp] at hk; exact hk) | (rw [ldP_l (cnt := cnt) (win := win) (st := q1) (t := tms x51) (ps := dp1) ho hbg rfl b141 (by omega) b182, ← hdp] at hk; exact hk) | (rw [ldP_l2 (cnt := cnt) (win := win) (st := q1) (t := tms x51) (ps := dp1) ho hbg rfl b141 (by omega) b196, ← hdp] at hk; exact hk) | (rw [ldP_l3 (cnt := cnt) (win := win) (st := q1) (t := tms x51) (ps := dp1) ho hbg rfl b141 (by omega) b196, ← hdp] at hk; exact hk)) hf3 hP hD hS (lv_sub hl [1, 2, 3, 4, 5, 6, 7, 8, 9, 10, 11, 12] rfl)
                            · skip
                              have key162 : ∀ (dp2 : Nat) (H : Heap) (locs : List Loc) (ls : Array Slot), (dp2 = max dp1 (q1 + 1)) → va_P D vwCl [(lu, .inl (cI, 8, .inl (nF us))), (li, .inl (cI, 64, .inl (nF ids))), (lk, .inl (cI, 64, .inl kd)), (lt_, .inl (cI, 64, .inl (nF tms))), (lc, .inl (cI, 5, .inl (nF (cF n gp win cnt cl)))), (lz, .inl (cI, 6, .inl stp)), (lo, .inl (cI, 3, .inl f3)), (q_1, .inl (cI, 7, .inl (oF bg2)))] H → va_D A [(lu, .inl (cI, 8, .inl (nF us))), (li, .inl (cI, 64, .inl (nF ids))), (lk, .inl (cI, 64, .inl kd)), (lt_, .inl (cI, 64, .inl (nF tms))), (lc, .inl (cI, 5, .inl (nF (cF n gp win cnt cl)))), (lz, .inl (cI, 6, .inl stp)), (lo, .inl (cI, 3, .inl f3)), (q_1, .inl (cI, 7, .inl (oF bg2)))] → va_S A s.heap H locs → lv_has ls 13 [(12, .int (nI x127)), (0, .ref lu), (1, .ref li), (2, .ref lk), (3, .ref lt_), (4, .ref lc), (5, .ref lz), (6, .int (nI who)), (7, .ref lo), (8, .ref q_1), (9, .int (nI dp1)), (10, .int (nI x51)), (11, .int (nI q1))] → W p l e rm_L_depth s m [.ref lu, .ref li, .ref lk, .ref lt_, .ref lc, .ref lz, .int (nI who), .ref lo].toArray below meth c H locs 1 7 (MQ below (q_L_depth D cI lu li lk lt_ lc lz lo us ids tms ord n kd stp gp win cnt cl who fo A) [.ref lu, .ref li, .ref lk, .ref lt_, .ref lc, .ref lz, .int (nI who), .ref lo].toArray s 1 7 A) (F0 m 162 ls [.int (nI dp2)]) := by
                                intro dp2 H locs ls hdp hP hD hS hl
                                refine lv_istore (lv' := [(9, .int (nI dp2)), (12, .int (nI x127)), (0, .ref lu), (1, .ref li), (2, .ref lk), (3, .ref lt_), (4, .ref lc), (5, .ref lz), (6, .int (nI who)), (7, .ref lo), (8, .ref q_1), (10, .int (nI x51)), (11, .int (nI q1))]) hx hb dL_depth_162 hl (by decide) rfl (fun ls hl => ?_)
                                refine lv_aload hx hb dL_depth_164 (lv_at hl 9 rfl) ?_
                                refine lv_iconst (v := nI 0) hx hb dL_depth_166 (by decide) ?_
                                refine lv_iload hx hb dL_depth_167 (lv_at hl 12 rfl) ?_
                                refine lv_aload hx hb dL_depth_169 (lv_at hl 6 rfl) ?_
                                refine lv_iconst (v := nI 3) hx hb dL_depth_171 (by decide) ?_
                                refine f_ald hx hb hK hP 4 0 rfl rfl (by omega) (by decide) dL_depth_172 ?_
                                refine f_to (y := nI cnt) rfl ?_
                                refine lv_iconst (v := nI 1) hx hb dL_depth_173 (by decide) ?_
                                refine f_sub hx hb (by omega) dL_depth_174 ?_
                                refine f_ne hx hb (by omega) (by omega) (tgt := 209) dL_depth_175 (by decide) (fun b175 => ?_) (fun b175 => ?_)
                                · skip
                                  refine lv_aload hx hb dL_depth_209 (lv_at hl 9 rfl) ?_
                                  refine lv_iconst (v := nI 0) hx hb dL_depth_211 (by decide) ?_
                                  refine f_aldr hx hb hK hP 6 0 rfl rfl (by omega) (by decide) dL_depth_212 ?_
                                  refine f_to (y := oI fm1) hf3 ?_
                                  refine f_astr hx hb hK hP hD hS 6 0 rfl rfl (by omega) (by decide) dL_depth_213 (fun H locs hP hD hS => ?_)
                                  have hP : va_P D vwCl [(lu, .inl (cI, 8, .inl (nF us))), (li, .inl (cI, 64, .inl (nF ids))), (lk, .inl (cI, 64, .inl kd)), (lt_, .inl (cI, 64, .inl (nF tms))), (lc, .inl (cI, 5, .inl (nF (cF n gp win cnt cl)))), (lz, .inl (cI, 6, .inl stp)), (lo, .inl (cI, 3, .inl (upd f3 0 (oI fm1)))), (q_1, .inl (cI, 7, .inl (oF bg2)))] H := hP
                                  have hD : va_D A [(lu, .inl (cI, 8, .inl (nF us))), (li, .inl (cI, 64, .inl (nF ids))), (lk, .inl (cI, 64, .inl kd)), (lt_, .inl (cI, 64, .inl (nF tms))), (lc, .inl (cI, 5, .inl (nF (cF n gp win cnt cl)))), (lz, .inl (cI, 6, .inl stp)), (lo, .inl (cI, 3, .inl (upd f3 0 (oI fm1)))), (q_1, .inl (cI, 7, .inl (oF bg2)))] := hD
                                  exact key214 bg2 dp2 fm1 (upd f3 0 (oI fm1)) _ _ _  (by first | exact (by rw [← ldP_0 (cnt := cnt) (win := win) (st := q1) (t := tms x51) (ps := dp1) ho hbg b127, ← ldT_y b76]; exact hi2) | exact (by rw [← ldP_w (cnt := cnt) (win := win) (st := q1) (t := tms x51) (ps := dp1) ho hbg rfl b141, ← ldT_y b76]; exact hi2) | exact (by rw [hdp, ← ldP_n (cnt := cnt) (win := win) (st := q1) (t := tms x51) (ps := dp1) ho hbg rfl b141 (by omega), ← ldT_y b76]; exact hi2) | exact (by rw [hdp, ← ldP_l (cnt := cnt) (win := win) (st := q1) (t := tms x51) (ps := dp1) ho hbg rfl b141 (by omega) b182, ← ldT_y b76]; exact hi2) | exact (by rw [hdp, ← ldP_l2 (cnt := cnt) (win := win) (st := q1) (t := tms x51) (ps := dp1) ho hbg rfl b141 (by omega) b196, ← ldT_y b76]; exact hi2) | exact (by rw [hdp, ← ldP_l3 (cnt := cnt) (win := win) (st := q1) (t := tms x51) (ps := dp1) ho hbg rfl b141 (by omega) b196, ← ldT_y b76]; exact hi2)) (by have hk := ldP_ok (cnt := cnt) (win := win) (st := q1) (by omega) hte hd1; first | (rw [ldP_0 (cnt := cnt) (win := win) (st := q1) (t := tms x51) (ps := dp1) ho hbg b127] at hk; exact hk) | (rw [ldP_w (cnt := cnt) (win := win) (st := q1) (t := tms x51) (ps := dp1) ho hbg rfl b141] at hk; exact hk) | (rw [ldP_n (cnt := cnt) (win := win) (st := q1) (t := tms x51) (ps := dp1) ho hbg rfl b141 (by omega), ← hdp] at hk; exact hk) | (rw [ldP_l (cnt := cnt) (win := win) (st := q1) (t := tms x51) (ps := dp1) ho hbg rfl b141 (by omega) b182, ← hdp] at hk; exact hk) | (rw [ldP_l2 (cnt := cnt) (win := win) (st := q1) (t := tms x51) (ps := dp1) ho hbg rfl b141 (by omega) b196, ← hdp] at hk; exact hk) | (rw [ldP_l3 (cnt := cnt) (win := win) (st := q1) (t := tms x51) (ps := dp1) ho hbg rfl b141 (by omega) b196, ← hdp] at hk; exact hk)) (pk_us.trans rfl) hP hD hS (lv_sub hl [2, 3, 4, 5, 6, 7, 8, 9, 10, 0, 11, 12] rfl)
                                · skip
                                  refine lv_aload hx hb dL_depth_178 (lv_at hl 9 rfl) ?_
                                  refine lv_iconst (v := nI 0) hx hb dL_depth_180 (by decide) ?_
                                  refine f_aldr hx hb hK hP 6 0 rfl rfl (by omega) (by decide) dL_depth_181 ?_
                                  refine f_to (y := oI fm1) hf3 ?_
                                  refine f_olt hx hb (fun x h => Nat.lt_of_le_of_lt (hd1.2.2 x h) (by omega)) (tgt := 199) dL_depth_182 (by decide) (fun b182 => ?_) (fun x182 b182 => ?_)
                                  · skip
                                    refine lv_aload_n hx hb dL_depth_199 rfl (lv_at hl 5 rfl) ?_
                                    refine lv_iload hx hb dL_depth_200 (lv_at hl 11 rfl) ?_
                                    refine f_ald hx hb hK hP 3 0 rfl rfl (by omega) (by decide) dL_depth_202 ?_
                                    refine lv_iload hx hb dL_depth_203 (lv_at hl 1 rfl) ?_
                                    refine f_sub hx hb hx1 dL_depth_205 ?_
                                    refine lv_goto (tgt := 213) hx hb dL_depth_206 (by decide) ?_
                                    refine f_astr hx hb hK hP hD hS 6 0 rfl rfl (by omega) (by decide) dL_depth_213 (fun H locs hP hD hS => ?_)
                                    have hP : va_P D vwCl [(lu, .inl (cI, 8, .inl (nF us))), (li, .inl (cI, 64, .inl (nF ids))), (lk, .inl (cI, 64, .inl kd)), (lt_, .inl (cI, 64, .inl (nF tms))), (lc, .inl (cI, 5, .inl (nF (cF n gp win cnt cl)))), (lz, .inl (cI, 6, .inl stp)), (lo, .inl (cI, 3, .inl (upd f3 0 (nI (tms x51 - x127))))), (q_1, .inl (cI, 7, .inl (oF bg2)))] H := hP
                                    have hD : va_D A [(lu, .inl (cI, 8, .inl (nF us))), (li, .inl (cI, 64, .inl (nF ids))), (lk, .inl (cI, 64, .inl kd)), (lt_, .inl (cI, 64, .inl (nF tms))), (lc, .inl (cI, 5, .inl (nF (cF n gp win cnt cl)))), (lz, .inl (cI, 6, .inl stp)), (lo, .inl (cI, 3, .inl (upd f3 0 (nI (tms x51 - x127))))), (q_1, .inl (cI, 7, .inl (oF bg2)))] := hD
                                    exact key214 bg2 dp2 (some (tms x51 - x127)) (upd f3 0 (nI (tms x51 - x127))) _ _ _  (by first | exact (by rw [← ldP_0 (cnt := cnt) (win := win) (st := q1) (t := tms x51) (ps := dp1) ho hbg b127, ← ldT_y b76]; exact hi2) | exact (by rw [← ldP_w (cnt := cnt) (win := win) (st := q1) (t := tms x51) (ps := dp1) ho hbg rfl b141, ← ldT_y b76]; exact hi2) | exact (by rw [hdp, ← ldP_n (cnt := cnt) (win := win) (st := q1) (t := tms x51) (ps := dp1) ho hbg rfl b141 (by omega), ← ldT_y b76]; exact hi2) | exact (by rw [hdp, ← ldP_l (cnt := cnt) (win := win) (st := q1) (t := tms x51) (ps := dp1) ho hbg rfl b141 (by omega) b182, ← ldT_y b76]; exact hi2) | exact (by rw [hdp, ← ldP_l2 (cnt := cnt) (win := win) (st := q1) (t := tms x51) (ps := dp1) ho hbg rfl b141 (by omega) b196, ← ldT_y b76]; exact hi2) | exact (by rw [hdp, ← ldP_l3 (cnt := cnt) (win := win) (st := q1) (t := tms x51) (ps := dp1) ho hbg rfl b141 (by omega) b196, ← ldT_y b76]; exact hi2)) (by have hk := ldP_ok (cnt := cnt) (win := win) (st := q1) (by omega) hte hd1; first | (rw [ldP_0 (cnt := cnt) (win := win) (st := q1) (t := tms x51) (ps := dp1) ho hbg b127] at hk; exact hk) | (rw [ldP_w (cnt := cnt) (win := win) (st := q1) (t := tms x51) (ps := dp1) ho hbg rfl b141] at hk; exact hk) | (rw [ldP_n (cnt := cnt) (win := win) (st := q1) (t := tms x51) (ps := dp1) ho hbg rfl b141 (by omega), ← hdp] at hk; exact hk) | (rw [ldP_l (cnt := cnt) (win := win) (st := q1) (t := tms x51) (ps := dp1) ho hbg rfl b141 (by omega) b182, ← hdp] at hk; exact hk) | (rw [ldP_l2 (cnt := cnt) (win := win) (st := q1) (t := tms x51) (ps := dp1) ho hbg rfl b141 (by omega) b196, ← hdp] at hk; exact hk) | (rw [ldP_l3 (cnt := cnt) (win := win) (st := q1) (t := tms x51) (ps := dp1) ho hbg rfl b141 (by omega) b196, ← hdp] at hk; exact hk)) (pk_us.trans rfl) hP hD hS (lv_sub hl [2, 3, 4, 5, 6, 7, 8, 9, 10, 0, 11, 12] rfl)
                                  · skip
                                    subst b182
                                    have hP : va_P D vwCl [(lu, .inl (cI, 8, .inl (nF us))), (li, .inl (cI, 64, .inl (nF ids))), (lk, .inl (cI, 64, .inl kd)), (lt_, .inl (cI, 64, .inl (nF tms))), (lc, .inl (cI, 5, .inl (nF (cF n gp win cnt cl)))), (lz, .inl (cI, 6, .inl stp)), (lo, .inl (cI, 3, .inl f3)), (q_1, .inl (cI, 7, .inl (oF bg2)))] H := hP
                                    have hD : va_D A [(lu, .inl (cI, 8, .inl (nF us))), (li, .inl (cI, 64, .inl (nF ids))), (lk, .inl (cI, 64, .inl kd)), (lt_, .inl (cI, 64, .inl (nF tms))), (lc, .inl (cI, 5, .inl (nF (cF n gp win cnt cl)))), (lz, .inl (cI, 6, .inl stp)), (lo, .inl (cI, 3, .inl f3)), (q_1, .inl (cI, 7, .inl (oF bg2)))] := hD
                                    have hl : lv_has ls 13 [(9, .int (nI dp2)), (12, .int (nI x127)), (0, .ref lu), (1, .ref li), (2, .ref lk), (3, .ref lt_), (4, .ref lc), (5, .ref lz), (6, .int (nI who)), (7, .ref lo), (8, .ref q_1), (10, .int (nI x51)), (11, .int (nI q1))] := hl
                                    have hfy : x182 ≤ 2000 := hd1.2.2 _ rfl
                                    refine lv_aload_n hx hb dL_depth_185 rfl (lv_at hl 5 rfl) ?_
                                    refine lv_iload hx hb dL_depth_186 (lv_at hl 11 rfl) ?_
                                    refine f_ald hx hb hK hP 3 0 rfl rfl (by omega) (by decide) dL_depth_188 ?_
                                    refine lv_iload hx hb dL_depth_189 (lv_at hl 1 rfl) ?_
                                    refine f_sub hx hb hx1 dL_depth_191 ?_
                                    refine lv_aload hx hb dL_depth_192 (lv_at hl 9 rfl) ?_
                                    refine lv_iconst (v := nI 0) hx hb dL_depth_194 (by decide) ?_
                                    refine f_aldr hx hb hK hP 6 0 rfl rfl (by omega) (by decide) dL_depth_195 ?_
                                    refine f_to (y := nI x182) hf3 ?_
                                    refine f_ge hx hb (by omega) (by omega) (tgt := 209) dL_depth_196 (by decide) (fun b196 => ?_) (fun b196 => ?_)
                                    · skip
                                      refine lv_aload hx hb dL_depth_209 (lv_at hl 9 rfl) ?_
                                      refine lv_iconst (v := nI 0) hx hb dL_depth_211 (by decide) ?_
                                      refine f_aldr hx hb hK hP 6 0 rfl rfl (by omega) (by decide) dL_depth_212 ?_
                                      refine f_to (y := oI (some x182)) hf3 ?_
                                      refine f_astr hx hb hK hP hD hS 6 0 rfl rfl (by omega) (by decide) dL_depth_213 (fun H locs hP hD hS => ?_)
                                      have hP : va_P D vwCl [(lu, .inl (cI, 8, .inl (nF us))), (li, .inl (cI, 64, .inl (nF ids))), (lk, .inl (cI, 64, .inl kd)), (lt_, .inl (cI, 64, .inl (nF tms))), (lc, .inl (cI, 5, .inl (nF (cF n gp win cnt cl)))), (lz, .inl (cI, 6, .inl stp)), (lo, .inl (cI, 3, .inl (upd f3 0 (oI (some x182))))), (q_1, .inl (cI, 7, .inl (oF bg2)))] H := hP
                                      have hD : va_D A [(lu, .inl (cI, 8, .inl (nF us))), (li, .inl (cI, 64, .inl (nF ids))), (lk, .inl (cI, 64, .inl kd)), (lt_, .inl (cI, 64, .inl (nF tms))), (lc, .inl (cI, 5, .inl (nF (cF n gp win cnt cl)))), (lz, .inl (cI, 6, .inl stp)), (lo, .inl (cI, 3, .inl (upd f3 0 (oI (some x182))))), (q_1, .inl (cI, 7, .inl (oF bg2)))] := hD
                                      exact key214 bg2 dp2 (some x182) (upd f3 0 (oI (some x182))) _ _ _  (by first | exact (by rw [← ldP_0 (cnt := cnt) (win := win) (st := q1) (t := tms x51) (ps := dp1) ho hbg b127, ← ldT_y b76]; exact hi2) | exact (by rw [← ldP_w (cnt := cnt) (win := win) (st := q1) (t := tms x51) (ps := dp1) ho hbg rfl b141, ← ldT_y b76]; exact hi2) | exact (by rw [hdp, ← ldP_n (cnt := cnt) (win := win) (st := q1) (t := tms x51) (ps := dp1) ho hbg rfl b141 (by omega), ← ldT_y b76]; exact hi2) | exact (by rw [hdp, ← ldP_l (cnt := cnt) (win := win) (st := q1) (t := tms x51) (ps := dp1) ho hbg rfl b141 (by omega) b182, ← ldT_y b76]; exact hi2) | exact (by rw [hdp, ← ldP_l2 (cnt := cnt) (win := win) (st := q1) (t := tms x51) (ps := dp1) ho hbg rfl b141 (by omega) b196, ← ldT_y b76]; exact hi2) | exact (by rw [hdp, ← ldP_l3 (cnt := cnt) (win := win) (st := q1) (t := tms x51) (ps := dp1) ho hbg rfl b141 (by omega) b196, ← ldT_y b76]; exact hi2)) (by have hk := ldP_ok (cnt := cnt) (win := win) (st := q1) (by omega) hte hd1; first | (rw [ldP_0 (cnt := cnt) (win := win) (st := q1) (t := tms x51) (ps := dp1) ho hbg b127] at hk; exact hk) | (rw [ldP_w (cnt := cnt) (win := win) (st := q1) (t := tms x51) (ps := dp1) ho hbg rfl b141] at hk; exact hk) | (rw [ldP_n (cnt := cnt) (win := win) (st := q1) (t := tms x51) (ps := dp1) ho hbg rfl b141 (by omega), ← hdp] at hk; exact hk) | (rw [ldP_l (cnt := cnt) (win := win) (st := q1) (t := tms x51) (ps := dp1) ho hbg rfl b141 (by omega) b182, ← hdp] at hk; exact hk) | (rw [ldP_l2 (cnt := cnt) (win := win) (st := q1) (t := tms x51) (ps := dp1) ho hbg rfl b141 (by omega) b196, ← hdp] at hk; exact hk) | (rw [ldP_l3 (cnt := cnt) (win := win) (st := q1) (t := tms x51) (ps := dp1) ho hbg rfl b141 (by omega) b196, ← hdp] at hk; exact hk)) (pk_us.trans rfl) hP hD hS (lv_sub hl [2, 3, 4, 5, 6, 7, 8, 9, 10, 0, 11, 12] rfl)
                                    · skip
                                      refine lv_aload_n hx hb dL_depth_199 rfl (lv_at hl 5 rfl) ?_
                                      refine lv_iload hx hb dL_depth_200 (lv_at hl 11 rfl) ?_
                                      refine f_ald hx hb hK hP 3 0 rfl rfl (by omega) (by decide) dL_depth_202 ?_
                                      refine lv_iload hx hb dL_depth_203 (lv_at hl 1 rfl) ?_
                                      refine f_sub hx hb hx1 dL_depth_205 ?_
                                      refine lv_goto (tgt := 213) hx hb dL_depth_206 (by decide) ?_
                                      refine f_astr hx hb hK hP hD hS 6 0 rfl rfl (by omega) (by decide) dL_depth_213 (fun H locs hP hD hS => ?_)
                                      have hP : va_P D vwCl [(lu, .inl (cI, 8, .inl (nF us))), (li, .inl (cI, 64, .inl (nF ids))), (lk, .inl (cI, 64, .inl kd)), (lt_, .inl (cI, 64, .inl (nF tms))), (lc, .inl (cI, 5, .inl (nF (cF n gp win cnt cl)))), (lz, .inl (cI, 6, .inl stp)), (lo, .inl (cI, 3, .inl (upd f3 0 (nI (tms x51 - x127))))), (q_1, .inl (cI, 7, .inl (oF bg2)))] H := hP
                                      have hD : va_D A [(lu, .inl (cI, 8, .inl (nF us))), (li, .inl (cI, 64, .inl (nF ids))), (lk, .inl (cI, 64, .inl kd)), (lt_, .inl (cI, 64, .inl (nF tms))), (lc, .inl (cI, 5, .inl (nF (cF n gp win cnt cl)))), (lz, .inl (cI, 6, .inl stp)), (lo, .inl (cI, 3, .inl (upd f3 0 (nI (tms x51 - x127))))), (q_1, .inl (cI, 7, .inl (oF bg2)))] := hD
                                      exact key214 bg2 dp2 (some (tms x51 - x127)) (upd f3 0 (nI (tms x51 - x127))) _ _ _  (by first | exact (by rw [← ldP_0 (cnt := cnt) (win := win) (st := q1) (t := tms x51) (ps := dp1) ho hbg b127, ← ldT_y b76]; exact hi2) | exact (by rw [← ldP_w (cnt := cnt) (win := win) (st := q1) (t := tms x51) (ps := dp1) ho hbg rfl b141, ← ldT_y b76]; exact hi2) | exact (by rw [hdp, ← ldP_n (cnt := cnt) (win := win) (st := q1) (t := tms x51) (ps := dp1) ho hbg rfl b141 (by omega), ← ldT_y b76]; exact hi2) | exact (by rw [hdp, ← ldP_l (cnt := cnt) (win := win) (st := q1) (t := tms x51) (ps := dp1) ho hbg rfl b141 (by omega) b182, ← ldT_y b76]; exact hi2) | exact (by rw [hdp, ← ldP_l2 (cnt := cnt) (win := win) (st := q1) (t := tms x51) (ps := dp1) ho hbg rfl b141 (by omega) b196, ← ldT_y b76]; exact hi2) | exact (by rw [hdp, ← ldP_l3 (cnt := cnt) (win := win) (st := q1) (t := tms x51) (ps := dp1) ho hbg rfl b141 (by omega) b196, ← ldT_y b76]; exact hi2)) (by have hk := ldP_ok (cnt := cnt) (win := win) (st := q1) (by omega) hte hd1; first | (rw [ldP_0 (cnt := cnt) (win := win) (st := q1) (t := tms x51) (ps := dp1) ho hbg b127] at hk; exact hk) | (rw [ldP_w (cnt := cnt) (win := win) (st := q1) (t := tms x51) (ps := dp1) ho hbg rfl b141] at hk; exact hk) | (rw [ldP_n (cnt := cnt) (win := win) (st := q1) (t := tms x51) (ps := dp1) ho hbg rfl b141 (by omega), ← hdp] at hk; exact hk) | (rw [ldP_l (cnt := cnt) (win := win) (st := q1) (t := tms x51) (ps := dp1) ho hbg rfl b141 (by omega) b182, ← hdp] at hk; exact hk) | (rw [ldP_l2 (cnt := cnt) (win := win) (st := q1) (t := tms x51) (ps := dp1) ho hbg rfl b141 (by omega) b196, ← hdp] at hk; exact hk) | (rw [ldP_l3 (cnt := cnt) (win := win) (st := q1) (t := tms x51) (ps := dp1) ho hbg rfl b141 (by omega) b196, ← hdp] at hk; exact hk)) (pk_us.trans rfl) hP hD hS (lv_sub hl [2, 3, 4, 5, 6, 7, 8, 9, 10, 0, 11, 12] rfl)
                              refine lv_iload hx hb dL_depth_144 (lv_at hl 12 rfl) ?_
                              refine lv_iconst (v := nI 1) hx hb dL_depth_146 (by decide) ?_
                              refine f_add hx hb dL_depth_147 ?_
                              refine lv_iload hx hb dL_depth_148 (lv_at hl 10 rfl) ?_
                              refine f_le hx hb (by omega) (by omega) (tgt := 160) dL_depth_150 (by decide) (fun b150 => ?_) (fun b150 => ?_)
                              · skip
                                refine lv_iload hx hb dL_depth_160 (lv_at hl 10 rfl) ?_
                                exact key162 dp1 _ _ _  (by omega) hP hD hS (lv_sub hl [0, 1, 2, 3, 4, 5, 6, 7, 8, 9, 10, 11, 12] rfl)
                              · skip
                                refine lv_iload hx hb dL_depth_153 (lv_at hl 12 rfl) ?_
                                refine lv_iconst (v := nI 1) hx hb dL_depth_155 (by decide) ?_
                                refine f_add hx hb dL_depth_156 ?_
                                refine lv_goto (tgt := 162) hx hb dL_depth_157 (by decide) ?_
                                exact key162 (q1 + 1) _ _ _  (by omega) hP hD hS (lv_sub hl [0, 1, 2, 3, 4, 5, 6, 7, 8, 9, 10, 11, 12] rfl)
                        refine lv_aload hx hb dL_depth_100 (lv_at hl 9 rfl) ?_
                        refine lv_iload hx hb dL_depth_102 (lv_at hl 12 rfl) ?_
                        refine lv_iload hx hb dL_depth_104 (lv_at hl 0 rfl) ?_
                        refine lv_aload hx hb dL_depth_106 (lv_at hl 9 rfl) ?_
                        refine lv_iload hx hb dL_depth_108 (lv_at hl 12 rfl) ?_
                        refine f_aldo hx hb hK hP 7 0 rfl rfl (by omega) (by decide) dL_depth_110 ?_
                        refine lv_icmp_le hx hb (tgt := 119) dL_depth_111 (by decide) (fun b111 => ?_) (fun b111 => ?_)
                        · skip
                          refine lv_aload hx hb dL_depth_119 (lv_at hl 9 rfl) ?_
                          refine lv_iload hx hb dL_depth_121 (lv_at hl 12 rfl) ?_
                          refine f_aldo hx hb hK hP 7 0 rfl rfl (by omega) (by decide) dL_depth_123 ?_
                          refine f_asto hx hb hK hP hD hS 7 0 rfl rfl (by omega) (by decide) dL_depth_124 (fun H locs hP hD hS => ?_)
                          have hP : va_P D vwCl [(lu, .inl (cI, 8, .inl (nF us))), (li, .inl (cI, 64, .inl (nF ids))), (lk, .inl (cI, 64, .inl kd)), (lt_, .inl (cI, 64, .inl (nF tms))), (lc, .inl (cI, 5, .inl (nF (cF n gp win cnt cl)))), (lz, .inl (cI, 6, .inl stp)), (lo, .inl (cI, 3, .inl f3)), (q_1, .inl (cI, 7, .inl (oF (va_up bg1 q1 (bg1 q1)))))] H := hP
                          have hD : va_D A [(lu, .inl (cI, 8, .inl (nF us))), (li, .inl (cI, 64, .inl (nF ids))), (lk, .inl (cI, 64, .inl kd)), (lt_, .inl (cI, 64, .inl (nF tms))), (lc, .inl (cI, 5, .inl (nF (cF n gp win cnt cl)))), (lz, .inl (cI, 6, .inl stp)), (lo, .inl (cI, 3, .inl f3)), (q_1, .inl (cI, 7, .inl (oF (va_up bg1 q1 (bg1 q1)))))] := hD
                          exact key125 (va_up bg1 q1 (bg1 q1)) _ _ _  (by first | (rw [mxO_n (fun x h => Nat.lt_of_le_of_lt (hox x h) (by omega)) (fun x h => Nat.lt_of_le_of_lt (hd1.1 _ x h) (by omega)) b111]; done) | (rw [mxO_y (fun x h => Nat.lt_of_le_of_lt (hox x h) (by omega)) (fun x h => Nat.lt_of_le_of_lt (hd1.1 _ x h) (by omega)) b111]; done)) hP hD hS (lv_sub hl [0, 1, 2, 3, 4, 5, 6, 7, 8, 9, 10, 11, 12] rfl)
                        · skip
                          refine lv_iload hx hb dL_depth_114 (lv_at hl 0 rfl) ?_
                          refine lv_goto (tgt := 124) hx hb dL_depth_116 (by decide) ?_
                          refine f_asto hx hb hK hP hD hS 7 0 rfl rfl (by omega) (by decide) dL_depth_124 (fun H locs hP hD hS => ?_)
                          have hP : va_P D vwCl [(lu, .inl (cI, 8, .inl (nF us))), (li, .inl (cI, 64, .inl (nF ids))), (lk, .inl (cI, 64, .inl kd)), (lt_, .inl (cI, 64, .inl (nF tms))), (lc, .inl (cI, 5, .inl (nF (cF n gp win cnt cl)))), (lz, .inl (cI, 6, .inl stp)), (lo, .inl (cI, 3, .inl f3)), (q_1, .inl (cI, 7, .inl (oF (va_up bg1 q1 o))))] H := hP
                          have hD : va_D A [(lu, .inl (cI, 8, .inl (nF us))), (li, .inl (cI, 64, .inl (nF ids))), (lk, .inl (cI, 64, .inl kd)), (lt_, .inl (cI, 64, .inl (nF tms))), (lc, .inl (cI, 5, .inl (nF (cF n gp win cnt cl)))), (lz, .inl (cI, 6, .inl stp)), (lo, .inl (cI, 3, .inl f3)), (q_1, .inl (cI, 7, .inl (oF (va_up bg1 q1 o))))] := hD
                          exact key125 (va_up bg1 q1 o) _ _ _  (by first | (rw [mxO_n (fun x h => Nat.lt_of_le_of_lt (hox x h) (by omega)) (fun x h => Nat.lt_of_le_of_lt (hd1.1 _ x h) (by omega)) b111]; done) | (rw [mxO_y (fun x h => Nat.lt_of_le_of_lt (hox x h) (by omega)) (fun x h => Nat.lt_of_le_of_lt (hd1.1 _ x h) (by omega)) b111]; done)) hP hD hS (lv_sub hl [0, 1, 2, 3, 4, 5, 6, 7, 8, 9, 10, 11, 12] rfl)
                      refine lv_iload hx hb dL_depth_79 (lv_at hl 11 rfl) ?_
                      refine f_zne hx hb (by omega) (tgt := 91) dL_depth_81 (by decide) (fun b81 => ?_) (fun b81 => ?_)
                      · skip
                        refine lv_aload hx hb dL_depth_91 (lv_at hl 8 rfl) ?_
                        refine lv_iload hx hb dL_depth_93 (lv_at hl 11 rfl) ?_
                        refine lv_iconst (v := nI 1) hx hb dL_depth_95 (by decide) ?_
                        refine f_sub hx hb (by omega) dL_depth_96 ?_
                        refine f_aldo hx hb hK hP 7 0 rfl rfl (by omega) (by decide) dL_depth_97 ?_
                        exact key98 (bg1 (q1 - 1)) _ _ _  (by rw [if_neg (by omega)]) (fun x h => hd1.1 _ x h) hP hD hS (lv_sub hl [0, 1, 2, 3, 4, 5, 6, 7, 8, 9, 10, 11] rfl)
                      · skip
                        refine lv_aload_n hx hb dL_depth_84 rfl (lv_at hl 3 rfl) ?_
                        refine lv_iload hx hb dL_depth_85 (lv_at hl 10 rfl) ?_
                        refine f_ald hx hb hK hP 3 0 rfl rfl (by omega) (by decide) dL_depth_87 ?_
                        refine f_to (y := oI (some (tms x51))) rfl ?_
                        refine lv_goto (tgt := 98) hx hb dL_depth_88 (by decide) ?_
                        exact key98 (some (tms x51)) _ _ _  (by rw [if_pos b81]) (fun x h => by cases h; exact Nat.le_refl _) hP hD hS (lv_sub hl [0, 1, 2, 3, 4, 5, 6, 7, 8, 9, 10, 11] rfl)
              exact key62 (cnt + 1) cnt bg dp fm f2 _ _ _ (by omega) (Nat.le_refl _) hdk rfl hf2 hP hD hS (lv_sub hl [1, 2, 3, 4, 5, 6, 7, 8, 9, 10, 11, 0] rfl)
        exact key49 (mm us ids ord n who + 1 - 0 + 1) 0 (nxE us ids ord n who 0) (fun _ => none) 0 none (upd fo 0 (-1)) _ _ _ (by omega) (Nat.zero_le _) rfl rfl pk_us hP hD hS (lv_sub hl [1, 2, 3, 4, 5, 6, 7, 8, 9, 10, 0] rfl)
      · skip
        refine lv_aload hx hb dL_depth_24 (lv_at hl 8 rfl) ?_
        refine lv_iload hx hb dL_depth_26 (lv_at hl 10 rfl) ?_
        refine lv_iconst (v := (-1)) hx hb dL_depth_28 (by decide) ?_
        refine f_astr hx hb hK hP hD hS 7 0 rfl rfl (by omega) (by decide) dL_depth_29 (fun H locs hP hD hS => ?_)
        have hP : va_P D vwCl [(lu, .inl (cI, 8, .inl (nF us))), (li, .inl (cI, 64, .inl (nF ids))), (lk, .inl (cI, 64, .inl kd)), (lt_, .inl (cI, 64, .inl (nF tms))), (lc, .inl (cI, 5, .inl (nF (cF n gp win cnt cl)))), (lz, .inl (cI, 6, .inl stp)), (lo, .inl (cI, 3, .inl (upd fo 0 (-1)))), (q_1, .inl (cI, 7, .inl (upd f1 k (-1))))] H := hP
        have hD : va_D A [(lu, .inl (cI, 8, .inl (nF us))), (li, .inl (cI, 64, .inl (nF ids))), (lk, .inl (cI, 64, .inl kd)), (lt_, .inl (cI, 64, .inl (nF tms))), (lc, .inl (cI, 5, .inl (nF (cF n gp win cnt cl)))), (lz, .inl (cI, 6, .inl stp)), (lo, .inl (cI, 3, .inl (upd fo 0 (-1)))), (q_1, .inl (cI, 7, .inl (upd f1 k (-1))))] := hD
        refine lv_iinc (v := nI (k + 1)) (lv' := [(10, .int (nI (k + 1))), (0, .ref lu), (1, .ref li), (2, .ref lk), (3, .ref lt_), (4, .ref lc), (5, .ref lz), (6, .int (nI who)), (7, .ref lo), (8, .ref q_1), (9, .int (nI 0))]) hx hb dL_depth_30 hl (k := 10) rfl (ii_1 _) (by decide) rfl (fun ls hl => ?_)
        refine lv_goto (tgt := 17) hx hb dL_depth_33 (by decide) ?_
        exact ih17 (k + 1) (upd f1 k (-1)) _ _ _ (by omega) (by omega) (fill_s hff) hP hD hS (lv_sub hl [1, 2, 3, 4, 5, 6, 7, 8, 9, 10, 0] rfl)
  exact key17 (7 - 0 + 1) 0 (nF (fun _ => 0)) _ _ _ (by omega) (Nat.zero_le _) (fun j h => absurd h (Nat.not_lt_zero _)) hP hD hS (lv_sub hl [3, 4, 5, 6, 7, 8, 9, 10, 2, 1, 0] rfl)

