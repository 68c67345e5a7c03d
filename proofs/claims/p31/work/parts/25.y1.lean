abbrev rm_L_some : Room := { frames := 0, cells := 0, slots := 0, locals := 0 }
set_option maxHeartbeats 8000000 in
set_option maxRecDepth 100000 in
theorem c_L_some (l : Launch) (v : Int32) (d : Nat) (h0 : 0 < d) (hd : d < 2 ^ 31) : Met l yL_some wsL_some rm_L_some (stP [.int v, .int (nI d)]) (QcRead (nI (smN v d))) 0 0 (fun _ => False) := by
  refine stOf (cc := cL_some) (maxL := 2) (ret := (some .int)) (by decide) rfl (Nat.le_of_ble_eq_true rfl) ?_
  intro p e s m below meth c ls hx hb hml hown hts hr hlocks hl
  have hown : s.vm.findClass RL = some m.cls := hown
  have hl : lv_has ls 2 [(0, .int v), (1, .int (nI d))] := hl
  have hF : CallFix p m c cL_some 2 s [.int v, .int (nI d)].toArray wsL_some RL := ⟨hx, hb, hml, hown, hts⟩
  refine lv_iload_n hx hb dL_some_0 rfl (lv_at hl 0 rfl) ?_
  refine lv_iconst (v := nI 2) hx hb dL_some_1 (by decide) ?_
  refine lv_iushr (v := (v.toUInt32 >>> ((nI 2).toUInt32 &&& Int32.toUInt32 31)).toInt32) hx hb dL_some_2 rfl ?_
  refine lv_iload_n hx hb dL_some_3 rfl (lv_at hl 1 rfl) ?_
  refine lv_irem hx hb dL_some_4 (nI_ne0 h0 hd) ?_
  exact roRi hx hb hr hlocks ((sm_e v h0 hd)) dL_some_5

abbrev rm_L_isOf : Room := { frames := 0, cells := 0, slots := 0, locals := 0 }
set_option maxHeartbeats 8000000 in
set_option maxRecDepth 100000 in
theorem c_L_isOf (l : Launch) (D : va_G) (cI : ClassId) (lu : Nat) (li : Nat) (us : Nat → Nat) (ids : Nat → Nat) (ev : Nat) (who : Nat) (hev : ev < 64) (hid : ids ev < 8) (hus : us (ids ev) < 20) (hwho : who < 2 ^ 31) : Met l yL_isOf wsL_isOf rm_L_isOf (roP D (tI cI) [.ref lu, .ref li, .int (nI ev), .int (nI who)] [(lu, .inl (cI, 8, .inl (nF us))), (li, .inl (cI, 64, .inl (nF ids)))]) (QcRead (bI (decide (us (ids ev) = who)))) 0 0 (fun _ => False) := by
  refine roOf (cc := cL_isOf) (maxL := 4) (ret := (some .boolean)) (by decide) rfl (Nat.le_of_ble_eq_true rfl) ?_
  intro p e s m below meth c ls hx hb hml hown hts hr hlocks hP hK hZ hl
  have hown : s.vm.findClass RL = some m.cls := hown
  have hl : lv_has ls 4 [(0, .ref lu), (1, .ref li), (2, .int (nI ev)), (3, .int (nI who))] := hl
  have hF : CallFix p m c cL_isOf 4 s [.ref lu, .ref li, .int (nI ev), .int (nI who)].toArray wsL_isOf RL := ⟨hx, hb, hml, hown, hts⟩
  refine lv_aload_n hx hb dL_isOf_0 rfl (lv_at hl 0 rfl) ?_
  refine lv_aload_n hx hb dL_isOf_1 rfl (lv_at hl 1 rfl) ?_
  refine lv_iload_n hx hb dL_isOf_2 rfl (lv_at hl 2 rfl) ?_
  refine f_ald hx hb hK hP 1 0 rfl rfl (by omega) (by decide) dL_isOf_3 ?_
  refine f_ald hx hb hK hP 0 0 rfl rfl (by omega) (by decide) dL_isOf_4 ?_
  refine lv_iload_n hx hb dL_isOf_5 rfl (lv_at hl 3 rfl) ?_
  refine f_ne hx hb (by omega) (by omega) (tgt := 13) dL_isOf_6 (by decide) (fun b6 => ?_) (fun b6 => ?_)
  · skip
    refine lv_iconst (v := nI 0) hx hb dL_isOf_13 (by decide) ?_
    exact roRz hx hb hr hlocks (bF (by first | exact decide_eq_false b6 | exact decide_eq_true b6)) dL_isOf_14
  · skip
    refine lv_iconst (v := nI 1) hx hb dL_isOf_9 (by decide) ?_
    refine lv_goto (tgt := 14) hx hb dL_isOf_10 (by decide) ?_
    exact roRz hx hb hr hlocks (bT (by first | exact decide_eq_false b6 | exact decide_eq_true b6)) dL_isOf_14

abbrev rm_L_next_0 : Room := { frames := 1, cells := 0, slots := 0, locals := 23 }
set_option maxHeartbeats 8000000 in
set_option maxRecDepth 100000 in
theorem c_L_next_0 (l : Launch) (D : va_G) (cI : ClassId) (lu : Nat) (li : Nat) (lt_ : Nat) (lc : Nat) (us : Nat → Nat) (ids : Nat → Nat) (tms : Nat → Nat) (ord : Nat → Nat) (n : Nat) (gp : Nat) (win : Nat) (cnt : Nat) (cl : Nat) (who : Nat) (hL : Lw us ids tms ord n) (hwho : who < 2 ^ 31) : Met l yL_next wsL_next rm_L_next_0 (roP D (tI cI) [.ref lu, .ref li, .ref lt_, .ref lc, .int (nI who), .int (-1)] [(lu, .inl (cI, 8, .inl (nF us))), (li, .inl (cI, 64, .inl (nF ids))), (lt_, .inl (cI, 64, .inl (nF tms))), (lc, .inl (cI, 5, .inl (nF (cF n gp win cnt cl))))]) (QcRead (oI (nxE us ids ord n who 0))) 0 0 (fun _ => False) := by
  refine roOf (cc := cL_next) (maxL := 9) (ret := (some .int)) (by decide) rfl (Nat.le_of_ble_eq_true rfl) ?_
  intro p e s m below meth c ls hx hb hml hown hts hr hlocks hP hK hZ hl
  have hown : s.vm.findClass RL = some m.cls := hown
  have hl : lv_has ls 9 [(0, .ref lu), (1, .ref li), (2, .ref lt_), (3, .ref lc), (4, .int (nI who)), (5, .int (-1))] := hl
  have hF : CallFix p m c cL_next 9 s [.ref lu, .ref li, .ref lt_, .ref lc, .int (nI who), .int (-1)].toArray wsL_next RL := ⟨hx, hb, hml, hown, hts⟩
  have hI := hL.inv
  have hT := hL.ties
  have hn64 := hL.le
  refine lv_iconst (v := (-1)) hx hb dL_next_0 (by decide) ?_
  refine f_to (y := oI none) rfl ?_
  refine lv_istore (lv' := [(6, .int (oI none)), (0, .ref lu), (1, .ref li), (2, .ref lt_), (3, .ref lc), (4, .int (nI who)), (5, .int (-1))]) hx hb dL_next_1 hl (by decide) rfl (fun ls hl => ?_)
  refine lv_iconst (v := nI 0) hx hb dL_next_3 (by decide) ?_
  refine lv_istore (lv' := [(7, .int (nI 0)), (6, .int (oI none)), (0, .ref lu), (1, .ref li), (2, .ref lt_), (3, .ref lc), (4, .int (nI who)), (5, .int (-1))]) hx hb dL_next_4 hl (by decide) rfl (fun ls hl => ?_)
  have key6 : ∀ (fuel : Nat) (k : Nat) (bo : Option Nat) (ls : Array Slot), n - k < fuel → (k ≤ n) → (bo = nxF (pS us ids who) tms k) → (∀ x, bo = some x → x < k) → lv_has ls 9 [(0, .ref lu), (1, .ref li), (2, .ref lt_), (3, .ref lc), (4, .int (nI who)), (5, .int (-1)), (6, .int (oI bo)), (7, .int (nI k))] → W p l e rm_L_next_0 s m [.ref lu, .ref li, .ref lt_, .ref lc, .int (nI who), .int (-1)].toArray below meth c s.heap [] 0 0 (MQ below (QcRead (oI (nxE us ids ord n who 0))) [.ref lu, .ref li, .ref lt_, .ref lc, .int (nI who), .int (-1)].toArray s 0 0 (fun _ => False)) (F0 m 6 ls []) := by
    intro fuel
    induction fuel with
    | zero => intro k bo ls hfu; exact absurd hfu (Nat.not_lt_zero _)
    | succ fuel ih6 =>
      intro k bo ls hfu hk hb2 hbl hl
      have htk := hI.htm k
      refine lv_iload hx hb dL_next_6 (lv_at hl 7 rfl) ?_
      refine lv_aload_n hx hb dL_next_8 rfl (lv_at hl 3 rfl) ?_
      refine lv_iconst (v := nI 0) hx hb dL_next_9 (by decide) ?_
      refine f_ald hx hb hK hP 3 0 rfl rfl (by omega) (by decide) dL_next_10 ?_
      refine f_to (y := nI n) rfl ?_
      refine f_ge hx hb (by omega) (by omega) (tgt := 98) dL_next_11 (by decide) (fun b11 => ?_) (fun b11 => ?_)
      · skip
        refine lv_iload hx hb dL_next_98 (lv_at hl 6 rfl) ?_
        exact roRi hx hb hr hlocks ((by rw [hb2, show k = n by omega]; exact congrArg oI (nx_first hI hT))) dL_next_100
      · skip
        refine lv_iload hx hb dL_next_14 (lv_at hl 5 rfl) ?_
        refine lv_if_lt hx hb (tgt := 48) dL_next_16 (by decide) (fun b16 => ?_) (fun b16 => ?_)
        rotate_left
        · exact absurd (show ((-1) : Int32) < 0 by decide) b16
        refine lv_iconst (v := nI 1) hx hb dL_next_48 (by decide) ?_
        refine lv_goto (tgt := 53) hx hb dL_next_49 (by decide) ?_
        refine lv_istore (lv' := [(8, .int (nI 1)), (0, .ref lu), (1, .ref li), (2, .ref lt_), (3, .ref lc), (4, .int (nI who)), (5, .int (-1)), (6, .int (oI bo)), (7, .int (nI k))]) hx hb dL_next_53 hl (by decide) rfl (fun ls hl => ?_)
        refine lv_aload_n hx hb dL_next_55 rfl (lv_at hl 1 rfl) ?_
        refine lv_aload_n hx hb dL_next_56 rfl (lv_at hl 2 rfl) ?_
        refine lv_iload hx hb dL_next_57 (lv_at hl 8 rfl) ?_
        refine lv_iload hx hb dL_next_59 (lv_at hl 5 rfl) ?_
        refine roC (va_runS (As := [.ref lu, .ref li, .int (nI k), .int (nI who)]) (rest := []) hF (c_L_isOf l D cI lu li us ids k who (by omega) (hL.id8 _) (hI.hus _) hwho) (va_cwS 4 hts gL_next_L_isOf rfl rfl rfl (by decide +kernel) ⟨Nat.le_of_ble_eq_true rfl, Nat.le_of_ble_eq_true rfl⟩) (roS hK hZ [0] rfl hP [0, 1] rfl) rfl rfl hl.1 rfl (lv_room (Nat.le_of_ble_eq_true rfl)) dL_next_61 ⟨Nat.le_of_ble_eq_true rfl, Nat.le_of_ble_eq_true rfl⟩) ?_
        refine f_beq hx hb (tgt := 92) dL_next_64 (by decide) (fun b64 => ?_) (fun b64 => ?_)
        · skip
          refine lv_iinc (v := nI (k + 1)) (lv' := [(7, .int (nI (k + 1))), (8, .int (nI 1)), (0, .ref lu), (1, .ref li), (2, .ref lt_), (3, .ref lc), (4, .int (nI who)), (5, .int (-1)), (6, .int (oI bo))]) hx hb dL_next_92 hl (k := 8) rfl (ii_1 _) (by decide) rfl (fun ls hl => ?_)
          refine lv_goto (tgt := 6) hx hb dL_next_95 (by decide) ?_
          exact ih6 (k + 1) bo _ (by omega) (by omega) (by first | exact hb2.trans (nxF_n (decide_eq_false (of_decide_eq_false b64))).symm | (rw [nxF_0 (decide_eq_true (of_decide_eq_true b64)) (hb2.symm.trans b74)]; done) | (rw [nxF_y (decide_eq_true (of_decide_eq_true b64)) hb2.symm b85]; done) | (rw [nxF_z hb2.symm b85]; done)) (fun x h => by first | (have := hbl x h; omega) | (cases h; omega)) (lv_sub hl [2, 3, 4, 5, 6, 7, 8, 0] rfl)
        · skip
          refine lv_iload hx hb dL_next_67 (lv_at hl 0 rfl) ?_
          refine lv_if_eq hx hb (tgt := 92) dL_next_69 (by decide) (fun b69 => ?_) (fun b69 => ?_)
          · exact absurd b69 (show ¬ (nI 1 = 0) by decide)
          refine lv_iload hx hb dL_next_72 (lv_at hl 7 rfl) ?_
          refine f_olt hx hb (fun x h => by have := hbl x h; omega) (tgt := 88) dL_next_74 (by decide) (fun b74 => ?_) (fun x74 b74 => ?_)
          · skip
            refine lv_iload hx hb dL_next_88 (lv_at hl 8 rfl) ?_
            refine f_to (y := oI (some k)) rfl ?_
            refine lv_istore (lv' := [(6, .int (oI (some k))), (8, .int (nI 1)), (0, .ref lu), (1, .ref li), (2, .ref lt_), (3, .ref lc), (4, .int (nI who)), (5, .int (-1)), (7, .int (nI k))]) hx hb dL_next_90 hl (by decide) rfl (fun ls hl => ?_)
            refine lv_iinc (v := nI (k + 1)) (lv' := [(7, .int (nI (k + 1))), (6, .int (oI (some k))), (8, .int (nI 1)), (0, .ref lu), (1, .ref li), (2, .ref lt_), (3, .ref lc), (4, .int (nI who)), (5, .int (-1))]) hx hb dL_next_92 hl (k := 8) rfl (ii_1 _) (by decide) rfl (fun ls hl => ?_)
            refine lv_goto (tgt := 6) hx hb dL_next_95 (by decide) ?_
            exact ih6 (k + 1) (some k) _ (by omega) (by omega) (by first | exact hb2.trans (nxF_n (decide_eq_false (of_decide_eq_false b64))).symm | (rw [nxF_0 (decide_eq_true (of_decide_eq_true b64)) (hb2.symm.trans b74)]; done) | (rw [nxF_y (decide_eq_true (of_decide_eq_true b64)) hb2.symm b85]; done) | (rw [nxF_z hb2.symm b85]; done)) (fun x h => by first | (have := hbl x h; omega) | (cases h; omega)) (lv_sub hl [3, 4, 5, 6, 7, 8, 1, 0] rfl)
          · skip
            subst b74
            have hl : lv_has ls 9 [(8, .int (nI 1)), (0, .ref lu), (1, .ref li), (2, .ref lt_), (3, .ref lc), (4, .int (nI who)), (5, .int (-1)), (6, .int (nI x74)), (7, .int (nI k))] := hl
            refine lv_aload_n hx hb dL_next_77 rfl (lv_at hl 3 rfl) ?_
            refine lv_iload hx hb dL_next_78 (lv_at hl 8 rfl) ?_
            refine f_ald hx hb hK hP 2 0 rfl rfl (by omega) (by decide) dL_next_80 ?_
            refine lv_aload_n hx hb dL_next_81 rfl (lv_at hl 3 rfl) ?_
            have htb := hI.htm x74
            have hbk := hbl _ rfl
            refine lv_iload hx hb dL_next_82 (lv_at hl 7 rfl) ?_
            refine f_ald hx hb hK hP 2 0 rfl rfl (by omega) (by decide) dL_next_84 ?_
            refine f_ge hx hb (by omega) (by omega) (tgt := 92) dL_next_85 (by decide) (fun b85 => ?_) (fun b85 => ?_)
            · skip
              refine lv_iinc (v := nI (k + 1)) (lv' := [(7, .int (nI (k + 1))), (8, .int (nI 1)), (0, .ref lu), (1, .ref li), (2, .ref lt_), (3, .ref lc), (4, .int (nI who)), (5, .int (-1)), (6, .int (nI x74))]) hx hb dL_next_92 hl (k := 8) rfl (ii_1 _) (by decide) rfl (fun ls hl => ?_)
              refine lv_goto (tgt := 6) hx hb dL_next_95 (by decide) ?_
              exact ih6 (k + 1) (some x74) _ (by omega) (by omega) (by first | exact hb2.trans (nxF_n (decide_eq_false (of_decide_eq_false b64))).symm | (rw [nxF_0 (decide_eq_true (of_decide_eq_true b64)) (hb2.symm.trans b74)]; done) | (rw [nxF_y (decide_eq_true (of_decide_eq_true b64)) hb2.symm b85]; done) | (rw [nxF_z hb2.symm b85]; done)) (fun x h => by first | (have := hbl x h; omega) | (cases h; omega)) (lv_sub hl [2, 3, 4, 5, 6, 7, 8, 0] rfl)
            · skip
              refine lv_iload hx hb dL_next_88 (lv_at hl 8 rfl) ?_
              refine f_to (y := oI (some k)) rfl ?_
              refine lv_istore (lv' := [(6, .int (oI (some k))), (8, .int (nI 1)), (0, .ref lu), (1, .ref li), (2, .ref lt_), (3, .ref lc), (4, .int (nI who)), (5, .int (-1)), (7, .int (nI k))]) hx hb dL_next_90 hl (by decide) rfl (fun ls hl => ?_)
              refine lv_iinc (v := nI (k + 1)) (lv' := [(7, .int (nI (k + 1))), (6, .int (oI (some k))), (8, .int (nI 1)), (0, .ref lu), (1, .ref li), (2, .ref lt_), (3, .ref lc), (4, .int (nI who)), (5, .int (-1))]) hx hb dL_next_92 hl (k := 8) rfl (ii_1 _) (by decide) rfl (fun ls hl => ?_)
              refine lv_goto (tgt := 6) hx hb dL_next_95 (by decide) ?_
              exact ih6 (k + 1) (some k) _ (by omega) (by omega) (by first | exact hb2.trans (nxF_n (decide_eq_false (of_decide_eq_false b64))).symm | (rw [nxF_0 (decide_eq_true (of_decide_eq_true b64)) (hb2.symm.trans b74)]; done) | (rw [nxF_y (decide_eq_true (of_decide_eq_true b64)) hb2.symm b85]; done) | (rw [nxF_z hb2.symm b85]; done)) (fun x h => by first | (have := hbl x h; omega) | (cases h; omega)) (lv_sub hl [3, 4, 5, 6, 7, 8, 1, 0] rfl)
  exact key6 (n - 0 + 1) 0 none _ (by omega) (Nat.zero_le _) rfl (fun x h => nomatch h) (lv_sub hl [2, 3, 4, 5, 6, 7, 1, 0] rfl)

abbrev rm_L_next_1 : Room := { frames := 1, cells := 0, slots := 0, locals := 23 }
set_option maxHeartbeats 8000000 in
set_option maxRecDepth 100000 in
theorem c_L_next_1 (l : Launch) (D : va_G) (cI : ClassId) (lu : Nat) (li : Nat) (lt_ : Nat) (lc : Nat) (us : Nat → Nat) (ids : Nat → Nat) (tms : Nat → Nat) (ord : Nat → Nat) (n : Nat) (gp : Nat) (win : Nat) (cnt : Nat) (cl : Nat) (who : Nat) (ee : Nat) (i : Nat) (hL : Lw us ids tms ord n) (hwho : who < 2 ^ 31) (hi : i < mm us ids ord n who) (he : ee = Em us ids ord n who i) : Met l yL_next wsL_next rm_L_next_1 (roP D (tI cI) [.ref lu, .ref li, .ref lt_, .ref lc, .int (nI who), .int (nI ee)] [(lu, .inl (cI, 8, .inl (nF us))), (li, .inl (cI, 64, .inl (nF ids))), (lt_, .inl (cI, 64, .inl (nF tms))), (lc, .inl (cI, 5, .inl (nF (cF n gp win cnt cl))))]) (QcRead (oI (nxE us ids ord n who (i + 1)))) 0 0 (fun _ => False) := by
  refine roOf (cc := cL_next) (maxL := 9) (ret := (some .int)) (by decide) rfl (Nat.le_of_ble_eq_true rfl) ?_
  intro p e s m below meth c ls hx hb hml hown hts hr hlocks hP hK hZ hl
  have hown : s.vm.findClass RL = some m.cls := hown
  have hl : lv_has ls 9 [(0, .ref lu), (1, .ref li), (2, .ref lt_), (3, .ref lc), (4, .int (nI who)), (5, .int (nI ee))] := hl
  have hF : CallFix p m c cL_next 9 s [.ref lu, .ref li, .ref lt_, .ref lc, .int (nI who), .int (nI ee)].toArray wsL_next RL := ⟨hx, hb, hml, hown, hts⟩
  have hI := hL.inv
  have hT := hL.ties
  have hn64 := hL.le
  have he64 : ee < 64 := by have := (Em_lt hI hi).1; omega
  have hte := hI.htm ee
  refine lv_iconst (v := (-1)) hx hb dL_next_0 (by decide) ?_
  refine f_to (y := oI none) rfl ?_
  refine lv_istore (lv' := [(6, .int (oI none)), (0, .ref lu), (1, .ref li), (2, .ref lt_), (3, .ref lc), (4, .int (nI who)), (5, .int (nI ee))]) hx hb dL_next_1 hl (by decide) rfl (fun ls hl => ?_)
  refine lv_iconst (v := nI 0) hx hb dL_next_3 (by decide) ?_
  refine lv_istore (lv' := [(7, .int (nI 0)), (6, .int (oI none)), (0, .ref lu), (1, .ref li), (2, .ref lt_), (3, .ref lc), (4, .int (nI who)), (5, .int (nI ee))]) hx hb dL_next_4 hl (by decide) rfl (fun ls hl => ?_)
  have key6 : ∀ (fuel : Nat) (k : Nat) (bo : Option Nat) (ls : Array Slot), n - k < fuel → (k ≤ n) → (bo = nxF (pA us ids tms who ee) tms k) → (∀ x, bo = some x → x < k) → lv_has ls 9 [(0, .ref lu), (1, .ref li), (2, .ref lt_), (3, .ref lc), (4, .int (nI who)), (5, .int (nI ee)), (6, .int (oI bo)), (7, .int (nI k))] → W p l e rm_L_next_1 s m [.ref lu, .ref li, .ref lt_, .ref lc, .int (nI who), .int (nI ee)].toArray below meth c s.heap [] 0 0 (MQ below (QcRead (oI (nxE us ids ord n who (i + 1)))) [.ref lu, .ref li, .ref lt_, .ref lc, .int (nI who), .int (nI ee)].toArray s 0 0 (fun _ => False)) (F0 m 6 ls []) := by
    intro fuel
    induction fuel with
    | zero => intro k bo ls hfu; exact absurd hfu (Nat.not_lt_zero _)
    | succ fuel ih6 =>
      intro k bo ls hfu hk hb2 hbl hl
      have htk := hI.htm k
      refine lv_iload hx hb dL_next_6 (lv_at hl 7 rfl) ?_
      refine lv_aload_n hx hb dL_next_8 rfl (lv_at hl 3 rfl) ?_
      refine lv_iconst (v := nI 0) hx hb dL_next_9 (by decide) ?_
      refine f_ald hx hb hK hP 3 0 rfl rfl (by omega) (by decide) dL_next_10 ?_
      refine f_to (y := nI n) rfl ?_
      refine f_ge hx hb (by omega) (by omega) (tgt := 98) dL_next_11 (by decide) (fun b11 => ?_) (fun b11 => ?_)
      · skip
        refine lv_iload hx hb dL_next_98 (lv_at hl 6 rfl) ?_
        exact roRi hx hb hr hlocks ((by rw [hb2, show k = n by omega, he]; exact congrArg oI (nx_next hI hT hi))) dL_next_100
      · skip
        have key53 : ∀ (lt : Bool) (ls : Array Slot), (lt = decide (lx tms ee k)) → lv_has ls 9 [(0, .ref lu), (1, .ref li), (2, .ref lt_), (3, .ref lc), (4, .int (nI who)), (5, .int (nI ee)), (6, .int (oI bo)), (7, .int (nI k))] → W p l e rm_L_next_1 s m [.ref lu, .ref li, .ref lt_, .ref lc, .int (nI who), .int (nI ee)].toArray below meth c s.heap [] 0 0 (MQ below (QcRead (oI (nxE us ids ord n who (i + 1)))) [.ref lu, .ref li, .ref lt_, .ref lc, .int (nI who), .int (nI ee)].toArray s 0 0 (fun _ => False)) (F0 m 53 ls [.int (bI lt)]) := by
          intro lt ls hlt hl
          refine lv_istore (lv' := [(8, .int (bI lt)), (0, .ref lu), (1, .ref li), (2, .ref lt_), (3, .ref lc), (4, .int (nI who)), (5, .int (nI ee)), (6, .int (oI bo)), (7, .int (nI k))]) hx hb dL_next_53 hl (by decide) rfl (fun ls hl => ?_)
          refine lv_aload_n hx hb dL_next_55 rfl (lv_at hl 1 rfl) ?_
          refine lv_aload_n hx hb dL_next_56 rfl (lv_at hl 2 rfl) ?_
          refine lv_iload hx hb dL_next_57 (lv_at hl 8 rfl) ?_
          refine lv_iload hx hb dL_next_59 (lv_at hl 5 rfl) ?_
          refine roC (va_runS (As := [.ref lu, .ref li, .int (nI k), .int (nI who)]) (rest := []) hF (c_L_isOf l D cI lu li us ids k who (by omega) (hL.id8 _) (hI.hus _) hwho) (va_cwS 4 hts gL_next_L_isOf rfl rfl rfl (by decide +kernel) ⟨Nat.le_of_ble_eq_true rfl, Nat.le_of_ble_eq_true rfl⟩) (roS hK hZ [0] rfl hP [0, 1] rfl) rfl rfl hl.1 rfl (lv_room (Nat.le_of_ble_eq_true rfl)) dL_next_61 ⟨Nat.le_of_ble_eq_true rfl, Nat.le_of_ble_eq_true rfl⟩) ?_
          refine f_beq hx hb (tgt := 92) dL_next_64 (by decide) (fun b64 => ?_) (fun b64 => ?_)
          · skip
            refine lv_iinc (v := nI (k + 1)) (lv' := [(7, .int (nI (k + 1))), (8, .int (bI lt)), (0, .ref lu), (1, .ref li), (2, .ref lt_), (3, .ref lc), (4, .int (nI who)), (5, .int (nI ee)), (6, .int (oI bo))]) hx hb dL_next_92 hl (k := 8) rfl (ii_1 _) (by decide) rfl (fun ls hl => ?_)
            refine lv_goto (tgt := 6) hx hb dL_next_95 (by decide) ?_
            exact ih6 (k + 1) bo _ (by omega) (by omega) (by first | exact hb2.trans (nxF_n (by unfold pA; rw [b64]; rfl)).symm | exact hb2.trans (nxF_n (by unfold pA; rw [← hlt, b69, Bool.and_false])).symm | (rw [nxF_0 (by unfold pA; rw [b64, ← hlt, b69]; rfl) (hb2.symm.trans b74)]; done) | (rw [nxF_y (by unfold pA; rw [b64, ← hlt, b69]; rfl) hb2.symm b85]; done) | (rw [nxF_z hb2.symm b85]; done)) (fun x h => by first | (have := hbl x h; omega) | (cases h; omega)) (lv_sub hl [2, 3, 4, 5, 6, 7, 8, 0] rfl)
          · skip
            refine lv_iload hx hb dL_next_67 (lv_at hl 0 rfl) ?_
            refine f_beq hx hb (tgt := 92) dL_next_69 (by decide) (fun b69 => ?_) (fun b69 => ?_)
            · skip
              refine lv_iinc (v := nI (k + 1)) (lv' := [(7, .int (nI (k + 1))), (8, .int (bI lt)), (0, .ref lu), (1, .ref li), (2, .ref lt_), (3, .ref lc), (4, .int (nI who)), (5, .int (nI ee)), (6, .int (oI bo))]) hx hb dL_next_92 hl (k := 8) rfl (ii_1 _) (by decide) rfl (fun ls hl => ?_)
              refine lv_goto (tgt := 6) hx hb dL_next_95 (by decide) ?_
              exact ih6 (k + 1) bo _ (by omega) (by omega) (by first | exact hb2.trans (nxF_n (by unfold pA; rw [b64]; rfl)).symm | exact hb2.trans (nxF_n (by unfold pA; rw [← hlt, b69, Bool.and_false])).symm | (rw [nxF_0 (by unfold pA; rw [b64, ← hlt, b69]; rfl) (hb2.symm.trans b74)]; done) | (rw [nxF_y (by unfold pA; rw [b64, ← hlt, b69]; rfl) hb2.symm b85]; done) | (rw [nxF_z hb2.symm b85]; done)) (fun x h => by first | (have := hbl x h; omega) | (cases h; omega)) (lv_sub hl [2, 3, 4, 5, 6, 7, 8, 0] rfl)
            · skip
              refine lv_iload hx hb dL_next_72 (lv_at hl 7 rfl) ?_
              refine f_olt hx hb (fun x h => by have := hbl x h; omega) (tgt := 88) dL_next_74 (by decide) (fun b74 => ?_) (fun x74 b74 => ?_)
              · skip
                refine lv_iload hx hb dL_next_88 (lv_at hl 8 rfl) ?_
                refine f_to (y := oI (some k)) rfl ?_
                refine lv_istore (lv' := [(6, .int (oI (some k))), (8, .int (bI lt)), (0, .ref lu), (1, .ref li), (2, .ref lt_), (3, .ref lc), (4, .int (nI who)), (5, .int (nI ee)), (7, .int (nI k))]) hx hb dL_next_90 hl (by decide) rfl (fun ls hl => ?_)
                refine lv_iinc (v := nI (k + 1)) (lv' := [(7, .int (nI (k + 1))), (6, .int (oI (some k))), (8, .int (bI lt)), (0, .ref lu), (1, .ref li), (2, .ref lt_), (3, .ref lc), (4, .int (nI who)), (5, .int (nI ee))]) hx hb dL_next_92 hl (k := 8) rfl (ii_1 _) (by decide) rfl (fun ls hl => ?_)
                refine lv_goto (tgt := 6) hx hb dL_next_95 (by decide) ?_
                exact ih6 (k + 1) (some k) _ (by omega) (by omega) (by first | exact hb2.trans (nxF_n (by unfold pA; rw [b64]; rfl)).symm | exact hb2.trans (nxF_n (by unfold pA; rw [← hlt, b69, Bool.and_false])).symm | (rw [nxF_0 (by unfold pA; rw [b64, ← hlt, b69]; rfl) (hb2.symm.trans b74)]; done) | (rw [nxF_y (by unfold pA; rw [b64, ← hlt, b69]; rfl) hb2.symm b85]; done) | (rw [nxF_z hb2.symm b85]; done)) (fun x h => by first | (have := hbl x h; omega) | (cases h; omega)) (lv_sub hl [3, 4, 5, 6, 7, 8, 1, 0] rfl)
              · skip
                subst b74
                have hl : lv_has ls 9 [(8, .int (bI lt)), (0, .ref lu), (1, .ref li), (2, .ref lt_), (3, .ref lc), (4, .int (nI who)), (5, .int (nI ee)), (6, .int (nI x74)), (7, .int (nI k))] := hl
                refine lv_aload_n hx hb dL_next_77 rfl (lv_at hl 3 rfl) ?_
                refine lv_iload hx hb dL_next_78 (lv_at hl 8 rfl) ?_
                refine f_ald hx hb hK hP 2 0 rfl rfl (by omega) (by decide) dL_next_80 ?_
                refine lv_aload_n hx hb dL_next_81 rfl (lv_at hl 3 rfl) ?_
                have htb := hI.htm x74
                have hbk := hbl _ rfl
                refine lv_iload hx hb dL_next_82 (lv_at hl 7 rfl) ?_
                refine f_ald hx hb hK hP 2 0 rfl rfl (by omega) (by decide) dL_next_84 ?_
                refine f_ge hx hb (by omega) (by omega) (tgt := 92) dL_next_85 (by decide) (fun b85 => ?_) (fun b85 => ?_)
                · skip
                  refine lv_iinc (v := nI (k + 1)) (lv' := [(7, .int (nI (k + 1))), (8, .int (bI lt)), (0, .ref lu), (1, .ref li), (2, .ref lt_), (3, .ref lc), (4, .int (nI who)), (5, .int (nI ee)), (6, .int (nI x74))]) hx hb dL_next_92 hl (k := 8) rfl (ii_1 _) (by decide) rfl (fun ls hl => ?_)
                  refine lv_goto (tgt := 6) hx hb dL_next_95 (by decide) ?_
                  exact ih6 (k + 1) (some x74) _ (by omega) (by omega) (by first | exact hb2.trans (nxF_n (by unfold pA; rw [b64]; rfl)).symm | exact hb2.trans (nxF_n (by unfold pA; rw [← hlt, b69, Bool.and_false])).symm | (rw [nxF_0 (by unfold pA; rw [b64, ← hlt, b69]; rfl) (hb2.symm.trans b74)]; done) | (rw [nxF_y (by unfold pA; rw [b64, ← hlt, b69]; rfl) hb2.symm b85]; done) | (rw [nxF_z hb2.symm b85]; done)) (fun x h => by first | (have := hbl x h; omega) | (cases h; omega)) (lv_sub hl [2, 3, 4, 5, 6, 7, 8, 0] rfl)
                · skip
                  refine lv_iload hx hb dL_next_88 (lv_at hl 8 rfl) ?_
                  refine f_to (y := oI (some k)) rfl ?_
                  refine lv_istore (lv' := [(6, .int (oI (some k))), (8, .int (bI lt)), (0, .ref lu), (1, .ref li), (2, .ref lt_), (3, .ref lc), (4, .int (nI who)), (5, .int (nI ee)), (7, .int (nI k))]) hx hb dL_next_90 hl (by decide) rfl (fun ls hl => ?_)
                  refine lv_iinc (v := nI (k + 1)) (lv' := [(7, .int (nI (k + 1))), (6, .int (oI (some k))), (8, .int (bI lt)), (0, .ref lu), (1, .ref li), (2, .ref lt_), (3, .ref lc), (4, .int (nI who)), (5, .int (nI ee))]) hx hb dL_next_92 hl (k := 8) rfl (ii_1 _) (by decide) rfl (fun ls hl => ?_)
                  refine lv_goto (tgt := 6) hx hb dL_next_95 (by decide) ?_
                  exact ih6 (k + 1) (some k) _ (by omega) (by omega) (by first | exact hb2.trans (nxF_n (by unfold pA; rw [b64]; rfl)).symm | exact hb2.trans (nxF_n (by unfold pA; rw [← hlt, b69, Bool.and_false])).symm | (rw [nxF_0 (by unfold pA; rw [b64, ← hlt, b69]; rfl) (hb2.symm.trans b74)]; done) | (rw [nxF_y (by unfold pA; rw [b64, ← hlt, b69]; rfl) hb2.symm b85]; done) | (rw [nxF_z hb2.symm b85]; done)) (fun x h => by first | (have := hbl x h; omega) | (cases h; omega)) (lv_sub hl [3, 4, 5, 6, 7, 8, 1, 0] rfl)
        refine lv_iload hx hb dL_next_14 (lv_at hl 5 rfl) ?_
        refine lv_if_lt hx hb (tgt := 48) dL_next_16 (by decide) (fun b16 => ?_) (fun b16 => ?_)
        · exact absurd b16 (nI_pos (by omega))
        refine lv_aload_n hx hb dL_next_19 rfl (lv_at hl 2 rfl) ?_
        refine lv_iload hx hb dL_next_20 (lv_at hl 7 rfl) ?_
        refine f_ald hx hb hK hP 2 0 rfl rfl (by omega) (by decide) dL_next_22 ?_
        refine lv_aload_n hx hb dL_next_23 rfl (lv_at hl 2 rfl) ?_
        refine lv_iload hx hb dL_next_24 (lv_at hl 5 rfl) ?_
        refine f_ald hx hb hK hP 2 0 rfl rfl (by omega) (by decide) dL_next_26 ?_
        refine f_gt hx hb (by omega) (by omega) (tgt := 48) dL_next_27 (by decide) (fun b27 => ?_) (fun b27 => ?_)
        · skip
          refine lv_iconst (v := nI 1) hx hb dL_next_48 (by decide) ?_
          refine lv_goto (tgt := 53) hx hb dL_next_49 (by decide) ?_
          refine f_to (y := bI true) rfl ?_
          exact key53 true _  (by first | exact (decide_eq_true (Or.inl b27)).symm | exact (decide_eq_false (fun q => q.elim (fun q => by omega) (fun q => by omega))).symm | exact (decide_eq_true (Or.inr ⟨b38.symm, b45⟩)).symm) (lv_sub hl [0, 1, 2, 3, 4, 5, 6, 7] rfl)
        · skip
          refine lv_aload_n hx hb dL_next_30 rfl (lv_at hl 2 rfl) ?_
          refine lv_iload hx hb dL_next_31 (lv_at hl 7 rfl) ?_
          refine f_ald hx hb hK hP 2 0 rfl rfl (by omega) (by decide) dL_next_33 ?_
          refine lv_aload_n hx hb dL_next_34 rfl (lv_at hl 2 rfl) ?_
          refine lv_iload hx hb dL_next_35 (lv_at hl 5 rfl) ?_
          refine f_ald hx hb hK hP 2 0 rfl rfl (by omega) (by decide) dL_next_37 ?_
          refine f_ne hx hb (by omega) (by omega) (tgt := 52) dL_next_38 (by decide) (fun b38 => ?_) (fun b38 => ?_)
          · skip
            refine lv_iconst (v := nI 0) hx hb dL_next_52 (by decide) ?_
            refine f_to (y := bI false) rfl ?_
            exact key53 false _  (by first | exact (decide_eq_true (Or.inl b27)).symm | exact (decide_eq_false (fun q => q.elim (fun q => by omega) (fun q => by omega))).symm | exact (decide_eq_true (Or.inr ⟨b38.symm, b45⟩)).symm) (lv_sub hl [0, 1, 2, 3, 4, 5, 6, 7] rfl)
          · skip
            refine lv_iload hx hb dL_next_41 (lv_at hl 7 rfl) ?_
            refine lv_iload hx hb dL_next_43 (lv_at hl 5 rfl) ?_
            refine f_le hx hb (by omega) (by omega) (tgt := 52) dL_next_45 (by decide) (fun b45 => ?_) (fun b45 => ?_)
            · skip
              refine lv_iconst (v := nI 0) hx hb dL_next_52 (by decide) ?_
              refine f_to (y := bI false) rfl ?_
              exact key53 false _  (by first | exact (decide_eq_true (Or.inl b27)).symm | exact (decide_eq_false (fun q => q.elim (fun q => by omega) (fun q => by omega))).symm | exact (decide_eq_true (Or.inr ⟨b38.symm, b45⟩)).symm) (lv_sub hl [0, 1, 2, 3, 4, 5, 6, 7] rfl)
            · skip
              refine lv_iconst (v := nI 1) hx hb dL_next_48 (by decide) ?_
              refine lv_goto (tgt := 53) hx hb dL_next_49 (by decide) ?_
              refine f_to (y := bI true) rfl ?_
              exact key53 true _  (by first | exact (decide_eq_true (Or.inl b27)).symm | exact (decide_eq_false (fun q => q.elim (fun q => by omega) (fun q => by omega))).symm | exact (decide_eq_true (Or.inr ⟨b38.symm, b45⟩)).symm) (lv_sub hl [0, 1, 2, 3, 4, 5, 6, 7] rfl)
  exact key6 (n - 0 + 1) 0 none _ (by omega) (Nat.zero_le _) rfl (fun x h => nomatch h) (lv_sub hl [2, 3, 4, 5, 6, 7, 1, 0] rfl)

abbrev rm_L_isOn : Room := { frames := 1, cells := 0, slots := 0, locals := 23 }
set_option maxHeartbeats 8000000 in
set_option maxRecDepth 100000 in
theorem c_L_isOn (l : Launch) (D : va_G) (cI : ClassId) (lu : Nat) (li : Nat) (lt_ : Nat) (lc : Nat) (us : Nat → Nat) (ids : Nat → Nat) (tms : Nat → Nat) (ord : Nat → Nat) (n : Nat) (gp : Nat) (win : Nat) (cnt : Nat) (cl : Nat) (who : Nat) (dy : Int32) (hL : Lw us ids tms ord n) (hwho : who < 2 ^ 31) : Met l yL_isOn wsL_isOn rm_L_isOn (roP D (tI cI) [.ref lu, .ref li, .ref lt_, .ref lc, .int (nI who), .int dy] [(lu, .inl (cI, 8, .inl (nF us))), (li, .inl (cI, 64, .inl (nF ids))), (lt_, .inl (cI, 64, .inl (nF tms))), (lc, .inl (cI, 5, .inl (nF (cF n gp win cnt cl))))]) (QcRead (bI (acI us ids tms who dy n))) 0 0 (fun _ => False) := by
  refine roOf (cc := cL_isOn) (maxL := 7) (ret := (some .boolean)) (by decide) rfl (Nat.le_of_ble_eq_true rfl) ?_
  intro p e s m below meth c ls hx hb hml hown hts hr hlocks hP hK hZ hl
  have hown : s.vm.findClass RL = some m.cls := hown
  have hl : lv_has ls 7 [(0, .ref lu), (1, .ref li), (2, .ref lt_), (3, .ref lc), (4, .int (nI who)), (5, .int dy)] := hl
  have hF : CallFix p m c cL_isOn 7 s [.ref lu, .ref li, .ref lt_, .ref lc, .int (nI who), .int dy].toArray wsL_isOn RL := ⟨hx, hb, hml, hown, hts⟩
  have hI := hL.inv
  have hT := hL.ties
  have hn64 := hL.le
  refine lv_iconst (v := nI 0) hx hb dL_isOn_0 (by decide) ?_
  refine lv_istore (lv' := [(6, .int (nI 0)), (0, .ref lu), (1, .ref li), (2, .ref lt_), (3, .ref lc), (4, .int (nI who)), (5, .int dy)]) hx hb dL_isOn_1 hl (by decide) rfl (fun ls hl => ?_)
  have key3 : ∀ (fuel : Nat) (k : Nat) (ls : Array Slot), n - k < fuel → (k ≤ n) → (acI us ids tms who dy k = false) → lv_has ls 7 [(0, .ref lu), (1, .ref li), (2, .ref lt_), (3, .ref lc), (4, .int (nI who)), (5, .int dy), (6, .int (nI k))] → W p l e rm_L_isOn s m [.ref lu, .ref li, .ref lt_, .ref lc, .int (nI who), .int dy].toArray below meth c s.heap [] 0 0 (MQ below (QcRead (bI (acI us ids tms who dy n))) [.ref lu, .ref li, .ref lt_, .ref lc, .int (nI who), .int dy].toArray s 0 0 (fun _ => False)) (F0 m 3 ls []) := by
    intro fuel
    induction fuel with
    | zero => intro k ls hfu; exact absurd hfu (Nat.not_lt_zero _)
    | succ fuel ih3 =>
      intro k ls hfu hk ha hl
      have htk := hI.htm k
      refine lv_iload hx hb dL_isOn_3 (lv_at hl 6 rfl) ?_
      refine lv_aload_n hx hb dL_isOn_5 rfl (lv_at hl 3 rfl) ?_
      refine lv_iconst (v := nI 0) hx hb dL_isOn_6 (by decide) ?_
      refine f_ald hx hb hK hP 3 0 rfl rfl (by omega) (by decide) dL_isOn_7 ?_
      refine f_to (y := nI n) rfl ?_
      refine f_ge hx hb (by omega) (by omega) (tgt := 43) dL_isOn_8 (by decide) (fun b8 => ?_) (fun b8 => ?_)
      · skip
        refine lv_iconst (v := nI 0) hx hb dL_isOn_43 (by decide) ?_
        exact roRz hx hb hr hlocks (bF (by rw [← ha, show k = n by omega])) dL_isOn_44
      · skip
        refine lv_aload_n hx hb dL_isOn_11 rfl (lv_at hl 0 rfl) ?_
        refine lv_aload_n hx hb dL_isOn_12 rfl (lv_at hl 1 rfl) ?_
        refine lv_iload hx hb dL_isOn_13 (lv_at hl 6 rfl) ?_
        refine lv_iload hx hb dL_isOn_15 (lv_at hl 4 rfl) ?_
        refine roC (va_runS (As := [.ref lu, .ref li, .int (nI k), .int (nI who)]) (rest := []) hF (c_L_isOf l D cI lu li us ids k who (by omega) (hL.id8 _) (hI.hus _) hwho) (va_cwS 4 hts gL_isOn_L_isOf rfl rfl rfl (by decide +kernel) ⟨Nat.le_of_ble_eq_true rfl, Nat.le_of_ble_eq_true rfl⟩) (roS hK hZ [0] rfl hP [0, 1] rfl) rfl rfl hl.1 rfl (lv_room (Nat.le_of_ble_eq_true rfl)) dL_isOn_17 ⟨Nat.le_of_ble_eq_true rfl, Nat.le_of_ble_eq_true rfl⟩) ?_
        refine f_beq hx hb (tgt := 37) dL_isOn_20 (by decide) (fun b20 => ?_) (fun b20 => ?_)
        · skip
          refine lv_iinc (v := nI (k + 1)) (lv' := [(6, .int (nI (k + 1))), (0, .ref lu), (1, .ref li), (2, .ref lt_), (3, .ref lc), (4, .int (nI who)), (5, .int dy)]) hx hb dL_isOn_37 hl (k := 6) rfl (ii_1 _) (by decide) rfl (fun ls hl => ?_)
          refine lv_goto (tgt := 3) hx hb dL_isOn_40 (by decide) ?_
          exact ih3 (k + 1) _ (by omega) (by omega) (by first | exact acI_n1 ha (of_decide_eq_false b20) | exact acI_n2 ha b32) (lv_sub hl [1, 2, 3, 4, 5, 6, 0] rfl)
        · skip
          refine lv_aload_n hx hb dL_isOn_23 rfl (lv_at hl 2 rfl) ?_
          refine lv_iload hx hb dL_isOn_24 (lv_at hl 6 rfl) ?_
          refine f_ald hx hb hK hP 2 0 rfl rfl (by omega) (by decide) dL_isOn_26 ?_
          refine lv_bipush (v := nI 100) hx hb dL_isOn_27 (by decide) ?_
          refine f_div hx hb (by omega) (by omega) (by omega) dL_isOn_29 ?_
          refine lv_iload hx hb dL_isOn_30 (lv_at hl 5 rfl) ?_
          refine lv_icmp_ne hx hb (tgt := 37) dL_isOn_32 (by decide) (fun b32 => ?_) (fun b32 => ?_)
          · skip
            refine lv_iinc (v := nI (k + 1)) (lv' := [(6, .int (nI (k + 1))), (0, .ref lu), (1, .ref li), (2, .ref lt_), (3, .ref lc), (4, .int (nI who)), (5, .int dy)]) hx hb dL_isOn_37 hl (k := 6) rfl (ii_1 _) (by decide) rfl (fun ls hl => ?_)
            refine lv_goto (tgt := 3) hx hb dL_isOn_40 (by decide) ?_
            exact ih3 (k + 1) _ (by omega) (by omega) (by first | exact acI_n1 ha (of_decide_eq_false b20) | exact acI_n2 ha b32) (lv_sub hl [1, 2, 3, 4, 5, 6, 0] rfl)
          · skip
            refine lv_iconst (v := nI 1) hx hb dL_isOn_35 (by decide) ?_
            exact roRz hx hb hr hlocks (bT (acI_y (of_decide_eq_true b20) b32 (by omega))) dL_isOn_36
  exact key3 (n - 0 + 1) 0 _ (by omega) (Nat.zero_le _) rfl (lv_sub hl [1, 2, 3, 4, 5, 6, 0] rfl)

abbrev rm_L_many : Room := { frames := 1, cells := 0, slots := 0, locals := 23 }
set_option maxHeartbeats 8000000 in
set_option maxRecDepth 100000 in
theorem c_L_many (l : Launch) (D : va_G) (cI : ClassId) (lu : Nat) (li : Nat) (lc : Nat) (us : Nat → Nat) (ids : Nat → Nat) (tms : Nat → Nat) (ord : Nat → Nat) (n : Nat) (gp : Nat) (win : Nat) (cnt : Nat) (cl : Nat) (who : Nat) (hL : Lw us ids tms ord n) (hwho : who < 2 ^ 31) : Met l yL_many wsL_many rm_L_many (roP D (tI cI) [.ref lu, .ref li, .ref lc, .int (nI who)] [(lu, .inl (cI, 8, .inl (nF us))), (li, .inl (cI, 64, .inl (nF ids))), (lc, .inl (cI, 5, .inl (nF (cF n gp win cnt cl))))]) (QcRead (nI (mm us ids ord n who))) 0 0 (fun _ => False) := by
  refine roOf (cc := cL_many) (maxL := 6) (ret := (some .int)) (by decide) rfl (Nat.le_of_ble_eq_true rfl) ?_
  intro p e s m below meth c ls hx hb hml hown hts hr hlocks hP hK hZ hl
  have hown : s.vm.findClass RL = some m.cls := hown
  have hl : lv_has ls 6 [(0, .ref lu), (1, .ref li), (2, .ref lc), (3, .int (nI who))] := hl
  have hF : CallFix p m c cL_many 6 s [.ref lu, .ref li, .ref lc, .int (nI who)].toArray wsL_many RL := ⟨hx, hb, hml, hown, hts⟩
  have hI := hL.inv
  have hT := hL.ties
  have hn64 := hL.le
  refine lv_iconst (v := nI 0) hx hb dL_many_0 (by decide) ?_
  refine lv_istore (lv' := [(4, .int (nI 0)), (0, .ref lu), (1, .ref li), (2, .ref lc), (3, .int (nI who))]) hx hb dL_many_1 hl (by decide) rfl (fun ls hl => ?_)
  refine lv_iconst (v := nI 0) hx hb dL_many_3 (by decide) ?_
  refine lv_istore (lv' := [(5, .int (nI 0)), (4, .int (nI 0)), (0, .ref lu), (1, .ref li), (2, .ref lc), (3, .int (nI who))]) hx hb dL_many_4 hl (by decide) rfl (fun ls hl => ?_)
  have key6 : ∀ (fuel : Nat) (k : Nat) (x : Nat) (ls : Array Slot), n - k < fuel → (k ≤ n) → (x = fb_ct (pS us ids who) k) → lv_has ls 6 [(0, .ref lu), (1, .ref li), (2, .ref lc), (3, .int (nI who)), (4, .int (nI x)), (5, .int (nI k))] → W p l e rm_L_many s m [.ref lu, .ref li, .ref lc, .int (nI who)].toArray below meth c s.heap [] 0 0 (MQ below (QcRead (nI (mm us ids ord n who))) [.ref lu, .ref li, .ref lc, .int (nI who)].toArray s 0 0 (fun _ => False)) (F0 m 6 ls []) := by
    intro fuel
    induction fuel with
    | zero => intro k x ls hfu; exact absurd hfu (Nat.not_lt_zero _)
    | succ fuel ih6 =>
      intro k x ls hfu hk hx2 hl
      refine lv_iload hx hb dL_many_6 (lv_at hl 5 rfl) ?_
      refine lv_aload_n hx hb dL_many_8 rfl (lv_at hl 2 rfl) ?_
      refine lv_iconst (v := nI 0) hx hb dL_many_9 (by decide) ?_
      refine f_ald hx hb hK hP 2 0 rfl rfl (by omega) (by decide) dL_many_10 ?_
      refine f_to (y := nI n) rfl ?_
      refine f_ge hx hb (by omega) (by omega) (tgt := 41) dL_many_11 (by decide) (fun b11 => ?_) (fun b11 => ?_)
      · skip
        refine lv_iload hx hb dL_many_41 (lv_at hl 4 rfl) ?_
        exact roRi hx hb hr hlocks ((by rw [hx2, show k = n by omega, many_e hI])) dL_many_43
      · skip
        refine lv_iload hx hb dL_many_14 (lv_at hl 4 rfl) ?_
        refine lv_aload_n hx hb dL_many_16 rfl (lv_at hl 0 rfl) ?_
        refine lv_aload_n hx hb dL_many_17 rfl (lv_at hl 1 rfl) ?_
        refine lv_iload hx hb dL_many_18 (lv_at hl 5 rfl) ?_
        refine lv_iload_n hx hb dL_many_20 rfl (lv_at hl 3 rfl) ?_
        refine roC (va_runS (As := [.ref lu, .ref li, .int (nI k), .int (nI who)]) (rest := [.int (nI x)]) hF (c_L_isOf l D cI lu li us ids k who (by omega) (hL.id8 _) (hI.hus _) hwho) (va_cwS 4 hts gL_many_L_isOf rfl rfl rfl (by decide +kernel) ⟨Nat.le_of_ble_eq_true rfl, Nat.le_of_ble_eq_true rfl⟩) (roS hK hZ [0] rfl hP [0, 1] rfl) rfl rfl hl.1 rfl (lv_room (Nat.le_of_ble_eq_true rfl)) dL_many_21 ⟨Nat.le_of_ble_eq_true rfl, Nat.le_of_ble_eq_true rfl⟩) ?_
        refine f_beq hx hb (tgt := 31) dL_many_24 (by decide) (fun b24 => ?_) (fun b24 => ?_)
        · skip
          refine lv_iconst (v := nI 0) hx hb dL_many_31 (by decide) ?_
          refine f_add hx hb dL_many_32 ?_
          refine lv_istore (lv' := [(4, .int (nI (x + 0))), (0, .ref lu), (1, .ref li), (2, .ref lc), (3, .int (nI who)), (5, .int (nI k))]) hx hb dL_many_33 hl (by decide) rfl (fun ls hl => ?_)
          refine lv_iinc (v := nI (k + 1)) (lv' := [(5, .int (nI (k + 1))), (4, .int (nI (x + 0))), (0, .ref lu), (1, .ref li), (2, .ref lc), (3, .int (nI who))]) hx hb dL_many_35 hl (k := 5) rfl (ii_1 _) (by decide) rfl (fun ls hl => ?_)
          refine lv_goto (tgt := 6) hx hb dL_many_38 (by decide) ?_
          exact ih6 (k + 1) (x + 0) _ (by omega) (by omega) (by first | (rw [hx2]; exact (ct_y (decide_eq_true (of_decide_eq_true b24))).symm) | (rw [hx2]; exact (ct_n (decide_eq_false (of_decide_eq_false b24))).symm)) (lv_sub hl [2, 3, 4, 5, 1, 0] rfl)
        · skip
          refine lv_iconst (v := nI 1) hx hb dL_many_27 (by decide) ?_
          refine lv_goto (tgt := 32) hx hb dL_many_28 (by decide) ?_
          refine f_add hx hb dL_many_32 ?_
          refine lv_istore (lv' := [(4, .int (nI (x + 1))), (0, .ref lu), (1, .ref li), (2, .ref lc), (3, .int (nI who)), (5, .int (nI k))]) hx hb dL_many_33 hl (by decide) rfl (fun ls hl => ?_)
          refine lv_iinc (v := nI (k + 1)) (lv' := [(5, .int (nI (k + 1))), (4, .int (nI (x + 1))), (0, .ref lu), (1, .ref li), (2, .ref lc), (3, .int (nI who))]) hx hb dL_many_35 hl (k := 5) rfl (ii_1 _) (by decide) rfl (fun ls hl => ?_)
          refine lv_goto (tgt := 6) hx hb dL_many_38 (by decide) ?_
          exact ih6 (k + 1) (x + 1) _ (by omega) (by omega) (by first | (rw [hx2]; exact (ct_y (decide_eq_true (of_decide_eq_true b24))).symm) | (rw [hx2]; exact (ct_n (decide_eq_false (of_decide_eq_false b24))).symm)) (lv_sub hl [2, 3, 4, 5, 1, 0] rfl)
  exact key6 (n - 0 + 1) 0 0 _ (by omega) (Nat.zero_le _) rfl (lv_sub hl [2, 3, 4, 5, 1, 0] rfl)

