theorem nx_b {us ids tms ord : Nat → Nat} {n u i z : Nat} (hI : Inv us ids tms ord n) (h : nxE us ids ord n u i = some z) : z < n := by
  obtain ⟨h1, h2⟩ := nxE_s h
  rw [h2]
  exact (Em_lt hI h1).1

abbrev rm_L_sessions : Room := { frames := 2, cells := 0, slots := 0, locals := 51 }
abbrev q_L_sessions (D : va_G) (cI : ClassId) (lu : Nat) (li : Nat) (lt_ : Nat) (lc : Nat) (lo : Nat) (us : Nat → Nat) (ids : Nat → Nat) (tms : Nat → Nat) (ord : Nat → Nat) (n : Nat) (gp : Nat) (win : Nat) (cnt : Nat) (cl : Nat) (who : Nat) (ask : Int32) (fo : Nat → Int32) (A : Nat → Prop) : Array Value → State → Outcome → State → Prop := muQi D (fun (r : Int32) (uu : Unit) => r = nI (fb_ct (bs (tau us ids tms ord n who) gp) (mm us ids ord n who))) (fun (uu : Unit) => [(lu, .inl (cI, 8, .inl (nF us))), (li, .inl (cI, 64, .inl (nF ids))), (lt_, .inl (cI, 64, .inl (nF tms))), (lc, .inl (cI, 5, .inl (nF (cF n gp win cnt cl)))), (lo, .inl (cI, 3, .inl (soL ask (tau us ids tms ord n who) gp (upd fo 0 (nI 0)) (mm us ids ord n who))))]) A
set_option maxHeartbeats 8000000 in
set_option maxRecDepth 100000 in
theorem c_L_sessions (l : Launch) (D : va_G) (cI : ClassId) (lu : Nat) (li : Nat) (lt_ : Nat) (lc : Nat) (lo : Nat) (us : Nat → Nat) (ids : Nat → Nat) (tms : Nat → Nat) (ord : Nat → Nat) (n : Nat) (gp : Nat) (win : Nat) (cnt : Nat) (cl : Nat) (who : Nat) (ask : Int32) (fo : Nat → Int32) (sz : Nat) (hL : Lw us ids tms ord n) (hwho : who < 2 ^ 31) (hg : gp ≤ 500) : Met l yL_sessions wsL_sessions rm_L_sessions (muP D (tI cI) [.ref lu, .ref li, .ref lt_, .ref lc, .int (nI who), .int ask, .ref lo] [(lu, .inl (cI, 8, .inl (nF us))), (li, .inl (cI, 64, .inl (nF ids))), (lt_, .inl (cI, 64, .inl (nF tms))), (lc, .inl (cI, 5, .inl (nF (cF n gp win cnt cl)))), (lo, .inl (cI, 3, .inl fo))] sz) (q_L_sessions D cI lu li lt_ lc lo us ids tms ord n gp win cnt cl who ask fo (va_A [(lu, .inl (cI, 8, .inl (nF us))), (li, .inl (cI, 64, .inl (nF ids))), (lt_, .inl (cI, 64, .inl (nF tms))), (lc, .inl (cI, 5, .inl (nF (cF n gp win cnt cl)))), (lo, .inl (cI, 3, .inl fo))] sz)) 0 0 (va_A [(lu, .inl (cI, 8, .inl (nF us))), (li, .inl (cI, 64, .inl (nF ids))), (lt_, .inl (cI, 64, .inl (nF tms))), (lc, .inl (cI, 5, .inl (nF (cF n gp win cnt cl)))), (lo, .inl (cI, 3, .inl fo))] sz) := by
  refine muOf (Qc := fun A => q_L_sessions D cI lu li lt_ lc lo us ids tms ord n gp win cnt cl who ask fo A) (cc := cL_sessions) (maxL := 10) (ret := (some .int)) (by decide) rfl (Nat.le_of_ble_eq_true rfl) ?_
  intro p e s m below meth c ls A hx hb hml hown hts hr hlocks hnm hP hK hZ hD hA hS hl
  have hown : s.vm.findClass RL = some m.cls := hown
  have hl : lv_has ls 10 [(0, .ref lu), (1, .ref li), (2, .ref lt_), (3, .ref lc), (4, .int (nI who)), (5, .int ask), (6, .ref lo)] := hl
  have hF : CallFix p m c cL_sessions 10 s [.ref lu, .ref li, .ref lt_, .ref lc, .int (nI who), .int ask, .ref lo].toArray wsL_sessions RL := ⟨hx, hb, hml, hown, hts⟩
  have hI := hL.inv
  have hT := hL.ties
  have hn64 := hL.le
  have hmm := mm_le us ids ord n who
  refine lv_iconst (v := nI 0) hx hb dL_sessions_0 (by decide) ?_
  refine lv_istore (lv' := [(7, .int (nI 0)), (0, .ref lu), (1, .ref li), (2, .ref lt_), (3, .ref lc), (4, .int (nI who)), (5, .int ask), (6, .ref lo)]) hx hb dL_sessions_1 hl (by decide) rfl (fun ls hl => ?_)
  refine lv_iconst (v := (-1)) hx hb dL_sessions_3 (by decide) ?_
  refine f_to (y := oI none) rfl ?_
  refine lv_istore (lv' := [(8, .int (oI none)), (7, .int (nI 0)), (0, .ref lu), (1, .ref li), (2, .ref lt_), (3, .ref lc), (4, .int (nI who)), (5, .int ask), (6, .ref lo)]) hx hb dL_sessions_4 hl (by decide) rfl (fun ls hl => ?_)
  refine lv_aload hx hb dL_sessions_6 (lv_at hl 8 rfl) ?_
  refine lv_iconst (v := nI 0) hx hb dL_sessions_8 (by decide) ?_
  refine lv_iconst (v := nI 0) hx hb dL_sessions_9 (by decide) ?_
  refine f_astr hx hb hK hP hD hS 4 0 rfl rfl (by omega) (by decide) dL_sessions_10 (fun H locs hP hD hS => ?_)
  have hP : va_P D vwCl [(lu, .inl (cI, 8, .inl (nF us))), (li, .inl (cI, 64, .inl (nF ids))), (lt_, .inl (cI, 64, .inl (nF tms))), (lc, .inl (cI, 5, .inl (nF (cF n gp win cnt cl)))), (lo, .inl (cI, 3, .inl (upd fo 0 (nI 0))))] H := hP
  have hD : va_D A [(lu, .inl (cI, 8, .inl (nF us))), (li, .inl (cI, 64, .inl (nF ids))), (lt_, .inl (cI, 64, .inl (nF tms))), (lc, .inl (cI, 5, .inl (nF (cF n gp win cnt cl)))), (lo, .inl (cI, 3, .inl (upd fo 0 (nI 0))))] := hD
  refine lv_aload_n hx hb dL_sessions_11 rfl (lv_at hl 2 rfl) ?_
  refine lv_aload_n hx hb dL_sessions_12 rfl (lv_at hl 3 rfl) ?_
  refine lv_aload_n hx hb dL_sessions_13 rfl (lv_at hl 4 rfl) ?_
  refine lv_aload_n hx hb dL_sessions_14 rfl (lv_at hl 5 rfl) ?_
  refine lv_iload hx hb dL_sessions_15 (lv_at hl 6 rfl) ?_
  refine lv_iconst (v := (-1)) hx hb dL_sessions_17 (by decide) ?_
  refine roC (va_runS (As := [.ref lu, .ref li, .ref lt_, .ref lc, .int (nI who), .int (-1)]) (rest := []) hF (c_L_next_0 l D cI lu li lt_ lc us ids tms ord n gp win cnt cl who (by first | assumption | omega) (by first | assumption | omega)) (va_cwS 6 hts gL_sessions_L_next rfl rfl rfl (by decide +kernel) ⟨Nat.le_of_ble_eq_true rfl, Nat.le_of_ble_eq_true rfl⟩) (roS hK hZ [0] rfl hP [0, 1, 2, 3] rfl) rfl rfl hl.1 rfl (lv_room (Nat.le_of_ble_eq_true rfl)) dL_sessions_18 ⟨Nat.le_of_ble_eq_true rfl, Nat.le_of_ble_eq_true rfl⟩) ?_
  refine lv_istore (lv' := [(9, .int (oI (nxE us ids ord n who 0))), (8, .int (oI none)), (7, .int (nI 0)), (0, .ref lu), (1, .ref li), (2, .ref lt_), (3, .ref lc), (4, .int (nI who)), (5, .int ask), (6, .ref lo)]) hx hb dL_sessions_21 hl (by decide) rfl (fun ls hl => ?_)
  have key23 : ∀ (fuel : Nat) (i : Nat) (eo : Option Nat) (x : Nat) (la : Option Nat) (f1 : Nat → Int32) (H : Heap) (locs : List Loc) (ls : Array Slot), mm us ids ord n who + 1 - i < fuel → (i ≤ mm us ids ord n who) → (eo = nxE us ids ord n who i) → (x = fb_ct (bs (tau us ids tms ord n who) gp) i) → (la = if i = 0 then none else some (Em us ids ord n who (i - 1))) → (∀ z, la = some z → z < 64) → (f1 = soL ask (tau us ids tms ord n who) gp (upd fo 0 (nI 0)) i) → va_P D vwCl [(lu, .inl (cI, 8, .inl (nF us))), (li, .inl (cI, 64, .inl (nF ids))), (lt_, .inl (cI, 64, .inl (nF tms))), (lc, .inl (cI, 5, .inl (nF (cF n gp win cnt cl)))), (lo, .inl (cI, 3, .inl f1))] H → va_D A [(lu, .inl (cI, 8, .inl (nF us))), (li, .inl (cI, 64, .inl (nF ids))), (lt_, .inl (cI, 64, .inl (nF tms))), (lc, .inl (cI, 5, .inl (nF (cF n gp win cnt cl)))), (lo, .inl (cI, 3, .inl f1))] → va_S A s.heap H locs → lv_has ls 10 [(0, .ref lu), (1, .ref li), (2, .ref lt_), (3, .ref lc), (4, .int (nI who)), (5, .int ask), (6, .ref lo), (7, .int (nI x)), (8, .int (oI la)), (9, .int (oI eo))] → W p l e rm_L_sessions s m [.ref lu, .ref li, .ref lt_, .ref lc, .int (nI who), .int ask, .ref lo].toArray below meth c H locs 0 0 (MQ below (q_L_sessions D cI lu li lt_ lc lo us ids tms ord n gp win cnt cl who ask fo A) [.ref lu, .ref li, .ref lt_, .ref lc, .int (nI who), .int ask, .ref lo].toArray s 0 0 A) (F0 m 23 ls []) := by
    intro fuel
    induction fuel with
    | zero => intro i eo x la f1 H locs ls hfu; exact absurd hfu (Nat.not_lt_zero _)
    | succ fuel ih23 =>
      intro i eo x la f1 H locs ls hfu hi he hx2 hla hlb hf hP hD hS hl
      refine lv_iload hx hb dL_sessions_23 (lv_at hl 9 rfl) ?_
      refine f_olt hx hb (fun z hz => Nat.lt_of_lt_of_le (nx_b hI (he.symm.trans hz)) (by omega)) (tgt := 125) dL_sessions_25 (by decide) (fun b25 => ?_) (fun x25 b25 => ?_)
      · skip
        have hiM : i = mm us ids ord n who := Nat.le_antisymm hi (nxE_0 (he.symm.trans b25))
        rw [hf, hiM] at hP hD
        refine lv_iload hx hb dL_sessions_125 (lv_at hl 7 rfl) ?_
        exact muRi hx hb hr hlocks () ((by rw [hx2, hiM])) hP hD hS dL_sessions_127
      · skip
        subst b25
        have hP : va_P D vwCl [(lu, .inl (cI, 8, .inl (nF us))), (li, .inl (cI, 64, .inl (nF ids))), (lt_, .inl (cI, 64, .inl (nF tms))), (lc, .inl (cI, 5, .inl (nF (cF n gp win cnt cl)))), (lo, .inl (cI, 3, .inl f1))] H := hP
        have hD : va_D A [(lu, .inl (cI, 8, .inl (nF us))), (li, .inl (cI, 64, .inl (nF ids))), (lt_, .inl (cI, 64, .inl (nF tms))), (lc, .inl (cI, 5, .inl (nF (cF n gp win cnt cl)))), (lo, .inl (cI, 3, .inl f1))] := hD
        have hl : lv_has ls 10 [(0, .ref lu), (1, .ref li), (2, .ref lt_), (3, .ref lc), (4, .int (nI who)), (5, .int ask), (6, .ref lo), (7, .int (nI x)), (8, .int (oI la)), (9, .int (nI x25))] := hl
        obtain ⟨hi1, hee⟩ := nxE_s he.symm
        have hel := (Em_lt hI hi1).1
        rw [← hee] at hel
        have hte := hI.htm x25
        have htu : tms x25 = tau us ids tms ord n who i := by rw [hee]
        have hctl := fb_ct_le (bs (tau us ids tms ord n who) gp) i
        have key75 : ∀ (x2 : Nat) (f2 : Nat → Int32) (H : Heap) (locs : List Loc) (ls : Array Slot), (x2 = fb_ct (bs (tau us ids tms ord n who) gp) (i + 1)) → (f2 = so1 ((bs (tau us ids tms ord n who) gp) i) ask (fb_ct (bs (tau us ids tms ord n who) gp) i) (tau us ids tms ord n who i) (soL ask (tau us ids tms ord n who) gp (upd fo 0 (nI 0)) i)) → va_P D vwCl [(lu, .inl (cI, 8, .inl (nF us))), (li, .inl (cI, 64, .inl (nF ids))), (lt_, .inl (cI, 64, .inl (nF tms))), (lc, .inl (cI, 5, .inl (nF (cF n gp win cnt cl)))), (lo, .inl (cI, 3, .inl f2))] H → va_D A [(lu, .inl (cI, 8, .inl (nF us))), (li, .inl (cI, 64, .inl (nF ids))), (lt_, .inl (cI, 64, .inl (nF tms))), (lc, .inl (cI, 5, .inl (nF (cF n gp win cnt cl)))), (lo, .inl (cI, 3, .inl f2))] → va_S A s.heap H locs → lv_has ls 10 [(0, .ref lu), (1, .ref li), (2, .ref lt_), (3, .ref lc), (4, .int (nI who)), (5, .int ask), (6, .ref lo), (7, .int (nI x2)), (8, .int (oI la)), (9, .int (nI x25))] → W p l e rm_L_sessions s m [.ref lu, .ref li, .ref lt_, .ref lc, .int (nI who), .int ask, .ref lo].toArray below meth c H locs 0 0 (MQ below (q_L_sessions D cI lu li lt_ lc lo us ids tms ord n gp win cnt cl who ask fo A) [.ref lu, .ref li, .ref lt_, .ref lc, .int (nI who), .int ask, .ref lo].toArray s 0 0 A) (F0 m 75 ls []) := by
          intro x2 f2 H locs ls hx3 hf3 hP hD hS hl
          have hx1 : 1 ≤ x2 := by rw [hx3]; exact bs_first (by omega)
          have hx4 : x2 ≤ 64 + 1 := by rw [hx3]; exact Nat.le_trans (fb_ct_le _ _) (by omega)
          have key105 : ∀ (f4 : Nat → Int32) (H : Heap) (locs : List Loc) (ls : Array Slot), (f4 = so2 ask (fb_ct (bs (tau us ids tms ord n who) gp) (i + 1) - 1) (tau us ids tms ord n who i) (so1 ((bs (tau us ids tms ord n who) gp) i) ask (fb_ct (bs (tau us ids tms ord n who) gp) i) (tau us ids tms ord n who i) (soL ask (tau us ids tms ord n who) gp (upd fo 0 (nI 0)) i))) → va_P D vwCl [(lu, .inl (cI, 8, .inl (nF us))), (li, .inl (cI, 64, .inl (nF ids))), (lt_, .inl (cI, 64, .inl (nF tms))), (lc, .inl (cI, 5, .inl (nF (cF n gp win cnt cl)))), (lo, .inl (cI, 3, .inl f4))] H → va_D A [(lu, .inl (cI, 8, .inl (nF us))), (li, .inl (cI, 64, .inl (nF ids))), (lt_, .inl (cI, 64, .inl (nF tms))), (lc, .inl (cI, 5, .inl (nF (cF n gp win cnt cl)))), (lo, .inl (cI, 3, .inl f4))] → va_S A s.heap H locs → lv_has ls 10 [(0, .ref lu), (1, .ref li), (2, .ref lt_), (3, .ref lc), (4, .int (nI who)), (5, .int ask), (6, .ref lo), (7, .int (nI x2)), (8, .int (oI la)), (9, .int (nI x25))] → W p l e rm_L_sessions s m [.ref lu, .ref li, .ref lt_, .ref lc, .int (nI who), .int ask, .ref lo].toArray below meth c H locs 0 0 (MQ below (q_L_sessions D cI lu li lt_ lc lo us ids tms ord n gp win cnt cl who ask fo A) [.ref lu, .ref li, .ref lt_, .ref lc, .int (nI who), .int ask, .ref lo].toArray s 0 0 A) (F0 m 105 ls []) := by
            intro f4 H locs ls hf4 hP hD hS hl
            refine lv_iload hx hb dL_sessions_105 (lv_at hl 9 rfl) ?_
            refine lv_istore (lv' := [(8, .int (nI x25)), (0, .ref lu), (1, .ref li), (2, .ref lt_), (3, .ref lc), (4, .int (nI who)), (5, .int ask), (6, .ref lo), (7, .int (nI x2)), (9, .int (nI x25))]) hx hb dL_sessions_107 hl (by decide) rfl (fun ls hl => ?_)
            refine lv_aload_n hx hb dL_sessions_109 rfl (lv_at hl 1 rfl) ?_
            refine lv_aload_n hx hb dL_sessions_110 rfl (lv_at hl 2 rfl) ?_
            refine lv_aload_n hx hb dL_sessions_111 rfl (lv_at hl 3 rfl) ?_
            refine lv_aload_n hx hb dL_sessions_112 rfl (lv_at hl 4 rfl) ?_
            refine lv_iload hx hb dL_sessions_113 (lv_at hl 5 rfl) ?_
            refine lv_iload hx hb dL_sessions_115 (lv_at hl 9 rfl) ?_
            refine roC (va_runS (As := [.ref lu, .ref li, .ref lt_, .ref lc, .int (nI who), .int (nI x25)]) (rest := []) hF (c_L_next_1 l D cI lu li lt_ lc us ids tms ord n gp win cnt cl who x25 i hL hwho (by first | assumption | omega) (by first | assumption | omega)) (va_cwS 6 hts gL_sessions_L_next rfl rfl rfl (by decide +kernel) ⟨Nat.le_of_ble_eq_true rfl, Nat.le_of_ble_eq_true rfl⟩) (roS hK hZ [0] rfl hP [0, 1, 2, 3] rfl) rfl rfl hl.1 rfl (lv_room (Nat.le_of_ble_eq_true rfl)) dL_sessions_117 ⟨Nat.le_of_ble_eq_true rfl, Nat.le_of_ble_eq_true rfl⟩) ?_
            refine lv_istore (lv' := [(9, .int (oI (nxE us ids ord n who (i + 1)))), (8, .int (nI x25)), (0, .ref lu), (1, .ref li), (2, .ref lt_), (3, .ref lc), (4, .int (nI who)), (5, .int ask), (6, .ref lo), (7, .int (nI x2))]) hx hb dL_sessions_120 hl (by decide) rfl (fun ls hl => ?_)
            refine lv_goto (tgt := 23) hx hb dL_sessions_122 (by decide) ?_
            exact ih23 (i + 1) (nxE us ids ord n who (i + 1)) x2 (some x25) f4 _ _ _ (by omega) (by omega) rfl hx3 (by rw [if_neg (by omega), Nat.add_sub_cancel, ← hee]) (fun z h => by cases h; omega) (by rw [hf4]; rfl) hP hD hS (lv_sub hl [2, 3, 4, 5, 6, 7, 8, 9, 1, 0] rfl)
          refine lv_iload hx hb dL_sessions_75 (lv_at hl 7 rfl) ?_
          refine lv_iconst (v := nI 1) hx hb dL_sessions_77 (by decide) ?_
          refine f_sub hx hb hx1 dL_sessions_78 ?_
          refine lv_iload hx hb dL_sessions_79 (lv_at hl 5 rfl) ?_
          refine lv_icmp_ne hx hb (tgt := 105) dL_sessions_81 (by decide) (fun b81 => ?_) (fun b81 => ?_)
          · skip
            exact key105 f2 _ _ _  (by first | (rw [so2_y (by rw [← hx3]; exact b81), ← hf3, ← htu]; done) | (rw [so2_n (by rw [← hx3]; exact b81), ← hf3]; done)) hP hD hS (lv_sub hl [0, 1, 2, 3, 4, 5, 6, 7, 8, 9] rfl)
          · skip
            refine lv_aload hx hb dL_sessions_84 (lv_at hl 6 rfl) ?_
            refine lv_iconst (v := nI 0) hx hb dL_sessions_86 (by decide) ?_
            refine lv_dup2_11 hx hb dL_sessions_87 rfl rfl ?_
            refine f_aldr hx hb hK hP 4 0 rfl rfl (by omega) (by decide) dL_sessions_88 ?_
            refine lv_iconst (v := nI 1) hx hb dL_sessions_89 (by decide) ?_
            refine lv_iadd hx hb dL_sessions_90 ?_
            refine f_astr hx hb hK hP hD hS 4 0 rfl rfl (by omega) (by decide) dL_sessions_91 (fun H locs hP hD hS => ?_)
            have hP : va_P D vwCl [(lu, .inl (cI, 8, .inl (nF us))), (li, .inl (cI, 64, .inl (nF ids))), (lt_, .inl (cI, 64, .inl (nF tms))), (lc, .inl (cI, 5, .inl (nF (cF n gp win cnt cl)))), (lo, .inl (cI, 3, .inl (upd f2 0 ((f2 0) + (nI 1)))))] H := hP
            have hD : va_D A [(lu, .inl (cI, 8, .inl (nF us))), (li, .inl (cI, 64, .inl (nF ids))), (lt_, .inl (cI, 64, .inl (nF tms))), (lc, .inl (cI, 5, .inl (nF (cF n gp win cnt cl)))), (lo, .inl (cI, 3, .inl (upd f2 0 ((f2 0) + (nI 1)))))] := hD
            refine lv_aload hx hb dL_sessions_92 (lv_at hl 6 rfl) ?_
            refine lv_iconst (v := nI 2) hx hb dL_sessions_94 (by decide) ?_
            refine lv_aload_n hx hb dL_sessions_95 rfl (lv_at hl 2 rfl) ?_
            refine lv_iload hx hb dL_sessions_96 (lv_at hl 9 rfl) ?_
            refine f_ald hx hb hK hP 2 0 rfl rfl (by omega) (by decide) dL_sessions_98 ?_
            refine lv_aload hx hb dL_sessions_99 (lv_at hl 6 rfl) ?_
            refine lv_iconst (v := nI 1) hx hb dL_sessions_101 (by decide) ?_
            refine f_aldr hx hb hK hP 4 0 rfl rfl (by omega) (by decide) dL_sessions_102 ?_
            refine lv_isub hx hb dL_sessions_103 ?_
            refine f_astr hx hb hK hP hD hS 4 0 rfl rfl (by omega) (by decide) dL_sessions_104 (fun H locs hP hD hS => ?_)
            have hP : va_P D vwCl [(lu, .inl (cI, 8, .inl (nF us))), (li, .inl (cI, 64, .inl (nF ids))), (lt_, .inl (cI, 64, .inl (nF tms))), (lc, .inl (cI, 5, .inl (nF (cF n gp win cnt cl)))), (lo, .inl (cI, 3, .inl (upd (upd f2 0 ((f2 0) + (nI 1))) 2 ((nI (tms x25)) - ((upd f2 0 ((f2 0) + (nI 1))) 1)))))] H := hP
            have hD : va_D A [(lu, .inl (cI, 8, .inl (nF us))), (li, .inl (cI, 64, .inl (nF ids))), (lt_, .inl (cI, 64, .inl (nF tms))), (lc, .inl (cI, 5, .inl (nF (cF n gp win cnt cl)))), (lo, .inl (cI, 3, .inl (upd (upd f2 0 ((f2 0) + (nI 1))) 2 ((nI (tms x25)) - ((upd f2 0 ((f2 0) + (nI 1))) 1)))))] := hD
            exact key105 (upd (upd f2 0 ((f2 0) + (nI 1))) 2 ((nI (tms x25)) - ((upd f2 0 ((f2 0) + (nI 1))) 1))) _ _ _  (by first | (rw [so2_y (by rw [← hx3]; exact b81), ← hf3, ← htu]; done) | (rw [so2_n (by rw [← hx3]; exact b81), ← hf3]; done)) hP hD hS (lv_sub hl [0, 1, 2, 3, 4, 5, 6, 7, 8, 9] rfl)
        refine lv_iload hx hb dL_sessions_28 (lv_at hl 8 rfl) ?_
        refine f_olt hx hb (fun z hz => Nat.lt_trans (hlb z hz) (by decide)) (tgt := 48) dL_sessions_30 (by decide) (fun b30 => ?_) (fun x30 b30 => ?_)
        · skip
          have hbs : (bs (tau us ids tms ord n who) gp) i = true := by first | exact bs_0 (Classical.byContradiction fun q => by rw [if_neg q, b30] at hla; cases hla) | exact bs_t (ta := tau us ids tms ord n who) (hI.htm _) (hI.htm _) hg (by rw [← htu, ← htl]; exact b45)
          refine lv_iinc (v := nI (x + 1)) (lv' := [(7, .int (nI (x + 1))), (0, .ref lu), (1, .ref li), (2, .ref lt_), (3, .ref lc), (4, .int (nI who)), (5, .int ask), (6, .ref lo), (8, .int (oI la)), (9, .int (nI x25))]) hx hb dL_sessions_48 hl (k := 7) rfl (ii_1 _) (by decide) rfl (fun ls hl => ?_)
          refine lv_aload hx hb dL_sessions_51 (lv_at hl 7 rfl) ?_
          refine lv_iconst (v := nI 1) hx hb dL_sessions_53 (by decide) ?_
          refine lv_iload hx hb dL_sessions_54 (lv_at hl 0 rfl) ?_
          refine lv_iconst (v := nI 1) hx hb dL_sessions_56 (by decide) ?_
          refine f_sub hx hb (Nat.le_add_left _ _) dL_sessions_57 ?_
          refine f_to (y := nI x) (by rw [Nat.add_sub_cancel]) ?_
          refine lv_iload hx hb dL_sessions_58 (lv_at hl 6 rfl) ?_
          refine lv_icmp_ne hx hb (tgt := 70) dL_sessions_60 (by decide) (fun b60 => ?_) (fun b60 => ?_)
          · skip
            refine lv_aload hx hb dL_sessions_70 (lv_at hl 7 rfl) ?_
            refine lv_iconst (v := nI 1) hx hb dL_sessions_72 (by decide) ?_
            refine f_aldr hx hb hK hP 4 0 rfl rfl (by omega) (by decide) dL_sessions_73 ?_
            refine f_astr hx hb hK hP hD hS 4 0 rfl rfl (by omega) (by decide) dL_sessions_74 (fun H locs hP hD hS => ?_)
            have hP : va_P D vwCl [(lu, .inl (cI, 8, .inl (nF us))), (li, .inl (cI, 64, .inl (nF ids))), (lt_, .inl (cI, 64, .inl (nF tms))), (lc, .inl (cI, 5, .inl (nF (cF n gp win cnt cl)))), (lo, .inl (cI, 3, .inl (upd f1 1 (f1 1))))] H := hP
            have hD : va_D A [(lu, .inl (cI, 8, .inl (nF us))), (li, .inl (cI, 64, .inl (nF ids))), (lt_, .inl (cI, 64, .inl (nF tms))), (lc, .inl (cI, 5, .inl (nF (cF n gp win cnt cl)))), (lo, .inl (cI, 3, .inl (upd f1 1 (f1 1))))] := hD
            exact key75 (x + 1) (upd f1 1 (f1 1)) _ _ _  (by first | (rw [hx2]; exact (ct_y hbs).symm) | (rw [hx2]; exact (ct_n (bs_f (ta := tau us ids tms ord n who) hi0 (hI.htm _) (hI.htm _) hg (by rw [← htu, ← htl]; exact b45))).symm)) (by first | (rw [so1_y hbs (by rw [← hx2]; exact b60), ← hf, ← htu]; done) | (rw [so1_z hbs (by rw [← hx2]; exact b60), ← hf]; done) | (rw [so1_n (bs_f (ta := tau us ids tms ord n who) hi0 (hI.htm _) (hI.htm _) hg (by rw [← htu, ← htl]; exact b45)), ← hf]; done)) hP hD hS (lv_sub hl [1, 2, 3, 4, 5, 6, 7, 0, 8, 9] rfl)
          · skip
            refine lv_aload_n hx hb dL_sessions_63 rfl (lv_at hl 3 rfl) ?_
            refine lv_iload hx hb dL_sessions_64 (lv_at hl 9 rfl) ?_
            refine f_ald hx hb hK hP 2 0 rfl rfl (by omega) (by decide) dL_sessions_66 ?_
            refine lv_goto (tgt := 74) hx hb dL_sessions_67 (by decide) ?_
            refine f_astr hx hb hK hP hD hS 4 0 rfl rfl (by omega) (by decide) dL_sessions_74 (fun H locs hP hD hS => ?_)
            have hP : va_P D vwCl [(lu, .inl (cI, 8, .inl (nF us))), (li, .inl (cI, 64, .inl (nF ids))), (lt_, .inl (cI, 64, .inl (nF tms))), (lc, .inl (cI, 5, .inl (nF (cF n gp win cnt cl)))), (lo, .inl (cI, 3, .inl (upd f1 1 (nI (tms x25)))))] H := hP
            have hD : va_D A [(lu, .inl (cI, 8, .inl (nF us))), (li, .inl (cI, 64, .inl (nF ids))), (lt_, .inl (cI, 64, .inl (nF tms))), (lc, .inl (cI, 5, .inl (nF (cF n gp win cnt cl)))), (lo, .inl (cI, 3, .inl (upd f1 1 (nI (tms x25)))))] := hD
            exact key75 (x + 1) (upd f1 1 (nI (tms x25))) _ _ _  (by first | (rw [hx2]; exact (ct_y hbs).symm) | (rw [hx2]; exact (ct_n (bs_f (ta := tau us ids tms ord n who) hi0 (hI.htm _) (hI.htm _) hg (by rw [← htu, ← htl]; exact b45))).symm)) (by first | (rw [so1_y hbs (by rw [← hx2]; exact b60), ← hf, ← htu]; done) | (rw [so1_z hbs (by rw [← hx2]; exact b60), ← hf]; done) | (rw [so1_n (bs_f (ta := tau us ids tms ord n who) hi0 (hI.htm _) (hI.htm _) hg (by rw [← htu, ← htl]; exact b45)), ← hf]; done)) hP hD hS (lv_sub hl [1, 2, 3, 4, 5, 6, 7, 0, 8, 9] rfl)
        · skip
          subst b30
          have hP : va_P D vwCl [(lu, .inl (cI, 8, .inl (nF us))), (li, .inl (cI, 64, .inl (nF ids))), (lt_, .inl (cI, 64, .inl (nF tms))), (lc, .inl (cI, 5, .inl (nF (cF n gp win cnt cl)))), (lo, .inl (cI, 3, .inl f1))] H := hP
          have hD : va_D A [(lu, .inl (cI, 8, .inl (nF us))), (li, .inl (cI, 64, .inl (nF ids))), (lt_, .inl (cI, 64, .inl (nF tms))), (lc, .inl (cI, 5, .inl (nF (cF n gp win cnt cl)))), (lo, .inl (cI, 3, .inl f1))] := hD
          have hl : lv_has ls 10 [(0, .ref lu), (1, .ref li), (2, .ref lt_), (3, .ref lc), (4, .int (nI who)), (5, .int ask), (6, .ref lo), (7, .int (nI x)), (8, .int (nI x30)), (9, .int (nI x25))] := hl
          have hi0 : 0 < i := Nat.pos_of_ne_zero (fun q => by rw [if_pos q] at hla; cases hla)
          have hlx : x30 = Em us ids ord n who (i - 1) := by rw [if_neg (by omega)] at hla; cases hla; rfl
          have hll : x30 < n := by rw [hlx]; exact (Em_lt hI (by omega)).1
          have htl : tms x30 = tau us ids tms ord n who (i - 1) := by rw [hlx]
          have htl2 := hI.htm x30
          refine lv_aload_n hx hb dL_sessions_33 rfl (lv_at hl 2 rfl) ?_
          refine lv_iload hx hb dL_sessions_34 (lv_at hl 9 rfl) ?_
          refine f_ald hx hb hK hP 2 0 rfl rfl (by omega) (by decide) dL_sessions_36 ?_
          refine lv_aload_n hx hb dL_sessions_37 rfl (lv_at hl 2 rfl) ?_
          refine lv_iload hx hb dL_sessions_38 (lv_at hl 8 rfl) ?_
          refine f_ald hx hb hK hP 2 0 rfl rfl (by omega) (by decide) dL_sessions_40 ?_
          refine lv_isub hx hb dL_sessions_41 ?_
          refine lv_aload_n hx hb dL_sessions_42 rfl (lv_at hl 3 rfl) ?_
          refine lv_iconst (v := nI 1) hx hb dL_sessions_43 (by decide) ?_
          refine f_ald hx hb hK hP 3 0 rfl rfl (by omega) (by decide) dL_sessions_44 ?_
          refine f_to (y := nI gp) rfl ?_
          refine lv_icmp_le hx hb (tgt := 75) dL_sessions_45 (by decide) (fun b45 => ?_) (fun b45 => ?_)
          · skip
            exact key75 x f1 _ _ _  (by first | (rw [hx2]; exact (ct_y hbs).symm) | (rw [hx2]; exact (ct_n (bs_f (ta := tau us ids tms ord n who) hi0 (hI.htm _) (hI.htm _) hg (by rw [← htu, ← htl]; exact b45))).symm)) (by first | (rw [so1_y hbs (by rw [← hx2]; exact b60), ← hf, ← htu]; done) | (rw [so1_z hbs (by rw [← hx2]; exact b60), ← hf]; done) | (rw [so1_n (bs_f (ta := tau us ids tms ord n who) hi0 (hI.htm _) (hI.htm _) hg (by rw [← htu, ← htl]; exact b45)), ← hf]; done)) hP hD hS (lv_sub hl [0, 1, 2, 3, 4, 5, 6, 7, 8, 9] rfl)
          · skip
            have hbs : (bs (tau us ids tms ord n who) gp) i = true := by first | exact bs_0 (Classical.byContradiction fun q => by rw [if_neg q, b30] at hla; cases hla) | exact bs_t (ta := tau us ids tms ord n who) (hI.htm _) (hI.htm _) hg (by rw [← htu, ← htl]; exact b45)
            refine lv_iinc (v := nI (x + 1)) (lv' := [(7, .int (nI (x + 1))), (0, .ref lu), (1, .ref li), (2, .ref lt_), (3, .ref lc), (4, .int (nI who)), (5, .int ask), (6, .ref lo), (8, .int (nI x30)), (9, .int (nI x25))]) hx hb dL_sessions_48 hl (k := 7) rfl (ii_1 _) (by decide) rfl (fun ls hl => ?_)
            refine lv_aload hx hb dL_sessions_51 (lv_at hl 7 rfl) ?_
            refine lv_iconst (v := nI 1) hx hb dL_sessions_53 (by decide) ?_
            refine lv_iload hx hb dL_sessions_54 (lv_at hl 0 rfl) ?_
            refine lv_iconst (v := nI 1) hx hb dL_sessions_56 (by decide) ?_
            refine f_sub hx hb (Nat.le_add_left _ _) dL_sessions_57 ?_
            refine f_to (y := nI x) (by rw [Nat.add_sub_cancel]) ?_
            refine lv_iload hx hb dL_sessions_58 (lv_at hl 6 rfl) ?_
            refine lv_icmp_ne hx hb (tgt := 70) dL_sessions_60 (by decide) (fun b60 => ?_) (fun b60 => ?_)
            · skip
              refine lv_aload hx hb dL_sessions_70 (lv_at hl 7 rfl) ?_
              refine lv_iconst (v := nI 1) hx hb dL_sessions_72 (by decide) ?_
              refine f_aldr hx hb hK hP 4 0 rfl rfl (by omega) (by decide) dL_sessions_73 ?_
              refine f_astr hx hb hK hP hD hS 4 0 rfl rfl (by omega) (by decide) dL_sessions_74 (fun H locs hP hD hS => ?_)
              have hP : va_P D vwCl [(lu, .inl (cI, 8, .inl (nF us))), (li, .inl (cI, 64, .inl (nF ids))), (lt_, .inl (cI, 64, .inl (nF tms))), (lc, .inl (cI, 5, .inl (nF (cF n gp win cnt cl)))), (lo, .inl (cI, 3, .inl (upd f1 1 (f1 1))))] H := hP
              have hD : va_D A [(lu, .inl (cI, 8, .inl (nF us))), (li, .inl (cI, 64, .inl (nF ids))), (lt_, .inl (cI, 64, .inl (nF tms))), (lc, .inl (cI, 5, .inl (nF (cF n gp win cnt cl)))), (lo, .inl (cI, 3, .inl (upd f1 1 (f1 1))))] := hD
              exact key75 (x + 1) (upd f1 1 (f1 1)) _ _ _  (by first | (rw [hx2]; exact (ct_y hbs).symm) | (rw [hx2]; exact (ct_n (bs_f (ta := tau us ids tms ord n who) hi0 (hI.htm _) (hI.htm _) hg (by rw [← htu, ← htl]; exact b45))).symm)) (by first | (rw [so1_y hbs (by rw [← hx2]; exact b60), ← hf, ← htu]; done) | (rw [so1_z hbs (by rw [← hx2]; exact b60), ← hf]; done) | (rw [so1_n (bs_f (ta := tau us ids tms ord n who) hi0 (hI.htm _) (hI.htm _) hg (by rw [← htu, ← htl]; exact b45)), ← hf]; done)) hP hD hS (lv_sub hl [1, 2, 3, 4, 5, 6, 7, 0, 8, 9] rfl)
            · skip
              refine lv_aload_n hx hb dL_sessions_63 rfl (lv_at hl 3 rfl) ?_
              refine lv_iload hx hb dL_sessions_64 (lv_at hl 9 rfl) ?_
              refine f_ald hx hb hK hP 2 0 rfl rfl (by omega) (by decide) dL_sessions_66 ?_
              refine lv_goto (tgt := 74) hx hb dL_sessions_67 (by decide) ?_
              refine f_astr hx hb hK hP hD hS 4 0 rfl rfl (by omega) (by decide) dL_sessions_74 (fun H locs hP hD hS => ?_)
              have hP : va_P D vwCl [(lu, .inl (cI, 8, .inl (nF us))), (li, .inl (cI, 64, .inl (nF ids))), (lt_, .inl (cI, 64, .inl (nF tms))), (lc, .inl (cI, 5, .inl (nF (cF n gp win cnt cl)))), (lo, .inl (cI, 3, .inl (upd f1 1 (nI (tms x25)))))] H := hP
              have hD : va_D A [(lu, .inl (cI, 8, .inl (nF us))), (li, .inl (cI, 64, .inl (nF ids))), (lt_, .inl (cI, 64, .inl (nF tms))), (lc, .inl (cI, 5, .inl (nF (cF n gp win cnt cl)))), (lo, .inl (cI, 3, .inl (upd f1 1 (nI (tms x25)))))] := hD
              exact key75 (x + 1) (upd f1 1 (nI (tms x25))) _ _ _  (by first | (rw [hx2]; exact (ct_y hbs).symm) | (rw [hx2]; exact (ct_n (bs_f (ta := tau us ids tms ord n who) hi0 (hI.htm _) (hI.htm _) hg (by rw [← htu, ← htl]; exact b45))).symm)) (by first | (rw [so1_y hbs (by rw [← hx2]; exact b60), ← hf, ← htu]; done) | (rw [so1_z hbs (by rw [← hx2]; exact b60), ← hf]; done) | (rw [so1_n (bs_f (ta := tau us ids tms ord n who) hi0 (hI.htm _) (hI.htm _) hg (by rw [← htu, ← htl]; exact b45)), ← hf]; done)) hP hD hS (lv_sub hl [1, 2, 3, 4, 5, 6, 7, 0, 8, 9] rfl)
  exact key23 (mm us ids ord n who + 1 - 0 + 1) 0 (nxE us ids ord n who 0) 0 none (upd fo 0 (nI 0)) _ _ _ (by omega) (Nat.zero_le _) rfl rfl rfl (fun z h => nomatch h) rfl hP hD hS (lv_sub hl [3, 4, 5, 6, 7, 8, 9, 2, 1, 0] rfl)

