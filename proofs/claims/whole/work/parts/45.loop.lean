theorem and31 (x : Int32) : ∃ k : Nat, k < 32 ∧ x &&& nI 31 = nI k := by
  refine ⟨x.toBitVec.toNat % 32, Nat.mod_lt _ (by decide), b_ext (fun i hi => ?_)⟩
  have t1 : (x.toBitVec.toNat % 32).testBit i = (decide (i < 5) && x.toBitVec.toNat.testBit i) := Nat.testBit_mod_two_pow x.toBitVec.toNat 5 i
  have t2 : (31 : Nat).testBit i = decide (i < 5) := Nat.testBit_two_pow_sub_one 5 i
  have t3 : bt x i = x.toBitVec.toNat.testBit i := rfl
  rw [b_and, bt_nI, bt_nI, t1, t2, t3]
  by_cases h5 : i < 5 <;> simp [h5, hi]
set_option maxHeartbeats 8000000 in
set_option maxRecDepth 100000 in
theorem law_loop {p : Program} {l : Launch} {e : Env} {s : State} {m : MethodId} {below : List Frame} {meth : Method} {c : Code} {D : va_G} {A : Nat → Prop} {cI cL : ClassId} {bA L : Nat} {xs : Nat → Int32} {h au al af ad at_ as_ ai ak am ao fs fl da dn db tn tk tt ou xo xu xi xk xt xr xs_ xa xn xb xw xg : Nat} (F : lwFix p l s m c D A cI cL bA L xs) (hr : meth.sig.returnType = ret) (hlocks : meth.locks = false) (hAf : ∀ q, A q → s.heap.size ≤ q) :
    ∀ (fuel iC cells slots : Nat), L + 4 < iC + fuel → iC ≤ L → 4 * cells ≤ 240 + iC → 4 * slots ≤ 20000 + 6 * iC → ∀ (H : Heap) (locs : List Loc) (ls : Array Slot), LI D A cI cL h au al af ad at_ as_ ai ak am ao fs fl da dn db tn tk tt ou xo xu xi xk xt xr xs_ xa xn xb xw xg H → va_S A s.heap H locs → lv_has ls 7 [(0, .ref bA), (1, .ref h), (2, .ref xo), (3, .ref ou), (4, .int (nI iC))] → W p l e room_1 s m #[Value.ref bA] below meth c H locs cells slots (lw_Z below #[Value.ref bA] s) (F0 m 23 ls []) := by
  obtain ⟨hfl, hx, hb, hml, hown, hts, hX, hbl, hA, hbA, hK, hZ, hT, hN, hL⟩ := id F
  intro fuel
  induction fuel with
  | zero => intro iC cells slots h1 h2; exact absurd h1 (by omega)
  | succ fuel ih =>
    intro iC cells slots h1 h2 hc hs H locs ls hI hS hl
    refine lv_iload hx hb dL_law_23 (lv_at hl 4 rfl) ?_
    refine lv_aload_n hx hb dL_law_25 rfl (lv_at hl 0 rfl) ?_
    refine va_slen hx hb hX hbl hbA hS dL_law_26 ?_
    refine lv_iconst (v := nI 4) hx hb dL_law_27 (by decide) ?_
    refine lv_isub hx hb dL_law_28 ?_
    refine lv_icmp_gt (tgt := 1672) hx hb dL_law_29 (by decide) (fun _ => ?_) (fun h3 => ?_)
    · refine lv_iconst (v := 1) hx hb dL_law_1672 (by decide) ?_
      refine va_forget (fun q hq => hAf _ (hS.2.2 q hq)) ?_
      refine W.widen (k := 1063) (n := 11729) (by omega) (by omega) ?_
      exact lw_ret hx hb hr hlocks dL_law_1673
    · have hi : iC + 3 < L := by
        have h4 : ¬ nI L - nI 4 < nI iC := h3
        rw [Int32.lt_iff_toInt_lt, pk_sub_toInt (by omega) (by decide), nI_toInt (by omega)] at h4
        omega
      have kk : ∀ (H : Heap) (locs : List Loc) (ls : Array Slot), LI D A cI cL h au al af ad at_ as_ ai ak am ao fs fl da dn db tn tk tt ou xo xu xi xk xt xr xs_ xa xn xb xw xg H → va_S A s.heap H locs → lv_has ls 7 [(0, .ref bA), (1, .ref h), (2, .ref xo), (3, .ref ou), (4, .int (nI iC))] → W p l e room_1 s m #[Value.ref bA] below meth c H locs (cells + 1) (slots + 6) (lw_Z below #[Value.ref bA] s) (F0 m 1666 ls []) := by
        intro H locs ls hI hS hl
        refine lv_iinc (v := nI (iC + 4)) (lv' := [(4, .int (nI (iC + 4))), (0, .ref bA), (1, .ref h), (2, .ref xo), (3, .ref ou)]) hx hb dL_law_1666 hl (k := 4) rfl (ii_4 _) (by decide) rfl (fun ls hl => ?_)
        refine lv_goto (tgt := 23) hx hb dL_law_1669 (by decide) ?_
        exact ih (iC + 4) (cells + 1) (slots + 6) (by omega) (by omega) (by omega) (by omega) H locs ls hI hS (lv_sub hl [1, 2, 3, 4, 0] rfl)
      have hcr : cells + 1 ≤ 1063 := by omega
      have hsr : slots + 6 ≤ 11729 := by omega
      refine lv_aload_n hx hb dL_law_32 rfl (lv_at hl 0 rfl) ?_
      refine lv_iload hx hb dL_law_33 (lv_at hl 4 rfl) ?_
      refine va_sld hx hb hX hbl hbA hS (vp_in_nI (by omega) (by omega)) dL_law_35 ?_
      refine lv_bipush (v := nI 31) hx hb dL_law_36 (by decide) ?_
      refine lv_iand hx hb dL_law_38 ?_
      obtain ⟨k, hk, e0⟩ := and31 (xs (nI iC).toNatClampNeg)
      rw [e0]
      clear e0
      rcases (show k = 0 ∨ k = 1 ∨ k = 2 ∨ k = 3 ∨ k = 4 ∨ k = 5 ∨ k = 6 ∨ k = 7 ∨ k = 8 ∨ k = 9 ∨ k = 10 ∨ k = 11 ∨ k = 12 ∨ k = 13 ∨ k = 14 ∨ k = 15 ∨ k = 16 ∨ k = 17 ∨ k = 18 ∨ k = 19 ∨ k = 20 ∨ k = 21 ∨ k = 22 ∨ k = 23 ∨ k = 24 ∨ k = 25 ∨ k = 26 ∨ k = 27 ∨ k = 28 ∨ k = 29 ∨ k = 30 ∨ k = 31 by omega) with rfl | rfl | rfl | rfl | rfl | rfl | rfl | rfl | rfl | rfl | rfl | rfl | rfl | rfl | rfl | rfl | rfl | rfl | rfl | rfl | rfl | rfl | rfl | rfl | rfl | rfl | rfl | rfl | rfl | rfl | rfl | rfl
      · refine lv_tableIn (off := 125) (tgt := 164) hx hb dL_law_39 (by decide) (by decide) rfl (by decide) ?_
        exact lc_event F hi hcr hsr hI hS hl kk
      · refine lv_tableIn (off := 205) (tgt := 244) hx hb dL_law_39 (by decide) (by decide) rfl (by decide) ?_
        exact lc_merge F hi hcr hsr hI hS hl kk
      · refine lv_tableIn (off := 273) (tgt := 312) hx hb dL_law_39 (by decide) (by decide) rfl (by decide) ?_
        exact lc_userOf F hi hcr hsr hI hS hl kk
      · refine lv_tableIn (off := 329) (tgt := 368) hx hb dL_law_39 (by decide) (by decide) rfl (by decide) ?_
        exact lc_users F hi hcr hsr hI hS hl kk
      · refine lv_tableIn (off := 342) (tgt := 381) hx hb dL_law_39 (by decide) (by decide) rfl (by decide) ?_
        exact lc_events F hi hcr hsr hI hS hl kk
      · refine lv_tableIn (off := 355) (tgt := 394) hx hb dL_law_39 (by decide) (by decide) rfl (by decide) ?_
        exact lc_eventsOf F hi hcr hsr hI hS hl kk
      · refine lv_tableIn (off := 411) (tgt := 450) hx hb dL_law_39 (by decide) (by decide) rfl (by decide) ?_
        exact lc_eventAt F hi hcr hsr hI hS hl kk
      · refine lv_tableIn (off := 479) (tgt := 518) hx hb dL_law_39 (by decide) (by decide) rfl (by decide) ?_
        exact lc_gap F hi hcr hsr hI hS hl kk
      · refine lv_tableIn (off := 535) (tgt := 574) hx hb dL_law_39 (by decide) (by decide) rfl (by decide) ?_
        exact lc_sessions F hi hcr hsr hI hS hl kk
      · refine lv_tableIn (off := 591) (tgt := 630) hx hb dL_law_39 (by decide) (by decide) rfl (by decide) ?_
        exact lc_sessionEvents F hi hcr hsr hI hS hl kk
      · refine lv_tableIn (off := 659) (tgt := 698) hx hb dL_law_39 (by decide) (by decide) rfl (by decide) ?_
        exact lc_sessionStart F hi hcr hsr hI hS hl kk
      · refine lv_tableIn (off := 727) (tgt := 766) hx hb dL_law_39 (by decide) (by decide) rfl (by decide) ?_
        exact lc_sessionLength F hi hcr hsr hI hS hl kk
      · refine lv_tableIn (off := 795) (tgt := 834) hx hb dL_law_39 (by decide) (by decide) rfl (by decide) ?_
        exact lc_step F hi hcr hsr hI hS hl kk
      · refine lv_tableIn (off := 851) (tgt := 890) hx hb dL_law_39 (by decide) (by decide) rfl (by decide) ?_
        exact lc_clearFunnel F hi hcr hsr hI hS hl kk
      · refine lv_tableIn (off := 862) (tgt := 901) hx hb dL_law_39 (by decide) (by decide) rfl (by decide) ?_
        exact lc_window F hi hcr hsr hI hS hl kk
      · refine lv_tableIn (off := 918) (tgt := 957) hx hb dL_law_39 (by decide) (by decide) rfl (by decide) ?_
        exact lc_depth F hi hcr hsr hI hS hl kk
      · refine lv_tableIn (off := 974) (tgt := 1013) hx hb dL_law_39 (by decide) (by decide) rfl (by decide) ?_
        exact lc_passed F hi hcr hsr hI hS hl kk
      · refine lv_tableIn (off := 1030) (tgt := 1069) hx hb dL_law_39 (by decide) (by decide) rfl (by decide) ?_
        exact lc_fastest F hi hcr hsr hI hS hl kk
      · refine lv_tableIn (off := 1086) (tgt := 1125) hx hb dL_law_39 (by decide) (by decide) rfl (by decide) ?_
        exact lc_cohort F hi hcr hsr hI hS hl kk
      · refine lv_tableIn (off := 1142) (tgt := 1181) hx hb dL_law_39 (by decide) (by decide) rfl (by decide) ?_
        exact lc_retained F hi hcr hsr hI hS hl kk
      · refine lv_tableIn (off := 1210) (tgt := 1249) hx hb dL_law_39 (by decide) (by decide) rfl (by decide) ?_
        exact lc_active F hi hcr hsr hI hS hl kk
      · refine lv_tableIn (off := 1266) (tgt := 1305) hx hb dL_law_39 (by decide) (by decide) rfl (by decide) ?_
        exact lc_activeOnEach F hi hcr hsr hI hS hl kk
      · refine lv_tableIn (off := 1334) (tgt := 1373) hx hb dL_law_39 (by decide) (by decide) rfl (by decide) ?_
        exact lc_ranked F hi hcr hsr hI hS hl kk
      · refine lv_tableIn (off := 1402) (tgt := 1441) hx hb dL_law_39 (by decide) (by decide) rfl (by decide) ?_
        exact lc_closeDay F hi hcr hsr hI hS hl kk
      · refine lv_tableIn (off := 1446) (tgt := 1485) hx hb dL_law_39 (by decide) (by decide) rfl (by decide) ?_
        exact lc_closedDays F hi hcr hsr hI hS hl kk
      · refine lv_tableIn (off := 1459) (tgt := 1498) hx hb dL_law_39 (by decide) (by decide) rfl (by decide) ?_
        exact lc_keptActive F hi hcr hsr hI hS hl kk
      · refine lv_tableIn (off := 1515) (tgt := 1554) hx hb dL_law_39 (by decide) (by decide) rfl (by decide) ?_
        exact lc_keptNew F hi hcr hsr hI hS hl kk
      · refine lv_tableIn (off := 1571) (tgt := 1610) hx hb dL_law_39 (by decide) (by decide) rfl (by decide) ?_
        exact lc_keptSessions F hi hcr hsr hI hS hl kk
      · refine lv_tableOut (tgt := 1666) hx hb dL_law_39 (Or.inr (by decide)) (by decide) ?_
        exact W.widen (k := cells + 1) (n := slots + 6) (by omega) (by omega) (kk H locs ls hI hS hl)
      · refine lv_tableOut (tgt := 1666) hx hb dL_law_39 (Or.inr (by decide)) (by decide) ?_
        exact W.widen (k := cells + 1) (n := slots + 6) (by omega) (by omega) (kk H locs ls hI hS hl)
      · refine lv_tableOut (tgt := 1666) hx hb dL_law_39 (Or.inr (by decide)) (by decide) ?_
        exact W.widen (k := cells + 1) (n := slots + 6) (by omega) (by omega) (kk H locs ls hI hS hl)
      · refine lv_tableOut (tgt := 1666) hx hb dL_law_39 (Or.inr (by decide)) (by decide) ?_
        exact W.widen (k := cells + 1) (n := slots + 6) (by omega) (by omega) (kk H locs ls hI hS hl)
