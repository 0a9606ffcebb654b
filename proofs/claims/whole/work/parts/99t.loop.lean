/-! THE LAW's loop -/
section LOOP
variable {l : Launch} {G : rG} {nm : String}
theorem lw_cond {L t : Nat} (hL : L ≤ 3072) (ht : 6 * t ≤ L + 6) : (Int32.ofNat L - 6 < nI (6 * t)) ↔ L < 6 * t + 6 := by
  show (nI L - nI 6 < nI (6 * t)) ↔ _
  rw [i_lt, pk_sub_toInt (by omega) (by omega), nI_toInt (by omega)]
  omega
set_option maxRecDepth 100000 in
set_option maxHeartbeats 400000 in
theorem law_loop (hL : gL G ≤ 3072) : ∀ (r t : Nat) (h : rH) (T : Tn) (y : Int32), gL G ≤ 6 * (t + r) → 6 * t ≤ gL G + 6 → y = nI (6 * t) → INV G h T → rW l G room_1 (mLaw nm) (lZ G) (61 + 2 * t) (4692 + 8 * t) 18 [some (.ref (gS G 0)), some (.ref (gN G + 0)), some (.ref (gN G + 38)), some (.int y)] [] h := by
  intro r
  induction r with
  | zero =>
    intro t h T y hr ht hy I
    subst hy
    have hc := lw_cond (L := gL G) (t := t) hL ht
    refine a_iload_n 19 dL_law_18 rfl rfl ?_
    refine a_aload_n 20 dL_law_19 rfl rfl ?_
    refine a_alen_s 21 dL_law_20 rfl ?_
    refine a_bipush (6) 23 dL_law_21 rfl (by decide) ?_
    refine a_isub 24 dL_law_23 rfl ?_
    refine a_icmp_gt 1569 27 dL_law_24 rfl (by decide) (fun c_24 => ?_) (fun c_24 => absurd (hc.mpr (by omega)) c_24)
    refine a_iconst (1) 1570 dL_law_1569 rfl (by decide) ?_
    exact a_lawret dL_law_1570 (by omega) (by omega)
  | succ r ih =>
    intro t h T y hr ht hy I
    subst hy
    have hc := lw_cond (L := gL G) (t := t) hL ht
    by_cases hx : gL G < 6 * t + 6
    · skip
      refine a_iload_n 19 dL_law_18 rfl rfl ?_
      refine a_aload_n 20 dL_law_19 rfl rfl ?_
      refine a_alen_s 21 dL_law_20 rfl ?_
      refine a_bipush (6) 23 dL_law_21 rfl (by decide) ?_
      refine a_isub 24 dL_law_23 rfl ?_
      refine a_icmp_gt 1569 27 dL_law_24 rfl (by decide) (fun c_24 => ?_) (fun c_24 => absurd (hc.mpr hx) c_24)
      refine a_iconst (1) 1570 dL_law_1569 rfl (by decide) ?_
      exact a_lawret dL_law_1570 (by omega) (by omega)
    · have hi : 6 * t + 6 ≤ gL G := by omega
      have v0 : vp_in (nI (6 * t)) (gL G) := vp_in_nI (by omega) (by omega)
      have NX : lwN l G nm (6 * t) (61 + 2 * t) (4692 + 8 * t) := by
        intro h1 T1 I1
        refine a_iinc _ 1566 dL_law_1563 rfl rfl (Nat.le_of_ble_eq_true rfl) rfl ?_
        refine a_goto 18 dL_law_1566 (by decide) ?_
        refine rW_widen (k' := 61 + 2 * (t + 1)) (n' := 4692 + 8 * (t + 1)) (by omega) (by omega) ?_
        exact ih (t + 1) _ _ _ (by omega) (by omega) ((nI_add (6 * t) 6).trans (congrArg nI (by omega))) I1
      refine a_iload_n 19 dL_law_18 rfl rfl ?_
      refine a_aload_n 20 dL_law_19 rfl rfl ?_
      refine a_alen_s 21 dL_law_20 rfl ?_
      refine a_bipush (6) 23 dL_law_21 rfl (by decide) ?_
      refine a_isub 24 dL_law_23 rfl ?_
      refine a_icmp_gt 1569 27 dL_law_24 rfl (by decide) (fun c_24 => absurd (hc.mp c_24) hx) (fun c_24 => ?_)
      refine a_aload_n 28 dL_law_27 rfl rfl ?_
      refine a_iload_n 29 dL_law_28 rfl rfl ?_
      refine a_iaload_s  30 dL_law_29 rfl rfl v0 ?_
      refine a_bipush (63) 32 dL_law_30 rfl (by decide) ?_
      refine a_iand 33 dL_law_32 rfl ?_
      rcases tab_cases 38 ((gX G (nI (6 * t)).toNatClampNeg &&& 63)).toInt 0 37 (by decide) with w_33 | ⟨k_33, hk_33, e_33⟩
      · refine a_tableOut 1563 dL_law_33 w_33 (by decide) ?_
        exact rW_widen (by omega) (by omega) (NX _ _ I)
      · match k_33, hk_33, e_33 with
        | 0, _, e =>
          have w_33 : ((gX G (nI (6 * t)).toNatClampNeg &&& 63)).toInt = 0 := e
          refine a_tableIn 200 dL_law_33 (by rw [w_33]; decide) (by rw [w_33]; decide) (by rw [w_33]; rfl) (by decide) ?_
          exact lw_carriage hL hi (by omega) (by omega) I NX
        | 1, _, e =>
          have w_33 : ((gX G (nI (6 * t)).toNatClampNeg &&& 63)).toInt = 1 := e
          refine a_tableIn 253 dL_law_33 (by rw [w_33]; decide) (by rw [w_33]; decide) (by rw [w_33]; rfl) (by decide) ?_
          exact lw_ofSeat hL hi (by omega) (by omega) I NX
        | 2, _, e =>
          have w_33 : ((gX G (nI (6 * t)).toNatClampNeg &&& 63)).toInt = 2 := e
          refine a_tableIn 286 dL_law_33 (by rw [w_33]; decide) (by rw [w_33]; decide) (by rw [w_33]; rfl) (by decide) ?_
          exact lw_line hL hi (by omega) (by omega) I NX
        | 3, _, e =>
          have w_33 : ((gX G (nI (6 * t)).toNatClampNeg &&& 63)).toInt = 3 := e
          refine a_tableIn 319 dL_law_33 (by rw [w_33]; decide) (by rw [w_33]; decide) (by rw [w_33]; rfl) (by decide) ?_
          exact lw_blind hL hi (by omega) (by omega) I NX
        | 4, _, e =>
          have w_33 : ((gX G (nI (6 * t)).toNatClampNeg &&& 63)).toInt = 4 := e
          refine a_tableIn 378 dL_law_33 (by rw [w_33]; decide) (by rw [w_33]; decide) (by rw [w_33]; rfl) (by decide) ?_
          exact lw_one hL hi (by omega) (by omega) I NX
        | 5, _, e =>
          have w_33 : ((gX G (nI (6 * t)).toNatClampNeg &&& 63)).toInt = 5 := e
          refine a_tableIn 431 dL_law_33 (by rw [w_33]; decide) (by rw [w_33]; decide) (by rw [w_33]; rfl) (by decide) ?_
          exact lw_ofOne hL hi (by omega) (by omega) I NX
        | 6, _, e =>
          have w_33 : ((gX G (nI (6 * t)).toNatClampNeg &&& 63)).toInt = 6 := e
          refine a_tableIn 464 dL_law_33 (by rw [w_33]; decide) (by rw [w_33]; decide) (by rw [w_33]; rfl) (by decide) ?_
          exact lw_move hL hi (by omega) (by omega) I NX
        | 7, _, e =>
          have w_33 : ((gX G (nI (6 * t)).toNatClampNeg &&& 63)).toInt = 7 := e
          refine a_tableIn 497 dL_law_33 (by rw [w_33]; decide) (by rw [w_33]; decide) (by rw [w_33]; rfl) (by decide) ?_
          exact lw_law hL hi (by omega) (by omega) I NX
        | 8, _, e =>
          have w_33 : ((gX G (nI (6 * t)).toNatClampNeg &&& 63)).toInt = 8 := e
          refine a_tableIn 550 dL_law_33 (by rw [w_33]; decide) (by rw [w_33]; decide) (by rw [w_33]; rfl) (by decide) ?_
          exact lw_ofLaw hL hi (by omega) (by omega) I NX
        | 9, _, e =>
          have w_33 : ((gX G (nI (6 * t)).toNatClampNeg &&& 63)).toInt = 9 := e
          refine a_tableIn 583 dL_law_33 (by rw [w_33]; decide) (by rw [w_33]; decide) (by rw [w_33]; rfl) (by decide) ?_
          exact lw_might hL hi (by omega) (by omega) I NX
        | 10, _, e =>
          have w_33 : ((gX G (nI (6 * t)).toNatClampNeg &&& 63)).toInt = 10 := e
          refine a_tableIn 626 dL_law_33 (by rw [w_33]; decide) (by rw [w_33]; decide) (by rw [w_33]; rfl) (by decide) ?_
          exact lw_yawn hL hi (by omega) (by omega) I NX
        | 11, _, e =>
          have w_33 : ((gX G (nI (6 * t)).toNatClampNeg &&& 63)).toInt = 11 := e
          refine a_tableIn 659 dL_law_33 (by rw [w_33]; decide) (by rw [w_33]; decide) (by rw [w_33]; rfl) (by decide) ?_
          exact lw_ofYawn hL hi (by omega) (by omega) I NX
        | 12, _, e =>
          have w_33 : ((gX G (nI (6 * t)).toNatClampNeg &&& 63)).toInt = 12 := e
          refine a_tableIn 692 dL_law_33 (by rw [w_33]; decide) (by rw [w_33]; decide) (by rw [w_33]; rfl) (by decide) ?_
          exact lw_back hL hi (by omega) (by omega) I NX
        | 13, _, e =>
          have w_33 : ((gX G (nI (6 * t)).toNatClampNeg &&& 63)).toInt = 13 := e
          refine a_tableIn 715 dL_law_33 (by rw [w_33]; decide) (by rw [w_33]; decide) (by rw [w_33]; rfl) (by decide) ?_
          exact lw_could hL hi (by omega) (by omega) I NX
        | 14, _, e =>
          have w_33 : ((gX G (nI (6 * t)).toNatClampNeg &&& 63)).toInt = 14 := e
          refine a_tableIn 748 dL_law_33 (by rw [w_33]; decide) (by rw [w_33]; decide) (by rw [w_33]; rfl) (by decide) ?_
          exact lw_share hL hi (by omega) (by omega) I NX
        | 15, _, e =>
          have w_33 : ((gX G (nI (6 * t)).toNatClampNeg &&& 63)).toInt = 15 := e
          refine a_tableIn 802 dL_law_33 (by rw [w_33]; decide) (by rw [w_33]; decide) (by rw [w_33]; rfl) (by decide) ?_
          exact lw_barred hL hi (by omega) (by omega) I NX
        | 16, _, e =>
          have w_33 : ((gX G (nI (6 * t)).toNatClampNeg &&& 63)).toInt = 16 := e
          refine a_tableIn 825 dL_law_33 (by rw [w_33]; decide) (by rw [w_33]; decide) (by rw [w_33]; rfl) (by decide) ?_
          exact lw_trees hL hi (by omega) (by omega) I NX
        | 17, _, e =>
          have w_33 : ((gX G (nI (6 * t)).toNatClampNeg &&& 63)).toInt = 17 := e
          refine a_tableIn 848 dL_law_33 (by rw [w_33]; decide) (by rw [w_33]; decide) (by rw [w_33]; rfl) (by decide) ?_
          exact lw_causes hL hi (by omega) (by omega) I NX
        | 18, _, e =>
          have w_33 : ((gX G (nI (6 * t)).toNatClampNeg &&& 63)).toInt = 18 := e
          refine a_tableIn 881 dL_law_33 (by rw [w_33]; decide) (by rw [w_33]; decide) (by rw [w_33]; rfl) (by decide) ?_
          exact lw_most hL hi (by omega) (by omega) I NX
        | 19, _, e =>
          have w_33 : ((gX G (nI (6 * t)).toNatClampNeg &&& 63)).toInt = 19 := e
          refine a_tableIn 904 dL_law_33 (by rw [w_33]; decide) (by rw [w_33]; decide) (by rw [w_33]; rfl) (by decide) ?_
          exact lw_goesOn hL hi (by omega) (by omega) I NX
        | 20, _, e =>
          have w_33 : ((gX G (nI (6 * t)).toNatClampNeg &&& 63)).toInt = 20 := e
          refine a_tableIn 927 dL_law_33 (by rw [w_33]; decide) (by rw [w_33]; decide) (by rw [w_33]; rfl) (by decide) ?_
          exact lw_chain hL hi (by omega) (by omega) I NX
        | 21, _, e =>
          have w_33 : ((gX G (nI (6 * t)).toNatClampNeg &&& 63)).toInt = 21 := e
          refine a_tableIn 950 dL_law_33 (by rw [w_33]; decide) (by rw [w_33]; decide) (by rw [w_33]; rfl) (by decide) ?_
          exact lw_missed hL hi (by omega) (by omega) I NX
        | 22, _, e =>
          have w_33 : ((gX G (nI (6 * t)).toNatClampNeg &&& 63)).toInt = 22 := e
          refine a_tableIn 983 dL_law_33 (by rw [w_33]; decide) (by rw [w_33]; decide) (by rw [w_33]; rfl) (by decide) ?_
          exact lw_night hL hi (by omega) (by omega) I NX
        | 23, _, e =>
          have w_33 : ((gX G (nI (6 * t)).toNatClampNeg &&& 63)).toInt = 23 := e
          refine a_tableIn 1046 dL_law_33 (by rw [w_33]; decide) (by rw [w_33]; decide) (by rw [w_33]; rfl) (by decide) ?_
          exact lw_spread hL hi (by omega) (by omega) I NX
        | 24, _, e =>
          have w_33 : ((gX G (nI (6 * t)).toNatClampNeg &&& 63)).toInt = 24 := e
          refine a_tableIn 1069 dL_law_33 (by rw [w_33]; decide) (by rw [w_33]; decide) (by rw [w_33]; rfl) (by decide) ?_
          exact lw_blinds hL hi (by omega) (by omega) I NX
        | 25, _, e =>
          have w_33 : ((gX G (nI (6 * t)).toNatClampNeg &&& 63)).toInt = 25 := e
          refine a_tableIn 1112 dL_law_33 (by rw [w_33]; decide) (by rw [w_33]; decide) (by rw [w_33]; rfl) (by decide) ?_
          exact lw_parts hL hi (by omega) (by omega) I NX
        | 26, _, e =>
          have w_33 : ((gX G (nI (6 * t)).toNatClampNeg &&& 63)).toInt = 26 := e
          refine a_tableIn 1155 dL_law_33 (by rw [w_33]; decide) (by rw [w_33]; decide) (by rw [w_33]; rfl) (by decide) ?_
          exact lw_film hL hi (by omega) (by omega) I NX
        | 27, _, e =>
          have w_33 : ((gX G (nI (6 * t)).toNatClampNeg &&& 63)).toInt = 27 := e
          refine a_tableIn 1219 dL_law_33 (by rw [w_33]; decide) (by rw [w_33]; decide) (by rw [w_33]; rfl) (by decide) ?_
          exact lw_sheet hL hi (by omega) (by omega) I NX
        | 28, _, e =>
          have w_33 : ((gX G (nI (6 * t)).toNatClampNeg &&& 63)).toInt = 28 := e
          refine a_tableIn 1262 dL_law_33 (by rw [w_33]; decide) (by rw [w_33]; decide) (by rw [w_33]; rfl) (by decide) ?_
          exact lw_lose hL hi (by omega) (by omega) I NX
        | 29, _, e =>
          have w_33 : ((gX G (nI (6 * t)).toNatClampNeg &&& 63)).toInt = 29 := e
          refine a_tableIn 1285 dL_law_33 (by rw [w_33]; decide) (by rw [w_33]; decide) (by rw [w_33]; rfl) (by decide) ?_
          exact lw_put hL hi (by omega) (by omega) I NX
        | 30, _, e =>
          have w_33 : ((gX G (nI (6 * t)).toNatClampNeg &&& 63)).toInt = 30 := e
          refine a_tableIn 1328 dL_law_33 (by rw [w_33]; decide) (by rw [w_33]; decide) (by rw [w_33]; rfl) (by decide) ?_
          exact lw_cell hL hi (by omega) (by omega) I NX
        | 31, _, e =>
          have w_33 : ((gX G (nI (6 * t)).toNatClampNeg &&& 63)).toInt = 31 := e
          refine a_tableIn 1372 dL_law_33 (by rw [w_33]; decide) (by rw [w_33]; decide) (by rw [w_33]; rfl) (by decide) ?_
          exact lw_copy hL hi (by omega) (by omega) I NX
        | 32, _, e =>
          have w_33 : ((gX G (nI (6 * t)).toNatClampNeg &&& 63)).toInt = 32 := e
          refine a_tableIn 1435 dL_law_33 (by rw [w_33]; decide) (by rw [w_33]; decide) (by rw [w_33]; rfl) (by decide) ?_
          exact lw_tell hL hi (by omega) (by omega) I NX
        | 33, _, e =>
          have w_33 : ((gX G (nI (6 * t)).toNatClampNeg &&& 63)).toInt = 33 := e
          refine a_tableIn 1458 dL_law_33 (by rw [w_33]; decide) (by rw [w_33]; decide) (by rw [w_33]; rfl) (by decide) ?_
          exact lw_wake hL hi (by omega) (by omega) I NX
        | 34, _, e =>
          have w_33 : ((gX G (nI (6 * t)).toNatClampNeg &&& 63)).toInt = 34 := e
          refine a_tableIn 1481 dL_law_33 (by rw [w_33]; decide) (by rw [w_33]; decide) (by rw [w_33]; rfl) (by decide) ?_
          exact lw_as hL hi (by omega) (by omega) I NX
        | 35, _, e =>
          have w_33 : ((gX G (nI (6 * t)).toNatClampNeg &&& 63)).toInt = 35 := e
          refine a_tableIn 1514 dL_law_33 (by rw [w_33]; decide) (by rw [w_33]; decide) (by rw [w_33]; rfl) (by decide) ?_
          exact lw_trace hL hi (by omega) (by omega) I NX
        | 36, _, e =>
          have w_33 : ((gX G (nI (6 * t)).toNatClampNeg &&& 63)).toInt = 36 := e
          refine a_tableIn 1527 dL_law_33 (by rw [w_33]; decide) (by rw [w_33]; decide) (by rw [w_33]; rfl) (by decide) ?_
          exact lw_fault hL hi (by omega) (by omega) I NX
        | 37, _, e =>
          have w_33 : ((gX G (nI (6 * t)).toNatClampNeg &&& 63)).toInt = 37 := e
          refine a_tableIn 1540 dL_law_33 (by rw [w_33]; decide) (by rw [w_33]; decide) (by rw [w_33]; rfl) (by decide) ?_
          exact lw_many hL hi (by omega) (by omega) I NX
        | k + 38, hk, _ => exact absurd hk (by omega)
end LOOP
