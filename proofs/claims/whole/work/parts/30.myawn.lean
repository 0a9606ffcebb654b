section MYAWN
variable {l : Launch} {G : rG} {h : rH} {i : Nat → Int32} {j : Nat → Int64} {bR bB : Nat → Int32} {nb : Nat → Nat → Option Nat} {wi n m nl ny : Nat} {mir : Bool} {face kd se sl ki ym yw : Nat → Nat} {nu : Nat → Nat → Nat}
set_option maxRecDepth 100000 in
set_option maxHeartbeats 400000 in
theorem k_X12_trace (hm : h[38]? = some (mo G i j)) : rM l G 0 mX12_trace 0 0 [.ref (gN G + 38)] h (rV h (some (.int (i 39)))) := by
  refine rM_start (by decide) (Nat.le_of_ble_eq_true rfl) ?_
  refine a_aload_n 1 dX12_trace_0 rfl rfl ?_
  refine a_get fd_X12_327 rfl 4 dX12_trace_1 rfl (by repeat (first | assumption | (refine rg_ne (by first | decide | omega) ?_) | apply rg_eq | refine rg_fr (by assumption) (by first | decide | (simp; omega)) ?_)) rfl ?_
  exact a_ireturn dX12_trace_4 rfl rfl (Nat.le_of_ble_eq_true rfl) (Nat.le_of_ble_eq_true rfl) ⟨rfl, rfl⟩
set_option maxRecDepth 100000 in
set_option maxHeartbeats 400000 in
theorem k_X12_fault (hm : h[38]? = some (mo G i j)) : rM l G 0 mX12_fault 0 0 [.ref (gN G + 38)] h (rV h (some (.int (i 0)))) := by
  refine rM_start (by decide) (Nat.le_of_ble_eq_true rfl) ?_
  refine a_aload_n 1 dX12_fault_0 rfl rfl ?_
  refine a_get fd_X12_79 rfl 4 dX12_fault_1 rfl (by repeat (first | assumption | (refine rg_ne (by first | decide | omega) ?_) | apply rg_eq | refine rg_fr (by assumption) (by first | decide | (simp; omega)) ?_)) rfl ?_
  exact a_ireturn dX12_fault_4 rfl rfl (Nat.le_of_ble_eq_true rfl) (Nat.le_of_ble_eq_true rfl) ⟨rfl, rfl⟩
set_option maxRecDepth 100000 in
set_option maxHeartbeats 400000 in
theorem k_X12_lastMinute (hw : mwAt G h i j m ny ym yw) : rM l G 0 mX12_lastMinute 0 0 [.ref (gN G + 38)] h (rV h (some (.int (if ny = 0 then 0 else nI (ym (ny - 1)))))) := by
  obtain ⟨hm, hny, hn24, ⟨f4, q4, q4'⟩, -⟩ := hw
  have hz0 := tk_k (k := ny) (d := 0) (by omega) (by decide) rfl
  refine rM_start (by decide) (Nat.le_of_ble_eq_true rfl) ?_
  refine a_aload_n 1 dX12_lastMinute_0 rfl rfl ?_
  refine a_get fd_X12_163 rfl 4 dX12_lastMinute_1 rfl (by repeat (first | assumption | (refine rg_ne (by first | decide | omega) ?_) | apply rg_eq | refine rg_fr (by assumption) (by first | decide | (simp; omega)) ?_)) rfl ?_
  refine a_if_ne 11 7 dX12_lastMinute_4 rfl (by decide) (fun c_4 => ?_) (fun c_4 => ?_)
  · refine a_aload_n 12 dX12_lastMinute_11 rfl rfl ?_
    refine a_get fd_X12_47 rfl 15 dX12_lastMinute_12 rfl (by repeat (first | assumption | (refine rg_ne (by first | decide | omega) ?_) | apply rg_eq | refine rg_fr (by assumption) (by first | decide | (simp; omega)) ?_)) rfl ?_
    refine a_aload_n 16 dX12_lastMinute_15 rfl rfl ?_
    refine a_get fd_X12_163 rfl 19 dX12_lastMinute_16 rfl (by repeat (first | assumption | (refine rg_ne (by first | decide | omega) ?_) | apply rg_eq | refine rg_fr (by assumption) (by first | decide | (simp; omega)) ?_)) rfl ?_
    refine a_iconst (1) 20 dX12_lastMinute_19 rfl (by decide) ?_
    refine a_isub 21 dX12_lastMinute_20 rfl ?_
    have e0 : ¬ ny = 0 := fun q => c_4 (by rw [hny]; exact hz0.mpr q)
    have e1 : i 23 - 1 = nI (ny - 1) := by rw [hny, show (1 : Int32) = nI 1 from rfl, pk_sub (by omega)]
    rw [e1]
    refine a_iaload 22 dX12_lastMinute_21 rfl (by repeat (first | assumption | (refine rg_ne (by first | decide | omega) ?_) | apply rg_eq | refine rg_fr (by assumption) (by first | decide | (simp; omega)) ?_)) (vp_in_nI (by omega) (by decide)) ?_
    rw [nI_clamp (by omega), (q4' (ny - 1) (by omega)).1]
    exact a_ireturn dX12_lastMinute_22 rfl rfl (Nat.le_of_ble_eq_true rfl) (Nat.le_of_ble_eq_true rfl) ⟨rfl, by rw [if_neg e0]⟩
  · refine a_iconst (0) 8 dX12_lastMinute_7 rfl (by decide) ?_
    refine a_goto 22 dX12_lastMinute_8 (by decide) ?_
    exact a_ireturn dX12_lastMinute_22 rfl rfl (Nat.le_of_ble_eq_true rfl) (Nat.le_of_ble_eq_true rfl) ⟨rfl, by rw [if_pos (hz0.mp (by rw [← hny]; exact c_4))]⟩
set_option maxRecDepth 100000 in
set_option maxHeartbeats 400000 in
theorem k_X12_back (hm : h[38]? = some (mo G i j)) (c : Int32) : rM l G 1 mX12_back 0 0 [.ref (gN G + 38), .int c] h (fun h' v => (if 0 ≤ c ∧ c ≤ i 23 then v = some (.int (i 23 - c)) ∧ h'[38]? = some (mo G (upd i 23 (i 23 - c)) j) ∧ fr h h' [38] else v = some (.int (-2)) ∧ h' = h)) := by
  have e : ((0 : Int64) ≤ c.toInt64 ∧ c.toInt64 ≤ (i 23).toInt64) ↔ (0 ≤ c ∧ c ≤ i 23) := by
    rw [Int64.le_iff_toInt_le, to64_le, Int32.toInt_toInt64, i_le, i_le]
    exact Iff.rfl
  refine rM_start (by decide) (Nat.le_of_ble_eq_true rfl) ?_
  refine a_iload_n 1 dX12_back_0 rfl rfl ?_
  refine a_i2l 2 dX12_back_1 rfl ?_
  refine a_lconst (0) 3 dX12_back_2 rfl (by decide) ?_
  refine a_aload_n 4 dX12_back_3 rfl rfl ?_
  refine a_get fd_X12_163 rfl 7 dX12_back_4 rfl (by repeat (first | assumption | (refine rg_ne (by first | decide | omega) ?_) | apply rg_eq | refine rg_fr (by assumption) (by first | decide | (simp; omega)) ?_)) rfl ?_
  refine a_i2l 8 dX12_back_7 rfl ?_
  refine a_callS ok_X12_in ln_X12_97 is_X12_in rfl 11 dX12_back_8 rfl (k_X12_in _ _ _) rfl rfl ⟨(Nat.le_of_ble_eq_true rfl), (Nat.le_of_ble_eq_true rfl)⟩ (Nat.le_of_ble_eq_true rfl) ⟨(Nat.le_of_ble_eq_true rfl), (Nat.le_of_ble_eq_true rfl)⟩ ?_
  rintro _ _ ⟨rfl, rfl⟩
  refine a_if_ne 17 14 dX12_back_11 rfl (by decide) (fun c_11 => ?_) (fun c_11 => ?_)
  · refine a_aload_n 18 dX12_back_17 rfl rfl ?_
    refine a_dup 19 dX12_back_18 rfl rfl ?_
    refine a_get fd_X12_163 rfl 22 dX12_back_19 rfl (by repeat (first | assumption | (refine rg_ne (by first | decide | omega) ?_) | apply rg_eq | refine rg_fr (by assumption) (by first | decide | (simp; omega)) ?_)) rfl ?_
    refine a_iload_n 23 dX12_back_22 rfl rfl ?_
    refine a_isub 24 dX12_back_23 rfl ?_
    refine a_put fd_X12_163 cl_X12 rfl 27 dX12_back_24 rfl (by repeat (first | assumption | (refine rg_ne (by first | decide | omega) ?_) | apply rg_eq | refine rg_fr (by assumption) (by first | decide | (simp; omega)) ?_)) (Nat.le_of_ble_eq_true rfl) rfl rfl rfl ?_
    refine a_aload_n 28 dX12_back_27 rfl rfl ?_
    refine a_get fd_X12_163 rfl 31 dX12_back_28 rfl (by repeat (first | assumption | (refine rg_ne (by first | decide | omega) ?_) | apply rg_eq | refine rg_fr (by assumption) (by first | decide | (simp; omega)) ?_)) rfl ?_
    exact a_ireturn dX12_back_31 rfl rfl (Nat.le_of_ble_eq_true rfl) (Nat.le_of_ble_eq_true rfl) (by rw [if_pos (e.mp (Decidable.not_not.mp (fun q => c_11 (if_neg q))))]; exact ⟨rfl, (by repeat (first | assumption | (refine rg_ne (by first | decide | omega) ?_) | apply rg_eq | refine rg_fr (by assumption) (by first | decide | (simp; omega)) ?_)), (by repeat (first | exact fr_refl _ _ | assumption | refine fr_set ?_ (by decide) | refine fr_trans (by assumption) ?_ (by decide)))⟩)
  · refine a_bipush (-2) 16 dX12_back_14 rfl (by decide) ?_
    exact a_ireturn dX12_back_16 rfl rfl (Nat.le_of_ble_eq_true rfl) (Nat.le_of_ble_eq_true rfl) (by rw [if_neg (fun q => b_eq0.mp c_11 (e.mpr q))]; exact ⟨rfl, rfl⟩)
set_option maxRecDepth 100000 in
set_option maxHeartbeats 400000 in
theorem k_X12_ofYawn (hw : mwAt G h i j m ny ym yw) (c x : Int32) : rM l G 2 mX12_ofYawn 0 0 [.ref (gN G + 38), .int c, .int x] h (rV h (some (.int (if 0 ≤ c ∧ c < nI ny then (if x = 0 then nI (ym c.toNatClampNeg) else if x = 1 then nI (yw c.toNatClampNeg) else -2) else -1)))) := by
  obtain ⟨hm, hny, hn24, ⟨f4, q4, q4'⟩, ⟨f5, q5, q5'⟩⟩ := hw
  refine rM_start (by decide) (Nat.le_of_ble_eq_true rfl) ?_
  refine a_aload_n 1 dX12_ofYawn_0 rfl rfl ?_
  refine a_iload_n 2 dX12_ofYawn_1 rfl rfl ?_
  refine a_callV ok_X12_noYawn ln_X12_243 in_X12_noYawn rfl 5 dX12_ofYawn_2 rfl (k_X12_noYawn hm c) (by repeat (first | assumption | (refine rg_ne (by first | decide | omega) ?_) | apply rg_eq | refine rg_fr (by assumption) (by first | decide | (simp; omega)) ?_)) rfl rfl rfl ⟨(Nat.le_of_ble_eq_true rfl), (Nat.le_of_ble_eq_true rfl)⟩ (Nat.le_of_ble_eq_true rfl) ⟨(Nat.le_of_ble_eq_true rfl), (Nat.le_of_ble_eq_true rfl)⟩ ?_
  rintro _ _ ⟨rfl, rfl⟩
  refine a_if_eq 10 8 dX12_ofYawn_5 rfl (by decide) (fun c_5 => ?_) (fun c_5 => ?_)
  · have hcc : 0 ≤ c ∧ c < nI ny := by rw [← hny]; exact Decidable.not_not.mp (fun q => absurd (c_5.symm.trans (if_neg q)) (by decide))
    obtain ⟨k, hk, rfl⟩ := nI_of_lt (by omega) hcc.1 hcc.2
    have ek : (nI k).toNatClampNeg = k := nI_clamp (by omega)
    have vk : vp_in (nI k) 24 := vp_in_nI (by omega) (by decide)
    refine a_iload_n 11 dX12_ofYawn_10 rfl rfl ?_
    refine a_if_ne 23 14 dX12_ofYawn_11 rfl (by decide) (fun c_11 => ?_) (fun c_11 => ?_)
    · refine a_iload_n 24 dX12_ofYawn_23 rfl rfl ?_
      refine a_iconst (1) 25 dX12_ofYawn_24 rfl (by decide) ?_
      refine a_icmp_ne 37 28 dX12_ofYawn_25 rfl (by decide) (fun c_25 => ?_) (fun c_25 => ?_)
      · refine a_bipush (-2) 39 dX12_ofYawn_37 rfl (by decide) ?_
        exact a_ireturn dX12_ofYawn_39 rfl rfl (Nat.le_of_ble_eq_true rfl) (Nat.le_of_ble_eq_true rfl) ⟨rfl, by rw [if_pos hcc, if_neg c_11, if_neg c_25]⟩
      · refine a_aload_n 29 dX12_ofYawn_28 rfl rfl ?_
        refine a_get fd_X12_50 rfl 32 dX12_ofYawn_29 rfl (by repeat (first | assumption | (refine rg_ne (by first | decide | omega) ?_) | apply rg_eq | refine rg_fr (by assumption) (by first | decide | (simp; omega)) ?_)) rfl ?_
        refine a_iload_n 33 dX12_ofYawn_32 rfl rfl ?_
        refine a_iaload 34 dX12_ofYawn_33 rfl (by repeat (first | assumption | (refine rg_ne (by first | decide | omega) ?_) | apply rg_eq | refine rg_fr (by assumption) (by first | decide | (simp; omega)) ?_)) vk ?_
        refine a_goto 39 dX12_ofYawn_34 (by decide) ?_
        exact a_ireturn dX12_ofYawn_39 rfl rfl (Nat.le_of_ble_eq_true rfl) (Nat.le_of_ble_eq_true rfl) ⟨rfl, by rw [if_pos hcc, if_neg c_11, if_pos c_25, ek, (q5' k hk).1]⟩
    · refine a_aload_n 15 dX12_ofYawn_14 rfl rfl ?_
      refine a_get fd_X12_47 rfl 18 dX12_ofYawn_15 rfl (by repeat (first | assumption | (refine rg_ne (by first | decide | omega) ?_) | apply rg_eq | refine rg_fr (by assumption) (by first | decide | (simp; omega)) ?_)) rfl ?_
      refine a_iload_n 19 dX12_ofYawn_18 rfl rfl ?_
      refine a_iaload 20 dX12_ofYawn_19 rfl (by repeat (first | assumption | (refine rg_ne (by first | decide | omega) ?_) | apply rg_eq | refine rg_fr (by assumption) (by first | decide | (simp; omega)) ?_)) vk ?_
      refine a_goto 39 dX12_ofYawn_20 (by decide) ?_
      exact a_ireturn dX12_ofYawn_39 rfl rfl (Nat.le_of_ble_eq_true rfl) (Nat.le_of_ble_eq_true rfl) ⟨rfl, by rw [if_pos hcc, if_pos c_11, ek, (q4' k hk).1]⟩
  · refine a_iconst (-1) 9 dX12_ofYawn_8 rfl (by decide) ?_
    exact a_ireturn dX12_ofYawn_9 rfl rfl (Nat.le_of_ble_eq_true rfl) (Nat.le_of_ble_eq_true rfl) ⟨rfl, by rw [if_neg (fun q => absurd (if_pos (c := 0 ≤ c ∧ c < i 23) (t := (0 : Int32)) (e := 1) (by rw [hny]; exact q)) (fun z => c_5 z))]⟩
set_option maxRecDepth 100000 in
set_option maxHeartbeats 400000 in
theorem k_X12_barredN (hc : mcAt G h i j nb bR bB wi n mir face) (ho : moAt G h i j n m kd se sl ki) (hl : mlAt G h i j nl nu) (hw : mwAt G h i j m ny ym yw) {z : Nat} (hz : z < nl) : rM l G 10 mX12_barred 0 0 [.ref (gN G + 38), .int (nI z)] h (fun h' v => v = some (.int (noI (firstN (fun q => decide (allN (ownN kd sl nu z) nu (mightN nb (blM bR bB wi) mir face kd se ki nu z) ym yw z q = 0)) ny 0))) ∧ mcAt G h' i j nb bR bB wi n mir face ∧ fr h h' [44]) := by
  have hm := hl.1
  have hnl := hl.2.1
  have hl6 := hl.2.2.1
  refine rM_start (by decide) (Nat.le_of_ble_eq_true rfl) ?_
  refine a_aload_n 1 dX12_barred_0 rfl rfl ?_
  refine a_iload_n 2 dX12_barred_1 rfl rfl ?_
  refine a_callV ok_X12_noLaw ln_X12_218 in_X12_noLaw rfl 5 dX12_barred_2 rfl (k_X12_noLaw hm _) (by repeat (first | assumption | (refine rg_ne (by first | decide | omega) ?_) | apply rg_eq | refine rg_fr (by assumption) (by first | decide | (simp; omega)) ?_)) rfl rfl rfl ⟨(Nat.le_of_ble_eq_true rfl), (Nat.le_of_ble_eq_true rfl)⟩ (Nat.le_of_ble_eq_true rfl) ⟨(Nat.le_of_ble_eq_true rfl), (Nat.le_of_ble_eq_true rfl)⟩ ?_
  rintro _ _ ⟨rfl, rfl⟩
  refine a_if_eq 12 8 dX12_barred_5 rfl (by decide) (fun c_5 => ?_) (fun c_5 => absurd (if_pos ⟨nI_pos' (by omega), by rw [hnl]; exact nI_lt hz (by omega)⟩) c_5)
  refine a_aload_n 13 dX12_barred_12 rfl rfl ?_
  refine a_iload_n 14 dX12_barred_13 rfl rfl ?_
  refine a_callV ok_X12_firstBarred ln_X12_260 in_X12_firstBarred rfl 17 dX12_barred_14 rfl (k_X12_firstBarred hc ho hl hw hz) (by repeat (first | assumption | (refine rg_ne (by first | decide | omega) ?_) | apply rg_eq | refine rg_fr (by assumption) (by first | decide | (simp; omega)) ?_)) rfl rfl rfl ⟨(Nat.le_of_ble_eq_true rfl), (Nat.le_of_ble_eq_true rfl)⟩ (Nat.le_of_ble_eq_true rfl) ⟨(Nat.le_of_ble_eq_true rfl), (Nat.le_of_ble_eq_true rfl)⟩ ?_
  rintro h1 v ⟨rfl, hc1, hf1⟩
  exact a_ireturn dX12_barred_17 rfl rfl (Nat.le_of_ble_eq_true rfl) (Nat.le_of_ble_eq_true rfl) ⟨rfl, hc1, hf1⟩
end MYAWN
