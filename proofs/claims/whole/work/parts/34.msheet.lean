section MSHEET
variable {l : Launch} {G : rG} {h : rH} {i : Nat → Int32} {j : Nat → Int64} {f : Nat → Int32}
set_option maxRecDepth 100000 in
set_option maxHeartbeats 400000 in
theorem k_X12_traced (hm : h[38]? = some (mo G i j)) (x : Int32) : rM l G 0 mX12_traced 0 0 [.ref (gN G + 38), .int x] h (fun h' v => v = none ∧ h'[38]? = some (mo G (upd i 39 (31 * i 39 + x)) j) ∧ fr h h' [38]) := by
  refine rM_start (by decide) (Nat.le_of_ble_eq_true rfl) ?_
  refine a_aload_n 1 dX12_traced_0 rfl rfl ?_
  refine a_bipush (31) 3 dX12_traced_1 rfl (by decide) ?_
  refine a_aload_n 4 dX12_traced_3 rfl rfl ?_
  refine a_get fd_X12_327 rfl 7 dX12_traced_4 rfl (by repeat (first | assumption | (refine rg_ne (by first | decide | omega) ?_) | apply rg_eq | refine rg_fr (by assumption) (by first | decide | (simp; omega)) ?_)) rfl ?_
  refine a_imul 8 dX12_traced_7 rfl ?_
  refine a_iload_n 9 dX12_traced_8 rfl rfl ?_
  refine a_iadd 10 dX12_traced_9 rfl ?_
  refine a_put fd_X12_327 cl_X12 rfl 13 dX12_traced_10 rfl (by repeat (first | assumption | (refine rg_ne (by first | decide | omega) ?_) | apply rg_eq | refine rg_fr (by assumption) (by first | decide | (simp; omega)) ?_)) (Nat.le_of_ble_eq_true rfl) rfl rfl rfl ?_
  exact a_return dX12_traced_13 rfl (Nat.le_of_ble_eq_true rfl) (Nat.le_of_ble_eq_true rfl) ⟨rfl, (by repeat (first | assumption | (refine rg_ne (by first | decide | omega) ?_) | apply rg_eq | refine rg_fr (by assumption) (by first | decide | (simp; omega)) ?_)), (by repeat (first | exact fr_refl _ _ | assumption | refine fr_set ?_ (by decide) | refine fr_trans (by assumption) ?_ (by decide)))⟩
set_option maxRecDepth 100000 in
set_option maxHeartbeats 400000 in
theorem k_X12_noCell (hm : h[38]? = some (mo G i j)) (hf : h[57]? = some (.inl (gA G 0, 4, .inl f))) {q : Nat} (hq : q < 4) (c : Int32) : rM l G 1 mX12_noCell 0 0 [.ref (gN G + 38), .int (nI q), .int c] h (rV h (some (.int (if f q < 0 then 1 else if 0 ≤ c ∧ c < f q then 0 else 3)))) := by
  have vq : vp_in (nI q) 4 := vp_in_nI hq (by decide)
  have eq0 : (nI q).toNatClampNeg = q := nI_clamp (by omega)
  refine rM_start (by decide) (Nat.le_of_ble_eq_true rfl) ?_
  refine a_aload_n 1 dX12_noCell_0 rfl rfl ?_
  refine a_get fd_X12_65 rfl 4 dX12_noCell_1 rfl (by repeat (first | assumption | (refine rg_ne (by first | decide | omega) ?_) | apply rg_eq | refine rg_fr (by assumption) (by first | decide | (simp; omega)) ?_)) rfl ?_
  refine a_iload_n 5 dX12_noCell_4 rfl rfl ?_
  refine a_iaload 6 dX12_noCell_5 rfl (by repeat (first | assumption | (refine rg_ne (by first | decide | omega) ?_) | apply rg_eq | refine rg_fr (by assumption) (by first | decide | (simp; omega)) ?_)) vq ?_
  rw [eq0]
  refine a_if_ge 13 9 dX12_noCell_6 rfl (by decide) (fun c_6 => ?_) (fun c_6 => ?_)
  · refine a_iload_n 14 dX12_noCell_13 rfl rfl ?_
    refine a_i2l 15 dX12_noCell_14 rfl ?_
    refine a_lconst (0) 16 dX12_noCell_15 rfl (by decide) ?_
    refine a_aload_n 17 dX12_noCell_16 rfl rfl ?_
    refine a_get fd_X12_65 rfl 20 dX12_noCell_17 rfl (by repeat (first | assumption | (refine rg_ne (by first | decide | omega) ?_) | apply rg_eq | refine rg_fr (by assumption) (by first | decide | (simp; omega)) ?_)) rfl ?_
    refine a_iload_n 21 dX12_noCell_20 rfl rfl ?_
    refine a_iaload 22 dX12_noCell_21 rfl (by repeat (first | assumption | (refine rg_ne (by first | decide | omega) ?_) | apply rg_eq | refine rg_fr (by assumption) (by first | decide | (simp; omega)) ?_)) vq ?_
    rw [eq0]
    refine a_i2l 23 dX12_noCell_22 rfl ?_
    refine a_lconst (1) 24 dX12_noCell_23 rfl (by decide) ?_
    refine a_lsub 25 dX12_noCell_24 rfl ?_
    refine a_callS ok_X12_in ln_X12_97 is_X12_in rfl 28 dX12_noCell_25 rfl (k_X12_in _ _ _) rfl rfl ⟨(Nat.le_of_ble_eq_true rfl), (Nat.le_of_ble_eq_true rfl)⟩ (Nat.le_of_ble_eq_true rfl) ⟨(Nat.le_of_ble_eq_true rfl), (Nat.le_of_ble_eq_true rfl)⟩ ?_
    rintro _ _ ⟨rfl, rfl⟩
    refine a_if_eq 35 31 dX12_noCell_28 rfl (by decide) (fun c_28 => ?_) (fun c_28 => ?_)
    · refine a_iconst (3) 36 dX12_noCell_35 rfl (by decide) ?_
      exact a_ireturn dX12_noCell_36 rfl rfl (Nat.le_of_ble_eq_true rfl) (Nat.le_of_ble_eq_true rfl) ⟨rfl, by rw [if_neg (Int32.not_lt.mpr c_6), if_neg (fun z => b_eq0.mp c_28 ((in64 _ _).mpr z))]⟩
    · refine a_iconst (0) 32 dX12_noCell_31 rfl (by decide) ?_
      refine a_goto 36 dX12_noCell_32 (by decide) ?_
      exact a_ireturn dX12_noCell_36 rfl rfl (Nat.le_of_ble_eq_true rfl) (Nat.le_of_ble_eq_true rfl) ⟨rfl, by rw [if_neg (Int32.not_lt.mpr c_6), if_pos ((in64 _ _).mp (Decidable.not_not.mp (fun z => c_28 (if_neg z))))]⟩
  · refine a_iconst (1) 10 dX12_noCell_9 rfl (by decide) ?_
    refine a_goto 36 dX12_noCell_10 (by decide) ?_
    exact a_ireturn dX12_noCell_36 rfl rfl (Nat.le_of_ble_eq_true rfl) (Nat.le_of_ble_eq_true rfl) ⟨rfl, by rw [if_pos (Int32.not_le.mp c_6)]⟩
set_option maxRecDepth 100000 in
set_option maxHeartbeats 400000 in
theorem k_X12_loseN (hm : h[38]? = some (mo G i j)) (hf : h[57]? = some (.inl (gA G 0, 4, .inl f))) {q : Nat} (hq : q < 4) : rM l G 2 mX12_lose 0 0 [.ref (gN G + 38), .int (nI q)] h (fun h' v => v = some (.int (if f q < 0 then 0 else 1)) ∧ h'[57]? = some (.inl (gA G 0, 4, .inl (upd f q (-1)))) ∧ fr h h' [57]) := by
  have vq : vp_in (nI q) 4 := vp_in_nI hq (by decide)
  have eq0 : (nI q).toNatClampNeg = q := nI_clamp (by omega)
  refine rM_start (by decide) (Nat.le_of_ble_eq_true rfl) ?_
  refine a_iload_n 1 dX12_lose_0 rfl rfl ?_
  refine a_callS ok_X12_noSheet ln_X12_87 is_X12_noSheet rfl 4 dX12_lose_1 rfl (k_X12_noSheet _) rfl rfl ⟨(Nat.le_of_ble_eq_true rfl), (Nat.le_of_ble_eq_true rfl)⟩ (Nat.le_of_ble_eq_true rfl) ⟨(Nat.le_of_ble_eq_true rfl), (Nat.le_of_ble_eq_true rfl)⟩ ?_
  rintro _ _ ⟨rfl, rfl⟩
  refine a_if_eq 9 7 dX12_lose_4 rfl (by decide) (fun c_4 => ?_) (fun c_4 => absurd (if_pos ⟨nI_pos' (by omega), nI_lt (b := 4) hq (by decide)⟩) c_4)
  refine a_aload_n 10 dX12_lose_9 rfl rfl ?_
  refine a_get fd_X12_65 rfl 13 dX12_lose_10 rfl (by repeat (first | assumption | (refine rg_ne (by first | decide | omega) ?_) | apply rg_eq | refine rg_fr (by assumption) (by first | decide | (simp; omega)) ?_)) rfl ?_
  refine a_iload_n 14 dX12_lose_13 rfl rfl ?_
  refine a_iaload 15 dX12_lose_14 rfl (by repeat (first | assumption | (refine rg_ne (by first | decide | omega) ?_) | apply rg_eq | refine rg_fr (by assumption) (by first | decide | (simp; omega)) ?_)) vq ?_
  rw [eq0]
  refine a_if_ge 22 18 dX12_lose_15 rfl (by decide) (fun c_15 => ?_) (fun c_15 => ?_)
  · refine a_iconst (1) 23 dX12_lose_22 rfl (by decide) ?_
    refine a_istore_n 24 dX12_lose_23 rfl (by decide) ?_
    refine a_aload_n 25 dX12_lose_24 rfl rfl ?_
    refine a_get fd_X12_65 rfl 28 dX12_lose_25 rfl (by repeat (first | assumption | (refine rg_ne (by first | decide | omega) ?_) | apply rg_eq | refine rg_fr (by assumption) (by first | decide | (simp; omega)) ?_)) rfl ?_
    refine a_iload_n 29 dX12_lose_28 rfl rfl ?_
    refine a_iconst (-1) 30 dX12_lose_29 rfl (by decide) ?_
    refine a_iastore 31 dX12_lose_30 rfl (by repeat (first | assumption | (refine rg_ne (by first | decide | omega) ?_) | apply rg_eq | refine rg_fr (by assumption) (by first | decide | (simp; omega)) ?_)) vq ?_
    refine a_iload_n 32 dX12_lose_31 rfl rfl ?_
    exact a_ireturn dX12_lose_32 rfl rfl (Nat.le_of_ble_eq_true rfl) (Nat.le_of_ble_eq_true rfl) ⟨by rw [if_neg (Int32.not_lt.mpr c_15)], by rw [eq0]; exact rg_eq hf, fr_set (fr_refl _ _) (by decide)⟩
  · refine a_iconst (0) 19 dX12_lose_18 rfl (by decide) ?_
    refine a_goto 23 dX12_lose_19 (by decide) ?_
    refine a_istore_n 24 dX12_lose_23 rfl (by decide) ?_
    refine a_aload_n 25 dX12_lose_24 rfl rfl ?_
    refine a_get fd_X12_65 rfl 28 dX12_lose_25 rfl (by repeat (first | assumption | (refine rg_ne (by first | decide | omega) ?_) | apply rg_eq | refine rg_fr (by assumption) (by first | decide | (simp; omega)) ?_)) rfl ?_
    refine a_iload_n 29 dX12_lose_28 rfl rfl ?_
    refine a_iconst (-1) 30 dX12_lose_29 rfl (by decide) ?_
    refine a_iastore 31 dX12_lose_30 rfl (by repeat (first | assumption | (refine rg_ne (by first | decide | omega) ?_) | apply rg_eq | refine rg_fr (by assumption) (by first | decide | (simp; omega)) ?_)) vq ?_
    refine a_iload_n 32 dX12_lose_31 rfl rfl ?_
    exact a_ireturn dX12_lose_32 rfl rfl (Nat.le_of_ble_eq_true rfl) (Nat.le_of_ble_eq_true rfl) ⟨by rw [if_pos (Int32.not_le.mp c_15)], by rw [eq0]; exact rg_eq hf, fr_set (fr_refl _ _) (by decide)⟩
end MSHEET
