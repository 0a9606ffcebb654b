section MBL
variable {k d wi : Nat} {bR bB : Nat → Int32}
theorem bl_1 (hk : k < 32) (hd : d < 32) (hw : wi < 32) (q : nI d ≤ nI k) (c : nI k - nI d = nI wi) : bB (nI d).toNatClampNeg = blM bR bB wi k d := by
  have q' : d ≤ k := (nI_leI (by omega) (by omega)).mp q
  rw [pk_sub q', nI_eq (by omega) (by omega)] at c
  rw [nI_clamp (by omega), blM, if_pos (by omega), Nat.min_eq_right q']
theorem bl_2 (hk : k < 32) (hd : d < 32) (hw : wi < 32) (q : nI d ≤ nI k) (c : ¬ nI k - nI d = nI wi) : bR (nI d).toNatClampNeg = blM bR bB wi k d := by
  have q' : d ≤ k := (nI_leI (by omega) (by omega)).mp q
  rw [pk_sub q', nI_eq (by omega) (by omega)] at c
  rw [nI_clamp (by omega), blM, if_neg (by omega), Nat.min_eq_right q']
theorem bl_3 (hk : k < 32) (hd : d < 32) (hw : wi < 32) (q : ¬ nI d ≤ nI k) (c : nI d - nI k = nI wi) : bB (nI k).toNatClampNeg = blM bR bB wi k d := by
  have q' : ¬ d ≤ k := fun z => q ((nI_leI (by omega) (by omega)).mpr z)
  rw [pk_sub (by omega), nI_eq (by omega) (by omega)] at c
  rw [nI_clamp (by omega), blM, if_pos (by omega), Nat.min_eq_left (by omega)]
theorem bl_4 (hk : k < 32) (hd : d < 32) (hw : wi < 32) (q : ¬ nI d ≤ nI k) (c : ¬ nI d - nI k = nI wi) : bR (nI k).toNatClampNeg = blM bR bB wi k d := by
  have q' : ¬ d ≤ k := fun z => q ((nI_leI (by omega) (by omega)).mpr z)
  rw [pk_sub (by omega), nI_eq (by omega) (by omega)] at c
  rw [nI_clamp (by omega), blM, if_neg (by omega), Nat.min_eq_left (by omega)]
/-- whether the gap of two seats goes to the row behind -/
abbrev isBeh (wi k d : Nat) : Prop := max k d - min k d = wi
theorem hg_1 (hk : k < 32) (hd : d < 32) (hw : wi < 32) (q : nI d ≤ nI k) (c : nI k - nI d = nI wi) : isBeh wi k d ∧ (nI d).toNatClampNeg = min k d := by
  have q' : d ≤ k := (nI_leI (by omega) (by omega)).mp q
  rw [pk_sub q', nI_eq (by omega) (by omega)] at c
  exact ⟨by show max k d - min k d = wi; omega, by rw [nI_clamp (by omega), Nat.min_eq_right q']⟩
theorem hg_2 (hk : k < 32) (hd : d < 32) (hw : wi < 32) (q : nI d ≤ nI k) (c : ¬ nI k - nI d = nI wi) : ¬ isBeh wi k d ∧ (nI d).toNatClampNeg = min k d := by
  have q' : d ≤ k := (nI_leI (by omega) (by omega)).mp q
  rw [pk_sub q', nI_eq (by omega) (by omega)] at c
  exact ⟨by show ¬ max k d - min k d = wi; omega, by rw [nI_clamp (by omega), Nat.min_eq_right q']⟩
theorem hg_3 (hk : k < 32) (hd : d < 32) (hw : wi < 32) (q : ¬ nI d ≤ nI k) (c : nI d - nI k = nI wi) : isBeh wi k d ∧ (nI k).toNatClampNeg = min k d := by
  have q' : ¬ d ≤ k := fun z => q ((nI_leI (by omega) (by omega)).mpr z)
  rw [pk_sub (by omega), nI_eq (by omega) (by omega)] at c
  exact ⟨by show max k d - min k d = wi; omega, by rw [nI_clamp (by omega), Nat.min_eq_left (by omega)]⟩
theorem hg_4 (hk : k < 32) (hd : d < 32) (hw : wi < 32) (q : ¬ nI d ≤ nI k) (c : ¬ nI d - nI k = nI wi) : ¬ isBeh wi k d ∧ (nI k).toNatClampNeg = min k d := by
  have q' : ¬ d ≤ k := fun z => q ((nI_leI (by omega) (by omega)).mpr z)
  rw [pk_sub (by omega), nI_eq (by omega) (by omega)] at c
  exact ⟨by show ¬ max k d - min k d = wi; omega, by rw [nI_clamp (by omega), Nat.min_eq_left (by omega)]⟩
end MBL
section MBLIND
variable {l : Launch} {G : rG} {h : rH} {i : Nat → Int32} {j : Nat → Int64} {bR bB : Nat → Int32} {wi : Nat}
set_option maxRecDepth 100000 in
set_option maxHeartbeats 400000 in
theorem k_X12_isBlind (hm : h[38]? = some (mo G i j)) (hw : i 2 = nI wi) (hw32 : wi < 32) (hr : h[40]? = some (.inl (gA G 1, 32, .inl bR))) (hb : h[41]? = some (.inl (gA G 1, 32, .inl bB))) (br : isB bR) (bb : isB bB) {k d : Nat} (hk : k < 32) (hd : d < 32) : rM l G 0 mX12_isBlind 0 0 [.ref (gN G + 38), .int (nI k), .int (nI d)] h (rV h (some (.int (blM bR bB wi k d)))) := by
  have vk : vp_in (nI k) 32 := vp_in_nI hk (by decide)
  have vd : vp_in (nI d) 32 := vp_in_nI hd (by decide)
  refine rM_start (by decide) (Nat.le_of_ble_eq_true rfl) ?_
  refine a_iload_n 1 dX12_isBlind_0 rfl rfl ?_
  refine a_iload_n 2 dX12_isBlind_1 rfl rfl ?_
  refine a_icmp_ge 9 5 dX12_isBlind_2 rfl (by decide) (fun c_2 => ?_) (fun c_2 => ?_)
  · refine a_iload_n 10 dX12_isBlind_9 rfl rfl ?_
    refine a_istore_n 11 dX12_isBlind_10 rfl (by decide) ?_
    refine a_iload_n 12 dX12_isBlind_11 rfl rfl ?_
    refine a_iload_n 13 dX12_isBlind_12 rfl rfl ?_
    refine a_icmp_ge 20 16 dX12_isBlind_13 rfl (by decide) (fun c_13 => ?_) (fun c_13 => absurd c_2 c_13)
    refine a_iload_n 21 dX12_isBlind_20 rfl rfl ?_
    refine a_istore 23 dX12_isBlind_21 rfl (by decide) ?_
    refine a_iload 25 dX12_isBlind_23 rfl rfl ?_
    refine a_iload_n 26 dX12_isBlind_25 rfl rfl ?_
    refine a_isub 27 dX12_isBlind_26 rfl ?_
    refine a_aload_n 28 dX12_isBlind_27 rfl rfl ?_
    refine a_get fd_X12_111 rfl 31 dX12_isBlind_28 rfl (by repeat (first | assumption | (refine rg_ne (by first | decide | omega) ?_) | apply rg_eq | refine rg_fr (by assumption) (by first | decide | (simp; omega)) ?_)) rfl ?_
    refine a_icmp_ne 43 34 dX12_isBlind_31 rfl (by decide) (fun c_31 => ?_) (fun c_31 => ?_)
    · refine a_aload_n 44 dX12_isBlind_43 rfl rfl ?_
      refine a_get fd_X12_13 rfl 47 dX12_isBlind_44 rfl (by repeat (first | assumption | (refine rg_ne (by first | decide | omega) ?_) | apply rg_eq | refine rg_fr (by assumption) (by first | decide | (simp; omega)) ?_)) rfl ?_
      refine a_iload_n 48 dX12_isBlind_47 rfl rfl ?_
      refine a_baload 49 dX12_isBlind_48 rfl (by repeat (first | assumption | (refine rg_ne (by first | decide | omega) ?_) | apply rg_eq | refine rg_fr (by assumption) (by first | decide | (simp; omega)) ?_)) (by assumption) ?_
      exact a_ireturn dX12_isBlind_49 rfl (nb01 (br _)) (Nat.le_of_ble_eq_true rfl) (Nat.le_of_ble_eq_true rfl) ⟨rfl, congrArg (fun z => some (Value.int z)) (bl_2 hk hd hw32 c_2 (hw ▸ c_31))⟩
    · refine a_aload_n 35 dX12_isBlind_34 rfl rfl ?_
      refine a_get fd_X12_17 rfl 38 dX12_isBlind_35 rfl (by repeat (first | assumption | (refine rg_ne (by first | decide | omega) ?_) | apply rg_eq | refine rg_fr (by assumption) (by first | decide | (simp; omega)) ?_)) rfl ?_
      refine a_iload_n 39 dX12_isBlind_38 rfl rfl ?_
      refine a_baload 40 dX12_isBlind_39 rfl (by repeat (first | assumption | (refine rg_ne (by first | decide | omega) ?_) | apply rg_eq | refine rg_fr (by assumption) (by first | decide | (simp; omega)) ?_)) (by assumption) ?_
      refine a_goto 49 dX12_isBlind_40 (by decide) ?_
      exact a_ireturn dX12_isBlind_49 rfl (nb01 (bb _)) (Nat.le_of_ble_eq_true rfl) (Nat.le_of_ble_eq_true rfl) ⟨rfl, congrArg (fun z => some (Value.int z)) (bl_1 hk hd hw32 c_2 (hw ▸ c_31))⟩
  · refine a_iload_n 6 dX12_isBlind_5 rfl rfl ?_
    refine a_goto 10 dX12_isBlind_6 (by decide) ?_
    refine a_istore_n 11 dX12_isBlind_10 rfl (by decide) ?_
    refine a_iload_n 12 dX12_isBlind_11 rfl rfl ?_
    refine a_iload_n 13 dX12_isBlind_12 rfl rfl ?_
    refine a_icmp_ge 20 16 dX12_isBlind_13 rfl (by decide) (fun c_13 => absurd c_13 c_2) (fun c_13 => ?_)
    refine a_iload_n 17 dX12_isBlind_16 rfl rfl ?_
    refine a_goto 21 dX12_isBlind_17 (by decide) ?_
    refine a_istore 23 dX12_isBlind_21 rfl (by decide) ?_
    refine a_iload 25 dX12_isBlind_23 rfl rfl ?_
    refine a_iload_n 26 dX12_isBlind_25 rfl rfl ?_
    refine a_isub 27 dX12_isBlind_26 rfl ?_
    refine a_aload_n 28 dX12_isBlind_27 rfl rfl ?_
    refine a_get fd_X12_111 rfl 31 dX12_isBlind_28 rfl (by repeat (first | assumption | (refine rg_ne (by first | decide | omega) ?_) | apply rg_eq | refine rg_fr (by assumption) (by first | decide | (simp; omega)) ?_)) rfl ?_
    refine a_icmp_ne 43 34 dX12_isBlind_31 rfl (by decide) (fun c_31 => ?_) (fun c_31 => ?_)
    · refine a_aload_n 44 dX12_isBlind_43 rfl rfl ?_
      refine a_get fd_X12_13 rfl 47 dX12_isBlind_44 rfl (by repeat (first | assumption | (refine rg_ne (by first | decide | omega) ?_) | apply rg_eq | refine rg_fr (by assumption) (by first | decide | (simp; omega)) ?_)) rfl ?_
      refine a_iload_n 48 dX12_isBlind_47 rfl rfl ?_
      refine a_baload 49 dX12_isBlind_48 rfl (by repeat (first | assumption | (refine rg_ne (by first | decide | omega) ?_) | apply rg_eq | refine rg_fr (by assumption) (by first | decide | (simp; omega)) ?_)) (by assumption) ?_
      exact a_ireturn dX12_isBlind_49 rfl (nb01 (br _)) (Nat.le_of_ble_eq_true rfl) (Nat.le_of_ble_eq_true rfl) ⟨rfl, congrArg (fun z => some (Value.int z)) (bl_4 hk hd hw32 c_2 (hw ▸ c_31))⟩
    · refine a_aload_n 35 dX12_isBlind_34 rfl rfl ?_
      refine a_get fd_X12_17 rfl 38 dX12_isBlind_35 rfl (by repeat (first | assumption | (refine rg_ne (by first | decide | omega) ?_) | apply rg_eq | refine rg_fr (by assumption) (by first | decide | (simp; omega)) ?_)) rfl ?_
      refine a_iload_n 39 dX12_isBlind_38 rfl rfl ?_
      refine a_baload 40 dX12_isBlind_39 rfl (by repeat (first | assumption | (refine rg_ne (by first | decide | omega) ?_) | apply rg_eq | refine rg_fr (by assumption) (by first | decide | (simp; omega)) ?_)) (by assumption) ?_
      refine a_goto 49 dX12_isBlind_40 (by decide) ?_
      exact a_ireturn dX12_isBlind_49 rfl (nb01 (bb _)) (Nat.le_of_ble_eq_true rfl) (Nat.le_of_ble_eq_true rfl) ⟨rfl, congrArg (fun z => some (Value.int z)) (bl_3 hk hd hw32 c_2 (hw ▸ c_31))⟩
set_option maxRecDepth 100000 in
set_option maxHeartbeats 400000 in
theorem k_X12_hang (hm : h[38]? = some (mo G i j)) (hw : i 2 = nI wi) (hw32 : wi < 32) (hr : h[40]? = some (.inl (gA G 1, 32, .inl bR))) (hb : h[41]? = some (.inl (gA G 1, 32, .inl bB))) {k d : Nat} (hk : k < 32) (hd : d < 32) {x : Int32} (hx : x = 0 ∨ x = 1) : rM l G 0 mX12_hang 0 0 [.ref (gN G + 38), .int (nI k), .int (nI d), .int x] h (fun h' v => v = none ∧ h'[40]? = some (.inl (gA G 1, 32, .inl (if isBeh wi k d then bR else upd bR (min k d) x))) ∧ h'[41]? = some (.inl (gA G 1, 32, .inl (if isBeh wi k d then upd bB (min k d) x else bB))) ∧ fr h h' [40, 41]) := by
  have vk : vp_in (nI k) 32 := vp_in_nI hk (by decide)
  have vd : vp_in (nI d) 32 := vp_in_nI hd (by decide)
  refine rM_start (by decide) (Nat.le_of_ble_eq_true rfl) ?_
  refine a_iload_n 1 dX12_hang_0 rfl rfl ?_
  refine a_iload_n 2 dX12_hang_1 rfl rfl ?_
  refine a_icmp_ge 9 5 dX12_hang_2 rfl (by decide) (fun c_2 => ?_) (fun c_2 => ?_)
  · refine a_iload_n 10 dX12_hang_9 rfl rfl ?_
    refine a_istore 12 dX12_hang_10 rfl (by decide) ?_
    refine a_iload_n 13 dX12_hang_12 rfl rfl ?_
    refine a_iload_n 14 dX12_hang_13 rfl rfl ?_
    refine a_icmp_ge 21 17 dX12_hang_14 rfl (by decide) (fun c_14 => ?_) (fun c_14 => absurd c_2 c_14)
    refine a_iload_n 22 dX12_hang_21 rfl rfl ?_
    refine a_istore 24 dX12_hang_22 rfl (by decide) ?_
    refine a_iload 26 dX12_hang_24 rfl rfl ?_
    refine a_iload 28 dX12_hang_26 rfl rfl ?_
    refine a_isub 29 dX12_hang_28 rfl ?_
    refine a_aload_n 30 dX12_hang_29 rfl rfl ?_
    refine a_get fd_X12_111 rfl 33 dX12_hang_30 rfl (by repeat (first | assumption | (refine rg_ne (by first | decide | omega) ?_) | apply rg_eq | refine rg_fr (by assumption) (by first | decide | (simp; omega)) ?_)) rfl ?_
    refine a_icmp_ne 47 36 dX12_hang_33 rfl (by decide) (fun c_33 => ?_) (fun c_33 => ?_)
    · refine a_aload_n 48 dX12_hang_47 rfl rfl ?_
      refine a_get fd_X12_13 rfl 51 dX12_hang_48 rfl (by repeat (first | assumption | (refine rg_ne (by first | decide | omega) ?_) | apply rg_eq | refine rg_fr (by assumption) (by first | decide | (simp; omega)) ?_)) rfl ?_
      refine a_iload 53 dX12_hang_51 rfl rfl ?_
      refine a_iload_n 54 dX12_hang_53 rfl rfl ?_
      refine a_bastore 55 dX12_hang_54 rfl (by repeat (first | assumption | (refine rg_ne (by first | decide | omega) ?_) | apply rg_eq | refine rg_fr (by assumption) (by first | decide | (simp; omega)) ?_)) (by assumption) ?_
      exact a_return dX12_hang_55 rfl (Nat.le_of_ble_eq_true rfl) (Nat.le_of_ble_eq_true rfl) (by obtain ⟨z1, z2⟩ := hg_2 hk hd hw32 c_2 (hw ▸ c_33); rw [if_neg z1, if_neg z1, z2, vn01 hx]; exact ⟨rfl, (by repeat (first | assumption | (refine rg_ne (by first | decide | omega) ?_) | apply rg_eq | refine rg_fr (by assumption) (by first | decide | (simp; omega)) ?_)), (by repeat (first | assumption | (refine rg_ne (by first | decide | omega) ?_) | apply rg_eq | refine rg_fr (by assumption) (by first | decide | (simp; omega)) ?_)), (by repeat (first | exact fr_refl _ _ | assumption | refine fr_set ?_ (by decide) | refine fr_trans (by assumption) ?_ (by decide)))⟩)
    · refine a_aload_n 37 dX12_hang_36 rfl rfl ?_
      refine a_get fd_X12_17 rfl 40 dX12_hang_37 rfl (by repeat (first | assumption | (refine rg_ne (by first | decide | omega) ?_) | apply rg_eq | refine rg_fr (by assumption) (by first | decide | (simp; omega)) ?_)) rfl ?_
      refine a_iload 42 dX12_hang_40 rfl rfl ?_
      refine a_iload_n 43 dX12_hang_42 rfl rfl ?_
      refine a_bastore 44 dX12_hang_43 rfl (by repeat (first | assumption | (refine rg_ne (by first | decide | omega) ?_) | apply rg_eq | refine rg_fr (by assumption) (by first | decide | (simp; omega)) ?_)) (by assumption) ?_
      refine a_goto 55 dX12_hang_44 (by decide) ?_
      exact a_return dX12_hang_55 rfl (Nat.le_of_ble_eq_true rfl) (Nat.le_of_ble_eq_true rfl) (by obtain ⟨z1, z2⟩ := hg_1 hk hd hw32 c_2 (hw ▸ c_33); rw [if_pos z1, if_pos z1, z2, vn01 hx]; exact ⟨rfl, (by repeat (first | assumption | (refine rg_ne (by first | decide | omega) ?_) | apply rg_eq | refine rg_fr (by assumption) (by first | decide | (simp; omega)) ?_)), (by repeat (first | assumption | (refine rg_ne (by first | decide | omega) ?_) | apply rg_eq | refine rg_fr (by assumption) (by first | decide | (simp; omega)) ?_)), (by repeat (first | exact fr_refl _ _ | assumption | refine fr_set ?_ (by decide) | refine fr_trans (by assumption) ?_ (by decide)))⟩)
  · refine a_iload_n 6 dX12_hang_5 rfl rfl ?_
    refine a_goto 10 dX12_hang_6 (by decide) ?_
    refine a_istore 12 dX12_hang_10 rfl (by decide) ?_
    refine a_iload_n 13 dX12_hang_12 rfl rfl ?_
    refine a_iload_n 14 dX12_hang_13 rfl rfl ?_
    refine a_icmp_ge 21 17 dX12_hang_14 rfl (by decide) (fun c_14 => absurd c_14 c_2) (fun c_14 => ?_)
    refine a_iload_n 18 dX12_hang_17 rfl rfl ?_
    refine a_goto 22 dX12_hang_18 (by decide) ?_
    refine a_istore 24 dX12_hang_22 rfl (by decide) ?_
    refine a_iload 26 dX12_hang_24 rfl rfl ?_
    refine a_iload 28 dX12_hang_26 rfl rfl ?_
    refine a_isub 29 dX12_hang_28 rfl ?_
    refine a_aload_n 30 dX12_hang_29 rfl rfl ?_
    refine a_get fd_X12_111 rfl 33 dX12_hang_30 rfl (by repeat (first | assumption | (refine rg_ne (by first | decide | omega) ?_) | apply rg_eq | refine rg_fr (by assumption) (by first | decide | (simp; omega)) ?_)) rfl ?_
    refine a_icmp_ne 47 36 dX12_hang_33 rfl (by decide) (fun c_33 => ?_) (fun c_33 => ?_)
    · refine a_aload_n 48 dX12_hang_47 rfl rfl ?_
      refine a_get fd_X12_13 rfl 51 dX12_hang_48 rfl (by repeat (first | assumption | (refine rg_ne (by first | decide | omega) ?_) | apply rg_eq | refine rg_fr (by assumption) (by first | decide | (simp; omega)) ?_)) rfl ?_
      refine a_iload 53 dX12_hang_51 rfl rfl ?_
      refine a_iload_n 54 dX12_hang_53 rfl rfl ?_
      refine a_bastore 55 dX12_hang_54 rfl (by repeat (first | assumption | (refine rg_ne (by first | decide | omega) ?_) | apply rg_eq | refine rg_fr (by assumption) (by first | decide | (simp; omega)) ?_)) (by assumption) ?_
      exact a_return dX12_hang_55 rfl (Nat.le_of_ble_eq_true rfl) (Nat.le_of_ble_eq_true rfl) (by obtain ⟨z1, z2⟩ := hg_4 hk hd hw32 c_2 (hw ▸ c_33); rw [if_neg z1, if_neg z1, z2, vn01 hx]; exact ⟨rfl, (by repeat (first | assumption | (refine rg_ne (by first | decide | omega) ?_) | apply rg_eq | refine rg_fr (by assumption) (by first | decide | (simp; omega)) ?_)), (by repeat (first | assumption | (refine rg_ne (by first | decide | omega) ?_) | apply rg_eq | refine rg_fr (by assumption) (by first | decide | (simp; omega)) ?_)), (by repeat (first | exact fr_refl _ _ | assumption | refine fr_set ?_ (by decide) | refine fr_trans (by assumption) ?_ (by decide)))⟩)
    · refine a_aload_n 37 dX12_hang_36 rfl rfl ?_
      refine a_get fd_X12_17 rfl 40 dX12_hang_37 rfl (by repeat (first | assumption | (refine rg_ne (by first | decide | omega) ?_) | apply rg_eq | refine rg_fr (by assumption) (by first | decide | (simp; omega)) ?_)) rfl ?_
      refine a_iload 42 dX12_hang_40 rfl rfl ?_
      refine a_iload_n 43 dX12_hang_42 rfl rfl ?_
      refine a_bastore 44 dX12_hang_43 rfl (by repeat (first | assumption | (refine rg_ne (by first | decide | omega) ?_) | apply rg_eq | refine rg_fr (by assumption) (by first | decide | (simp; omega)) ?_)) (by assumption) ?_
      refine a_goto 55 dX12_hang_44 (by decide) ?_
      exact a_return dX12_hang_55 rfl (Nat.le_of_ble_eq_true rfl) (Nat.le_of_ble_eq_true rfl) (by obtain ⟨z1, z2⟩ := hg_3 hk hd hw32 c_2 (hw ▸ c_33); rw [if_pos z1, if_pos z1, z2, vn01 hx]; exact ⟨rfl, (by repeat (first | assumption | (refine rg_ne (by first | decide | omega) ?_) | apply rg_eq | refine rg_fr (by assumption) (by first | decide | (simp; omega)) ?_)), (by repeat (first | assumption | (refine rg_ne (by first | decide | omega) ?_) | apply rg_eq | refine rg_fr (by assumption) (by first | decide | (simp; omega)) ?_)), (by repeat (first | exact fr_refl _ _ | assumption | refine fr_set ?_ (by decide) | refine fr_trans (by assumption) ?_ (by decide)))⟩)
end MBLIND
