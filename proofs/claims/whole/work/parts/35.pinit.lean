section PINIT
variable {l : Launch} {G : rG} {h : rH} {a : Nat} {nu sl ki z1 z2 z3 z4 : Int32}
set_option maxRecDepth 100000 in
set_option maxHeartbeats 400000 in
theorem k_X7_init_7 (ha : h[a]? = some (pc 7 z1 z2 z3 z4)) : rM l G 1 mX7_init 0 0 [.ref (gN G + a), .int nu, .int sl, .int ki] h (fun h' v => v = none ∧ h'[a]? = some (pc 7 nu sl ki z4) ∧ fr h h' [a]) := by
  refine rM_start (by decide) (Nat.le_of_ble_eq_true rfl) ?_
  refine a_aload_n 1 dX7_init_0 rfl rfl ?_
  refine a_objInit lo_X7_1 oi_i oi_c rfl 4 dX7_init_1 rfl (Nat.le_of_ble_eq_true rfl) (Nat.le_of_ble_eq_true rfl) ?_
  refine a_aload_n 5 dX7_init_4 rfl rfl ?_
  refine a_iload_n 6 dX7_init_5 rfl rfl ?_
  refine a_putF fd_X7_7_X7 cl_X7 rfl 9 dX7_init_6 rfl (by repeat (first | assumption | (refine rg_ne (by first | decide | omega) ?_) | apply rg_eq | refine rg_fr (by assumption) (by first | decide | (simp; omega)) ?_)) (Nat.le_of_ble_eq_true rfl) rfl rfl rfl ff_X7_7_X7 rfl rfl ?_
  refine a_aload_n 10 dX7_init_9 rfl rfl ?_
  refine a_iload_n 11 dX7_init_10 rfl rfl ?_
  refine a_putF fd_X7_13_X7 cl_X7 rfl 14 dX7_init_11 rfl (by repeat (first | assumption | (refine rg_ne (by first | decide | omega) ?_) | apply rg_eq | refine rg_fr (by assumption) (by first | decide | (simp; omega)) ?_)) (Nat.le_of_ble_eq_true rfl) rfl rfl rfl ff_X7_13_X7 rfl rfl ?_
  refine a_aload_n 15 dX7_init_14 rfl rfl ?_
  refine a_iload_n 16 dX7_init_15 rfl rfl ?_
  refine a_putF fd_X7_16_X7 cl_X7 rfl 19 dX7_init_16 rfl (by repeat (first | assumption | (refine rg_ne (by first | decide | omega) ?_) | apply rg_eq | refine rg_fr (by assumption) (by first | decide | (simp; omega)) ?_)) (Nat.le_of_ble_eq_true rfl) rfl rfl rfl ff_X7_16_X7 rfl rfl ?_
  exact a_return dX7_init_19 rfl (Nat.le_of_ble_eq_true rfl) (Nat.le_of_ble_eq_true rfl) ⟨rfl, (by repeat (first | assumption | (refine rg_ne (by first | decide | omega) ?_) | apply rg_eq | refine rg_fr (by assumption) (by first | decide | (simp; omega)) ?_)), fr_set (fr_set (fr_set (fr_refl _ _) (List.mem_singleton.mpr rfl)) (List.mem_singleton.mpr rfl)) (List.mem_singleton.mpr rfl)⟩
set_option maxRecDepth 100000 in
set_option maxHeartbeats 400000 in
theorem k_X7_init_3 (ha : h[a]? = some (pc 3 z1 z2 z3 z4)) : rM l G 1 mX7_init 0 0 [.ref (gN G + a), .int nu, .int sl, .int ki] h (fun h' v => v = none ∧ h'[a]? = some (pc 3 nu sl ki z4) ∧ fr h h' [a]) := by
  refine rM_start (by decide) (Nat.le_of_ble_eq_true rfl) ?_
  refine a_aload_n 1 dX7_init_0 rfl rfl ?_
  refine a_objInit lo_X7_1 oi_i oi_c rfl 4 dX7_init_1 rfl (Nat.le_of_ble_eq_true rfl) (Nat.le_of_ble_eq_true rfl) ?_
  refine a_aload_n 5 dX7_init_4 rfl rfl ?_
  refine a_iload_n 6 dX7_init_5 rfl rfl ?_
  refine a_putF fd_X7_7_X3 cl_X3 rfl 9 dX7_init_6 rfl (by repeat (first | assumption | (refine rg_ne (by first | decide | omega) ?_) | apply rg_eq | refine rg_fr (by assumption) (by first | decide | (simp; omega)) ?_)) (Nat.le_of_ble_eq_true rfl) rfl rfl rfl ff_X7_7_X3 rfl rfl ?_
  refine a_aload_n 10 dX7_init_9 rfl rfl ?_
  refine a_iload_n 11 dX7_init_10 rfl rfl ?_
  refine a_putF fd_X7_13_X3 cl_X3 rfl 14 dX7_init_11 rfl (by repeat (first | assumption | (refine rg_ne (by first | decide | omega) ?_) | apply rg_eq | refine rg_fr (by assumption) (by first | decide | (simp; omega)) ?_)) (Nat.le_of_ble_eq_true rfl) rfl rfl rfl ff_X7_13_X3 rfl rfl ?_
  refine a_aload_n 15 dX7_init_14 rfl rfl ?_
  refine a_iload_n 16 dX7_init_15 rfl rfl ?_
  refine a_putF fd_X7_16_X3 cl_X3 rfl 19 dX7_init_16 rfl (by repeat (first | assumption | (refine rg_ne (by first | decide | omega) ?_) | apply rg_eq | refine rg_fr (by assumption) (by first | decide | (simp; omega)) ?_)) (Nat.le_of_ble_eq_true rfl) rfl rfl rfl ff_X7_16_X3 rfl rfl ?_
  exact a_return dX7_init_19 rfl (Nat.le_of_ble_eq_true rfl) (Nat.le_of_ble_eq_true rfl) ⟨rfl, (by repeat (first | assumption | (refine rg_ne (by first | decide | omega) ?_) | apply rg_eq | refine rg_fr (by assumption) (by first | decide | (simp; omega)) ?_)), fr_set (fr_set (fr_set (fr_refl _ _) (List.mem_singleton.mpr rfl)) (List.mem_singleton.mpr rfl)) (List.mem_singleton.mpr rfl)⟩
set_option maxRecDepth 100000 in
set_option maxHeartbeats 400000 in
theorem k_X7_init_4 (ha : h[a]? = some (pc 4 z1 z2 z3 z4)) : rM l G 1 mX7_init 0 0 [.ref (gN G + a), .int nu, .int sl, .int ki] h (fun h' v => v = none ∧ h'[a]? = some (pc 4 nu sl ki z4) ∧ fr h h' [a]) := by
  refine rM_start (by decide) (Nat.le_of_ble_eq_true rfl) ?_
  refine a_aload_n 1 dX7_init_0 rfl rfl ?_
  refine a_objInit lo_X7_1 oi_i oi_c rfl 4 dX7_init_1 rfl (Nat.le_of_ble_eq_true rfl) (Nat.le_of_ble_eq_true rfl) ?_
  refine a_aload_n 5 dX7_init_4 rfl rfl ?_
  refine a_iload_n 6 dX7_init_5 rfl rfl ?_
  refine a_putF fd_X7_7_X4 cl_X4 rfl 9 dX7_init_6 rfl (by repeat (first | assumption | (refine rg_ne (by first | decide | omega) ?_) | apply rg_eq | refine rg_fr (by assumption) (by first | decide | (simp; omega)) ?_)) (Nat.le_of_ble_eq_true rfl) rfl rfl rfl ff_X7_7_X4 rfl rfl ?_
  refine a_aload_n 10 dX7_init_9 rfl rfl ?_
  refine a_iload_n 11 dX7_init_10 rfl rfl ?_
  refine a_putF fd_X7_13_X4 cl_X4 rfl 14 dX7_init_11 rfl (by repeat (first | assumption | (refine rg_ne (by first | decide | omega) ?_) | apply rg_eq | refine rg_fr (by assumption) (by first | decide | (simp; omega)) ?_)) (Nat.le_of_ble_eq_true rfl) rfl rfl rfl ff_X7_13_X4 rfl rfl ?_
  refine a_aload_n 15 dX7_init_14 rfl rfl ?_
  refine a_iload_n 16 dX7_init_15 rfl rfl ?_
  refine a_putF fd_X7_16_X4 cl_X4 rfl 19 dX7_init_16 rfl (by repeat (first | assumption | (refine rg_ne (by first | decide | omega) ?_) | apply rg_eq | refine rg_fr (by assumption) (by first | decide | (simp; omega)) ?_)) (Nat.le_of_ble_eq_true rfl) rfl rfl rfl ff_X7_16_X4 rfl rfl ?_
  exact a_return dX7_init_19 rfl (Nat.le_of_ble_eq_true rfl) (Nat.le_of_ble_eq_true rfl) ⟨rfl, (by repeat (first | assumption | (refine rg_ne (by first | decide | omega) ?_) | apply rg_eq | refine rg_fr (by assumption) (by first | decide | (simp; omega)) ?_)), fr_set (fr_set (fr_set (fr_refl _ _) (List.mem_singleton.mpr rfl)) (List.mem_singleton.mpr rfl)) (List.mem_singleton.mpr rfl)⟩
end PINIT
section PINIT2
variable {l : Launch} {G : rG} {h : rH} {a : Nat} {nu sl ki z1 z2 z3 z4 : Int32}
set_option maxRecDepth 100000 in
set_option maxHeartbeats 400000 in
theorem k_X3_init_3 (ha : h[a]? = some (pc 3 z1 z2 z3 z4)) : rM l G 2 mX3_init 0 0 [.ref (gN G + a), .int nu, .int sl, .int ki] h (fun h' v => v = none ∧ h'[a]? = some (pc 3 nu sl ki z4) ∧ fr h h' [a]) := by
  refine rM_start (by decide) (Nat.le_of_ble_eq_true rfl) ?_
  refine a_aload_n 1 dX3_init_0 rfl rfl ?_
  refine a_iload_n 2 dX3_init_1 rfl rfl ?_
  refine a_iload_n 3 dX3_init_2 rfl rfl ?_
  refine a_iload_n 4 dX3_init_3 rfl rfl ?_
  refine a_callI ok_X7_init ln_X3_3 is_X7_init rfl rfl rfl 7 dX3_init_4 rfl (k_X7_init_3 ha) rfl rfl ⟨(Nat.le_of_ble_eq_true rfl), (Nat.le_of_ble_eq_true rfl)⟩ (Nat.le_of_ble_eq_true rfl) ⟨(Nat.le_of_ble_eq_true rfl), (Nat.le_of_ble_eq_true rfl)⟩ ?_
  rintro h1 v ⟨rfl, ha1, hf1⟩
  exact a_return dX3_init_7 rfl (Nat.le_of_ble_eq_true rfl) (Nat.le_of_ble_eq_true rfl) ⟨rfl, ha1, hf1⟩
set_option maxRecDepth 100000 in
set_option maxHeartbeats 400000 in
theorem k_X3_init_4 (ha : h[a]? = some (pc 4 z1 z2 z3 z4)) : rM l G 2 mX3_init 0 0 [.ref (gN G + a), .int nu, .int sl, .int ki] h (fun h' v => v = none ∧ h'[a]? = some (pc 4 nu sl ki z4) ∧ fr h h' [a]) := by
  refine rM_start (by decide) (Nat.le_of_ble_eq_true rfl) ?_
  refine a_aload_n 1 dX3_init_0 rfl rfl ?_
  refine a_iload_n 2 dX3_init_1 rfl rfl ?_
  refine a_iload_n 3 dX3_init_2 rfl rfl ?_
  refine a_iload_n 4 dX3_init_3 rfl rfl ?_
  refine a_callI ok_X7_init ln_X3_3 is_X7_init rfl rfl rfl 7 dX3_init_4 rfl (k_X7_init_4 ha) rfl rfl ⟨(Nat.le_of_ble_eq_true rfl), (Nat.le_of_ble_eq_true rfl)⟩ (Nat.le_of_ble_eq_true rfl) ⟨(Nat.le_of_ble_eq_true rfl), (Nat.le_of_ble_eq_true rfl)⟩ ?_
  rintro h1 v ⟨rfl, ha1, hf1⟩
  exact a_return dX3_init_7 rfl (Nat.le_of_ble_eq_true rfl) (Nat.le_of_ble_eq_true rfl) ⟨rfl, ha1, hf1⟩
set_option maxRecDepth 100000 in
set_option maxHeartbeats 400000 in
theorem k_X4_init_4 (ha : h[a]? = some (pc 4 z1 z2 z3 z4)) : rM l G 3 mX4_init 0 0 [.ref (gN G + a), .int nu, .int sl, .int ki] h (fun h' v => v = none ∧ h'[a]? = some (pc 4 nu sl ki z4) ∧ fr h h' [a]) := by
  refine rM_start (by decide) (Nat.le_of_ble_eq_true rfl) ?_
  refine a_aload_n 1 dX4_init_0 rfl rfl ?_
  refine a_iload_n 2 dX4_init_1 rfl rfl ?_
  refine a_iload_n 3 dX4_init_2 rfl rfl ?_
  refine a_iload_n 4 dX4_init_3 rfl rfl ?_
  refine a_callI ok_X3_init ln_X4_1 is_X3_init rfl rfl rfl 7 dX4_init_4 rfl (k_X3_init_4 ha) rfl rfl ⟨(Nat.le_of_ble_eq_true rfl), (Nat.le_of_ble_eq_true rfl)⟩ (Nat.le_of_ble_eq_true rfl) ⟨(Nat.le_of_ble_eq_true rfl), (Nat.le_of_ble_eq_true rfl)⟩ ?_
  rintro h1 v ⟨rfl, ha1, hf1⟩
  exact a_return dX4_init_7 rfl (Nat.le_of_ble_eq_true rfl) (Nat.le_of_ble_eq_true rfl) ⟨rfl, ha1, hf1⟩
end PINIT2
