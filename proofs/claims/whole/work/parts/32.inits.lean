theorem rg_app {h : rH} {a : Nat} {l : rH} {e : va_E} (hx : h[a]? = some e) : (h ++ l)[a]? = some e := by
  rw [List.getElem?_append_left (List.getElem?_eq_some_iff.mp hx).1]; exact hx
/-- a new array x, put into field k of the object at a (of class ci, fields fs) -/
abbrev nf (G : rG) (h : rH) (a ci k : Nat) (fs : List Value) (x : va_E) : rH := (h ++ [x]).set a (.inr (ci, fs.set k (.ref (gN G + h.length))))
abbrev aI (G : rG) (n : Nat) : va_E := .inl (gA G 0, n, .inl (fun _ => 0))
abbrev aZ (G : rG) (n : Nat) : va_E := .inl (gA G 1, n, .inl (fun _ => 0))
section INITS
variable {l : Launch} {G : rG} {h : rH} {a : Nat}
set_option maxRecDepth 100000 in
set_option maxHeartbeats 400000 in
theorem k_X8_init (hc : h[a]? = some (.inr (8, [.null, .int 0, .int 0, .int 0]))) : rM l G 1 mX8_init 1 60 [.ref (gN G + a)] h (rV (nf G h a 8 0 [.null, .int 0, .int 0, .int 0] (aI G 60)) none) := by
  refine rM_start (by decide) (Nat.le_of_ble_eq_true rfl) ?_
  refine a_aload_n 1 dX8_init_0 rfl rfl ?_
  refine a_objInit lo_X8_3 oi_i oi_c rfl 4 dX8_init_1 rfl (Nat.le_of_ble_eq_true rfl) (Nat.le_of_ble_eq_true rfl) ?_
  refine a_aload_n 5 dX8_init_4 rfl rfl ?_
  refine a_bipush (60) 7 dX8_init_5 rfl (by decide) ?_
  refine a_newarr_int wa_int 9 dX8_init_7 rfl (by decide) rfl (Nat.le_of_ble_eq_true rfl) ⟨(Nat.le_of_ble_eq_true rfl), (Nat.le_of_ble_eq_true rfl)⟩ ?_
  refine a_putF fd_X8_9 cl_X8 rfl 12 dX8_init_9 rfl (by repeat (first | assumption | (refine rg_ne (by first | decide | omega) ?_) | apply rg_eq | apply rg_app | refine rg_fr (by assumption) (by first | decide | (simp; omega)) ?_)) (Nat.le_of_ble_eq_true rfl) rfl rfl rfl ff_X8_9 rfl rfl ?_
  exact a_return dX8_init_12 rfl (Nat.le_of_ble_eq_true rfl) (Nat.le_of_ble_eq_true rfl) ⟨rfl, rfl⟩
set_option maxRecDepth 100000 in
set_option maxHeartbeats 400000 in
theorem k_X9_init : rM l G 1 mX9_init 0 0 [.ref (gN G + a)] h (rV h none) := by
  refine rM_start (by decide) (Nat.le_of_ble_eq_true rfl) ?_
  refine a_aload_n 1 dX9_init_0 rfl rfl ?_
  refine a_objInit lo_X9_3 oi_i oi_c rfl 4 dX9_init_1 rfl (Nat.le_of_ble_eq_true rfl) (Nat.le_of_ble_eq_true rfl) ?_
  exact a_return dX9_init_4 rfl (Nat.le_of_ble_eq_true rfl) (Nat.le_of_ble_eq_true rfl) ⟨rfl, rfl⟩
set_option maxRecDepth 100000 in
set_option maxHeartbeats 400000 in
theorem k_X10_init (hc : h[a]? = some (.inr (9, [.null, .null, .int 0]))) : rM l G 1 mX10_init 2 48 [.ref (gN G + a)] h (rV (nf G (nf G h a 9 0 [.null, .null, .int 0] (aI G 24)) a 9 1 [.ref (gN G + h.length), .null, .int 0] (aI G 24)) none) := by
  refine rM_start (by decide) (Nat.le_of_ble_eq_true rfl) ?_
  refine a_aload_n 1 dX10_init_0 rfl rfl ?_
  refine a_objInit lo_X10_3 oi_i oi_c rfl 4 dX10_init_1 rfl (Nat.le_of_ble_eq_true rfl) (Nat.le_of_ble_eq_true rfl) ?_
  refine a_aload_n 5 dX10_init_4 rfl rfl ?_
  refine a_bipush (24) 7 dX10_init_5 rfl (by decide) ?_
  refine a_newarr_int wa_int 9 dX10_init_7 rfl (by decide) rfl (Nat.le_of_ble_eq_true rfl) ⟨(Nat.le_of_ble_eq_true rfl), (Nat.le_of_ble_eq_true rfl)⟩ ?_
  refine a_putF fd_X10_9 cl_X10 rfl 12 dX10_init_9 rfl (by repeat (first | assumption | (refine rg_ne (by first | decide | omega) ?_) | apply rg_eq | apply rg_app | refine rg_fr (by assumption) (by first | decide | (simp; omega)) ?_)) (Nat.le_of_ble_eq_true rfl) rfl rfl rfl ff_X10_9 rfl rfl ?_
  refine a_aload_n 13 dX10_init_12 rfl rfl ?_
  refine a_bipush (24) 15 dX10_init_13 rfl (by decide) ?_
  refine a_newarr_int wa_int 17 dX10_init_15 rfl (by decide) rfl (Nat.le_of_ble_eq_true rfl) ⟨(Nat.le_of_ble_eq_true rfl), (Nat.le_of_ble_eq_true rfl)⟩ ?_
  refine a_putF fd_X10_15 cl_X10 rfl 20 dX10_init_17 rfl (by repeat (first | assumption | (refine rg_ne (by first | decide | omega) ?_) | apply rg_eq | apply rg_app | refine rg_fr (by assumption) (by first | decide | (simp; omega)) ?_)) (Nat.le_of_ble_eq_true rfl) rfl rfl rfl ff_X10_15 rfl rfl ?_
  exact a_return dX10_init_20 rfl (Nat.le_of_ble_eq_true rfl) (Nat.le_of_ble_eq_true rfl) ⟨rfl, rfl⟩
set_option maxRecDepth 100000 in
set_option maxHeartbeats 400000 in
theorem k_X2_init (hc : h[a]? = some (.inr (2, [.null, .int 0, .int 0, .int 0, .int 0, .int 0]))) : rM l G 2 mX2_init 1 32 [.ref (gN G + a)] h (rV (nf G h a 2 0 [.null, .int 0, .int 0, .int 0, .int 0, .int 0] (aI G 32)) none) := by
  refine rM_start (by decide) (Nat.le_of_ble_eq_true rfl) ?_
  refine a_aload_n 1 dX2_init_0 rfl rfl ?_
  refine a_callI ok_X9_init ln_X2_3 is_X9_init rfl rfl rfl 4 dX2_init_1 rfl (k_X9_init) rfl rfl ⟨(Nat.le_of_ble_eq_true rfl), (Nat.le_of_ble_eq_true rfl)⟩ (Nat.le_of_ble_eq_true rfl) ⟨(Nat.le_of_ble_eq_true rfl), (Nat.le_of_ble_eq_true rfl)⟩ ?_
  rintro _ _ ⟨rfl, rfl⟩
  refine a_aload_n 5 dX2_init_4 rfl rfl ?_
  refine a_bipush (32) 7 dX2_init_5 rfl (by decide) ?_
  refine a_newarr_int wa_int 9 dX2_init_7 rfl (by decide) rfl (Nat.le_of_ble_eq_true rfl) ⟨(Nat.le_of_ble_eq_true rfl), (Nat.le_of_ble_eq_true rfl)⟩ ?_
  refine a_putF fd_X2_9 cl_X2 rfl 12 dX2_init_9 rfl (by repeat (first | assumption | (refine rg_ne (by first | decide | omega) ?_) | apply rg_eq | apply rg_app | refine rg_fr (by assumption) (by first | decide | (simp; omega)) ?_)) (Nat.le_of_ble_eq_true rfl) rfl rfl rfl ff_X2_9 rfl rfl ?_
  exact a_return dX2_init_12 rfl (Nat.le_of_ble_eq_true rfl) (Nat.le_of_ble_eq_true rfl) ⟨rfl, rfl⟩
set_option maxRecDepth 100000 in
set_option maxHeartbeats 400000 in
theorem k_X6_init (hc : h[a]? = some (.inr (6, [.null, .null, .int 0, .int 0, .int 0]))) : rM l G 2 mX6_init 2 14 [.ref (gN G + a)] h (rV (nf G (nf G h a 6 0 [.null, .null, .int 0, .int 0, .int 0] (aI G 7)) a 6 1 [.ref (gN G + h.length), .null, .int 0, .int 0, .int 0] (aZ G 7)) none) := by
  refine rM_start (by decide) (Nat.le_of_ble_eq_true rfl) ?_
  refine a_aload_n 1 dX6_init_0 rfl rfl ?_
  refine a_callI ok_X9_init ln_X6_3 is_X9_init rfl rfl rfl 4 dX6_init_1 rfl (k_X9_init) rfl rfl ⟨(Nat.le_of_ble_eq_true rfl), (Nat.le_of_ble_eq_true rfl)⟩ (Nat.le_of_ble_eq_true rfl) ⟨(Nat.le_of_ble_eq_true rfl), (Nat.le_of_ble_eq_true rfl)⟩ ?_
  rintro _ _ ⟨rfl, rfl⟩
  refine a_aload_n 5 dX6_init_4 rfl rfl ?_
  refine a_bipush (7) 7 dX6_init_5 rfl (by decide) ?_
  refine a_newarr_int wa_int 9 dX6_init_7 rfl (by decide) rfl (Nat.le_of_ble_eq_true rfl) ⟨(Nat.le_of_ble_eq_true rfl), (Nat.le_of_ble_eq_true rfl)⟩ ?_
  refine a_putF fd_X6_9 cl_X6 rfl 12 dX6_init_9 rfl (by repeat (first | assumption | (refine rg_ne (by first | decide | omega) ?_) | apply rg_eq | apply rg_app | refine rg_fr (by assumption) (by first | decide | (simp; omega)) ?_)) (Nat.le_of_ble_eq_true rfl) rfl rfl rfl ff_X6_9 rfl rfl ?_
  refine a_aload_n 13 dX6_init_12 rfl rfl ?_
  refine a_bipush (7) 15 dX6_init_13 rfl (by decide) ?_
  refine a_newarr_bool wa_bool 17 dX6_init_15 rfl (by decide) rfl (Nat.le_of_ble_eq_true rfl) ⟨(Nat.le_of_ble_eq_true rfl), (Nat.le_of_ble_eq_true rfl)⟩ ?_
  refine a_putF fd_X6_15 cl_X6 rfl 20 dX6_init_17 rfl (by repeat (first | assumption | (refine rg_ne (by first | decide | omega) ?_) | apply rg_eq | apply rg_app | refine rg_fr (by assumption) (by first | decide | (simp; omega)) ?_)) (Nat.le_of_ble_eq_true rfl) rfl rfl rfl ff_X6_15 rfl rfl ?_
  exact a_return dX6_init_20 rfl (Nat.le_of_ble_eq_true rfl) (Nat.le_of_ble_eq_true rfl) ⟨rfl, rfl⟩
end INITS
