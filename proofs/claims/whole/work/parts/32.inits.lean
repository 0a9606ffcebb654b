theorem rg_app {h : rH} {a : Nat} {l : rH} {e : va_E} (hx : h[a]? = some e) : (h ++ l)[a]? = some e := by
  rw [List.getElem?_append_left (List.getElem?_eq_some_iff.mp hx).1]; exact hx
section INITS
variable {l : Launch} {G : rG} {h : rH} {a : Nat}
set_option maxRecDepth 100000 in
set_option maxHeartbeats 400000 in
theorem k_X8_init (hc : h[a]? = some (.inr (8, [.null, .int 0, .int 0, .int 0]))) : rM l G 1 mX8_init 1 60 [.ref (gN G + a)] h (rV ((h ++ [(.inl (gA G 0, 60, .inl (fun _ => 0)) : va_E)]).set a (.inr (8, [.ref (gN G + h.length), .int 0, .int 0, .int 0]))) none) := by
  refine rM_start (by decide) (Nat.le_of_ble_eq_true rfl) ?_
  refine a_aload_n 1 dX8_init_0 rfl rfl ?_
  refine a_objInit lo_X8_3 oi_i oi_c rfl 4 dX8_init_1 rfl (Nat.le_of_ble_eq_true rfl) (Nat.le_of_ble_eq_true rfl) ?_
  refine a_aload_n 5 dX8_init_4 rfl rfl ?_
  refine a_bipush (60) 7 dX8_init_5 rfl (by decide) ?_
  refine a_newarr_int wa_int 9 dX8_init_7 rfl (by decide) rfl (Nat.le_of_ble_eq_true rfl) ⟨(Nat.le_of_ble_eq_true rfl), (Nat.le_of_ble_eq_true rfl)⟩ ?_
  refine a_putF fd_X8_9 cl_X8 rfl 12 dX8_init_9 rfl (by repeat (first | assumption | (refine rg_ne (by first | decide | omega) ?_) | apply rg_eq | apply rg_app | refine rg_fr (by assumption) (by first | decide | (simp; omega)) ?_)) (Nat.le_of_ble_eq_true rfl) rfl rfl rfl ff_X8_9 rfl rfl ?_
  exact a_return dX8_init_12 rfl (Nat.le_of_ble_eq_true rfl) (Nat.le_of_ble_eq_true rfl) ⟨rfl, rfl⟩
end INITS
