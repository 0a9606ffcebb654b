/-! THE MODEL's constructor -/
section MCTOR
variable {l : Launch} {G : rG}
abbrev HM4 (G : rG) : rH := H38 G ++ [.inr (11, [.int 0, .int 0, .int 0, .int 0, .ref (gN G + 39), .ref (gN G + 40), .ref (gN G + 41), .int 0, .int 0, .int 0, .int 0, .int 0, .ref (gN G + 42), .ref (gN G + 43), .ref (gN G + 44), .int 0, .ref (gN G + 45), .ref (gN G + 46), .ref (gN G + 47), .ref (gN G + 48), .int 0, .ref (gN G + 49), .ref (gN G + 50), .int 0, .ref (gN G + 51), .ref (gN G + 52), .ref (gN G + 53), .int 0, .ref (gN G + 54), .ref (gN G + 55), .ref (gN G + 56), .int 0, .int 0, .long 0, .long 0, .ref (gN G + 57), .ref (gN G + 58), .ref (gN G + 59), .ref (gN G + 60), .int 0]), aI G 32, aZ G 32, aZ G 32, aI G 32, aI G 128, aZ G 32, aI G 12, aI G 12, aI G 12, aI G 12, aI G 42, aI G 7, aI G 24, aI G 24, aI G 24, aI G 64, aI G 64, aI G 3, .inl (gA G 0, 4, .inl (upd (upd (upd (upd (fun _ => 0) 0 (-1)) 1 (-1)) 2 (-1)) 3 (-1))), aI G 4, aI G 240, aI G 60]
abbrev HM3 (G : rG) : rH := H38 G ++ [.inr (11, [.int 0, .int 0, .int 0, .int 0, .ref (gN G + 39), .ref (gN G + 40), .ref (gN G + 41), .int 0, .int 0, .int 0, .int 0, .int 0, .ref (gN G + 42), .ref (gN G + 43), .ref (gN G + 44), .int 0, .ref (gN G + 45), .ref (gN G + 46), .ref (gN G + 47), .ref (gN G + 48), .int 0, .ref (gN G + 49), .ref (gN G + 50), .int 0, .ref (gN G + 51), .ref (gN G + 52), .ref (gN G + 53), .int 0, .ref (gN G + 54), .ref (gN G + 55), .ref (gN G + 56), .int 0, .int 0, .long 0, .long 0, .ref (gN G + 57), .ref (gN G + 58), .ref (gN G + 59), .ref (gN G + 60), .int 0]), aI G 32, aZ G 32, aZ G 32, aI G 32, aI G 128, aZ G 32, aI G 12, aI G 12, aI G 12, aI G 12, aI G 42, aI G 7, aI G 24, aI G 24, aI G 24, aI G 64, aI G 64, aI G 3, .inl (gA G 0, 4, .inl (upd (upd (upd (fun _ => 0) 0 (-1)) 1 (-1)) 2 (-1))), aI G 4, aI G 240, aI G 60]
abbrev HM2 (G : rG) : rH := H38 G ++ [.inr (11, [.int 0, .int 0, .int 0, .int 0, .ref (gN G + 39), .ref (gN G + 40), .ref (gN G + 41), .int 0, .int 0, .int 0, .int 0, .int 0, .ref (gN G + 42), .ref (gN G + 43), .ref (gN G + 44), .int 0, .ref (gN G + 45), .ref (gN G + 46), .ref (gN G + 47), .ref (gN G + 48), .int 0, .ref (gN G + 49), .ref (gN G + 50), .int 0, .ref (gN G + 51), .ref (gN G + 52), .ref (gN G + 53), .int 0, .ref (gN G + 54), .ref (gN G + 55), .ref (gN G + 56), .int 0, .int 0, .long 0, .long 0, .ref (gN G + 57), .ref (gN G + 58), .ref (gN G + 59), .ref (gN G + 60), .int 0]), aI G 32, aZ G 32, aZ G 32, aI G 32, aI G 128, aZ G 32, aI G 12, aI G 12, aI G 12, aI G 12, aI G 42, aI G 7, aI G 24, aI G 24, aI G 24, aI G 64, aI G 64, aI G 3, .inl (gA G 0, 4, .inl (upd (upd (fun _ => 0) 0 (-1)) 1 (-1))), aI G 4, aI G 240, aI G 60]
abbrev HM1 (G : rG) : rH := H38 G ++ [.inr (11, [.int 0, .int 0, .int 0, .int 0, .ref (gN G + 39), .ref (gN G + 40), .ref (gN G + 41), .int 0, .int 0, .int 0, .int 0, .int 0, .ref (gN G + 42), .ref (gN G + 43), .ref (gN G + 44), .int 0, .ref (gN G + 45), .ref (gN G + 46), .ref (gN G + 47), .ref (gN G + 48), .int 0, .ref (gN G + 49), .ref (gN G + 50), .int 0, .ref (gN G + 51), .ref (gN G + 52), .ref (gN G + 53), .int 0, .ref (gN G + 54), .ref (gN G + 55), .ref (gN G + 56), .int 0, .int 0, .long 0, .long 0, .ref (gN G + 57), .ref (gN G + 58), .ref (gN G + 59), .ref (gN G + 60), .int 0]), aI G 32, aZ G 32, aZ G 32, aI G 32, aI G 128, aZ G 32, aI G 12, aI G 12, aI G 12, aI G 12, aI G 42, aI G 7, aI G 24, aI G 24, aI G 24, aI G 64, aI G 64, aI G 3, .inl (gA G 0, 4, .inl (upd (fun _ => 0) 0 (-1))), aI G 4, aI G 240, aI G 60]
abbrev HM0 (G : rG) : rH := H38 G ++ [.inr (11, [.int 0, .int 0, .int 0, .int 0, .ref (gN G + 39), .ref (gN G + 40), .ref (gN G + 41), .int 0, .int 0, .int 0, .int 0, .int 0, .ref (gN G + 42), .ref (gN G + 43), .ref (gN G + 44), .int 0, .ref (gN G + 45), .ref (gN G + 46), .ref (gN G + 47), .ref (gN G + 48), .int 0, .ref (gN G + 49), .ref (gN G + 50), .int 0, .ref (gN G + 51), .ref (gN G + 52), .ref (gN G + 53), .int 0, .ref (gN G + 54), .ref (gN G + 55), .ref (gN G + 56), .int 0, .int 0, .long 0, .long 0, .ref (gN G + 57), .ref (gN G + 58), .ref (gN G + 59), .ref (gN G + 60), .int 0]), aI G 32, aZ G 32, aZ G 32, aI G 32, aI G 128, aZ G 32, aI G 12, aI G 12, aI G 12, aI G 12, aI G 42, aI G 7, aI G 24, aI G 24, aI G 24, aI G 64, aI G 64, aI G 3, .inl (gA G 0, 4, .inl (fun _ => 0)), aI G 4, aI G 240, aI G 60]
set_option maxRecDepth 100000 in
set_option maxHeartbeats 400000 in
theorem q_M4 : rW l G (rRm 1 22 896) mX12_init (rZ G (rV (HM4 G) none) 22 896) 22 896 181 [some (.ref (gN G + 38)), some (.int (nI 4))] [] (HM4 G) := by
  refine a_iload_n 182 dX12_init_181 rfl rfl ?_
  refine a_iconst (4) 183 dX12_init_182 rfl (by decide) ?_
  refine a_icmp_ge 199 186 dX12_init_183 rfl (by decide) (fun c_183 => ?_) (fun c_183 => absurd (by decide) c_183)
  exact a_return dX12_init_199 rfl (Nat.le_of_ble_eq_true rfl) (Nat.le_of_ble_eq_true rfl) ⟨rfl, rfl⟩
set_option maxRecDepth 100000 in
set_option maxHeartbeats 400000 in
theorem q_M3 : rW l G (rRm 1 22 896) mX12_init (rZ G (rV (HM4 G) none) 22 896) 22 896 181 [some (.ref (gN G + 38)), some (.int (nI 3))] [] (HM3 G) := by
  have v3 : vp_in (nI 3) 4 := vp_in_nI (by decide) (by decide)
  refine a_iload_n 182 dX12_init_181 rfl rfl ?_
  refine a_iconst (4) 183 dX12_init_182 rfl (by decide) ?_
  refine a_icmp_ge 199 186 dX12_init_183 rfl (by decide) (fun c_183 => absurd c_183 (by decide)) (fun c_183 => ?_)
  refine a_aload_n 187 dX12_init_186 rfl rfl ?_
  refine a_get fd_X12_65 rfl 190 dX12_init_187 rfl rfl rfl ?_
  refine a_iload_n 191 dX12_init_190 rfl rfl ?_
  refine a_iconst (-1) 192 dX12_init_191 rfl (by decide) ?_
  refine a_iastore 193 dX12_init_192 rfl rfl v3 ?_
  refine a_iinc _ 196 dX12_init_193 rfl rfl (by decide) rfl ?_
  refine a_goto 181 dX12_init_196 (by decide) ?_
  refine rW_h (h' := HM4 G) rfl ?_
  exact q_M4
set_option maxRecDepth 100000 in
set_option maxHeartbeats 400000 in
theorem q_M2 : rW l G (rRm 1 22 896) mX12_init (rZ G (rV (HM4 G) none) 22 896) 22 896 181 [some (.ref (gN G + 38)), some (.int (nI 2))] [] (HM2 G) := by
  have v2 : vp_in (nI 2) 4 := vp_in_nI (by decide) (by decide)
  refine a_iload_n 182 dX12_init_181 rfl rfl ?_
  refine a_iconst (4) 183 dX12_init_182 rfl (by decide) ?_
  refine a_icmp_ge 199 186 dX12_init_183 rfl (by decide) (fun c_183 => absurd c_183 (by decide)) (fun c_183 => ?_)
  refine a_aload_n 187 dX12_init_186 rfl rfl ?_
  refine a_get fd_X12_65 rfl 190 dX12_init_187 rfl rfl rfl ?_
  refine a_iload_n 191 dX12_init_190 rfl rfl ?_
  refine a_iconst (-1) 192 dX12_init_191 rfl (by decide) ?_
  refine a_iastore 193 dX12_init_192 rfl rfl v2 ?_
  refine a_iinc _ 196 dX12_init_193 rfl rfl (by decide) rfl ?_
  refine a_goto 181 dX12_init_196 (by decide) ?_
  refine rW_h (h' := HM3 G) rfl ?_
  exact q_M3
set_option maxRecDepth 100000 in
set_option maxHeartbeats 400000 in
theorem q_M1 : rW l G (rRm 1 22 896) mX12_init (rZ G (rV (HM4 G) none) 22 896) 22 896 181 [some (.ref (gN G + 38)), some (.int (nI 1))] [] (HM1 G) := by
  have v1 : vp_in (nI 1) 4 := vp_in_nI (by decide) (by decide)
  refine a_iload_n 182 dX12_init_181 rfl rfl ?_
  refine a_iconst (4) 183 dX12_init_182 rfl (by decide) ?_
  refine a_icmp_ge 199 186 dX12_init_183 rfl (by decide) (fun c_183 => absurd c_183 (by decide)) (fun c_183 => ?_)
  refine a_aload_n 187 dX12_init_186 rfl rfl ?_
  refine a_get fd_X12_65 rfl 190 dX12_init_187 rfl rfl rfl ?_
  refine a_iload_n 191 dX12_init_190 rfl rfl ?_
  refine a_iconst (-1) 192 dX12_init_191 rfl (by decide) ?_
  refine a_iastore 193 dX12_init_192 rfl rfl v1 ?_
  refine a_iinc _ 196 dX12_init_193 rfl rfl (by decide) rfl ?_
  refine a_goto 181 dX12_init_196 (by decide) ?_
  refine rW_h (h' := HM2 G) rfl ?_
  exact q_M2
set_option maxRecDepth 100000 in
set_option maxHeartbeats 400000 in
theorem q_M0 : rW l G (rRm 1 22 896) mX12_init (rZ G (rV (HM4 G) none) 22 896) 22 896 181 [some (.ref (gN G + 38)), some (.int (nI 0))] [] (HM0 G) := by
  have v0 : vp_in (nI 0) 4 := vp_in_nI (by decide) (by decide)
  refine a_iload_n 182 dX12_init_181 rfl rfl ?_
  refine a_iconst (4) 183 dX12_init_182 rfl (by decide) ?_
  refine a_icmp_ge 199 186 dX12_init_183 rfl (by decide) (fun c_183 => absurd c_183 (by decide)) (fun c_183 => ?_)
  refine a_aload_n 187 dX12_init_186 rfl rfl ?_
  refine a_get fd_X12_65 rfl 190 dX12_init_187 rfl rfl rfl ?_
  refine a_iload_n 191 dX12_init_190 rfl rfl ?_
  refine a_iconst (-1) 192 dX12_init_191 rfl (by decide) ?_
  refine a_iastore 193 dX12_init_192 rfl rfl v0 ?_
  refine a_iinc _ 196 dX12_init_193 rfl rfl (by decide) rfl ?_
  refine a_goto 181 dX12_init_196 (by decide) ?_
  refine rW_h (h' := HM1 G) rfl ?_
  exact q_M1
set_option maxRecDepth 100000 in
set_option maxHeartbeats 400000 in
theorem q_X12 : rM l G 1 mX12_init 22 896 [.ref (gN G + 38)] (H38 G ++ [.inr (11, [.int 0, .int 0, .int 0, .int 0, .null, .null, .null, .int 0, .int 0, .int 0, .int 0, .int 0, .null, .null, .null, .int 0, .null, .null, .null, .null, .int 0, .null, .null, .int 0, .null, .null, .null, .int 0, .null, .null, .null, .int 0, .int 0, .long 0, .long 0, .null, .null, .null, .null, .int 0])]) (rV (HM4 G) none) := by
  refine rM_start (by decide) (Nat.le_of_ble_eq_true rfl) ?_
  refine a_aload_n 1 dX12_init_0 rfl rfl ?_
  refine a_objInit lo_X12_1 oi_i oi_c rfl 4 dX12_init_1 rfl (Nat.le_of_ble_eq_true rfl) (Nat.le_of_ble_eq_true rfl) ?_
  refine a_aload_n 5 dX12_init_4 rfl rfl ?_
  refine a_bipush (32) 7 dX12_init_5 rfl (by decide) ?_
  refine a_newarr_int wa_int 9 dX12_init_7 rfl (by decide) rfl (Nat.le_of_ble_eq_true rfl) ⟨(Nat.le_of_ble_eq_true rfl), (Nat.le_of_ble_eq_true rfl)⟩ ?_
  refine a_putF fd_X12_7 cl_X12 rfl 12 dX12_init_9 rfl rfl (Nat.le_of_ble_eq_true rfl) rfl rfl rfl ff_X12_7 rfl rfl ?_
  refine rW_h (h' := H38 G ++ [.inr (11, [.int 0, .int 0, .int 0, .int 0, .ref (gN G + 39), .null, .null, .int 0, .int 0, .int 0, .int 0, .int 0, .null, .null, .null, .int 0, .null, .null, .null, .null, .int 0, .null, .null, .int 0, .null, .null, .null, .int 0, .null, .null, .null, .int 0, .int 0, .long 0, .long 0, .null, .null, .null, .null, .int 0]), aI G 32]) rfl ?_
  refine a_aload_n 13 dX12_init_12 rfl rfl ?_
  refine a_bipush (32) 15 dX12_init_13 rfl (by decide) ?_
  refine a_newarr_bool wa_bool 17 dX12_init_15 rfl (by decide) rfl (Nat.le_of_ble_eq_true rfl) ⟨(Nat.le_of_ble_eq_true rfl), (Nat.le_of_ble_eq_true rfl)⟩ ?_
  refine a_putF fd_X12_13 cl_X12 rfl 20 dX12_init_17 rfl rfl (Nat.le_of_ble_eq_true rfl) rfl rfl rfl ff_X12_13 rfl rfl ?_
  refine rW_h (h' := H38 G ++ [.inr (11, [.int 0, .int 0, .int 0, .int 0, .ref (gN G + 39), .ref (gN G + 40), .null, .int 0, .int 0, .int 0, .int 0, .int 0, .null, .null, .null, .int 0, .null, .null, .null, .null, .int 0, .null, .null, .int 0, .null, .null, .null, .int 0, .null, .null, .null, .int 0, .int 0, .long 0, .long 0, .null, .null, .null, .null, .int 0]), aI G 32, aZ G 32]) rfl ?_
  refine a_aload_n 21 dX12_init_20 rfl rfl ?_
  refine a_bipush (32) 23 dX12_init_21 rfl (by decide) ?_
  refine a_newarr_bool wa_bool 25 dX12_init_23 rfl (by decide) rfl (Nat.le_of_ble_eq_true rfl) ⟨(Nat.le_of_ble_eq_true rfl), (Nat.le_of_ble_eq_true rfl)⟩ ?_
  refine a_putF fd_X12_17 cl_X12 rfl 28 dX12_init_25 rfl rfl (Nat.le_of_ble_eq_true rfl) rfl rfl rfl ff_X12_17 rfl rfl ?_
  refine rW_h (h' := H38 G ++ [.inr (11, [.int 0, .int 0, .int 0, .int 0, .ref (gN G + 39), .ref (gN G + 40), .ref (gN G + 41), .int 0, .int 0, .int 0, .int 0, .int 0, .null, .null, .null, .int 0, .null, .null, .null, .null, .int 0, .null, .null, .int 0, .null, .null, .null, .int 0, .null, .null, .null, .int 0, .int 0, .long 0, .long 0, .null, .null, .null, .null, .int 0]), aI G 32, aZ G 32, aZ G 32]) rfl ?_
  refine a_aload_n 29 dX12_init_28 rfl rfl ?_
  refine a_bipush (32) 31 dX12_init_29 rfl (by decide) ?_
  refine a_newarr_int wa_int 33 dX12_init_31 rfl (by decide) rfl (Nat.le_of_ble_eq_true rfl) ⟨(Nat.le_of_ble_eq_true rfl), (Nat.le_of_ble_eq_true rfl)⟩ ?_
  refine a_putF fd_X12_20 cl_X12 rfl 36 dX12_init_33 rfl rfl (Nat.le_of_ble_eq_true rfl) rfl rfl rfl ff_X12_20 rfl rfl ?_
  refine rW_h (h' := H38 G ++ [.inr (11, [.int 0, .int 0, .int 0, .int 0, .ref (gN G + 39), .ref (gN G + 40), .ref (gN G + 41), .int 0, .int 0, .int 0, .int 0, .int 0, .ref (gN G + 42), .null, .null, .int 0, .null, .null, .null, .null, .int 0, .null, .null, .int 0, .null, .null, .null, .int 0, .null, .null, .null, .int 0, .int 0, .long 0, .long 0, .null, .null, .null, .null, .int 0]), aI G 32, aZ G 32, aZ G 32, aI G 32]) rfl ?_
  refine a_aload_n 37 dX12_init_36 rfl rfl ?_
  refine a_sipush (128) 40 dX12_init_37 rfl (by decide) ?_
  refine a_newarr_int wa_int 42 dX12_init_40 rfl (by decide) rfl (Nat.le_of_ble_eq_true rfl) ⟨(Nat.le_of_ble_eq_true rfl), (Nat.le_of_ble_eq_true rfl)⟩ ?_
  refine a_putF fd_X12_23 cl_X12 rfl 45 dX12_init_42 rfl rfl (Nat.le_of_ble_eq_true rfl) rfl rfl rfl ff_X12_23 rfl rfl ?_
  refine rW_h (h' := H38 G ++ [.inr (11, [.int 0, .int 0, .int 0, .int 0, .ref (gN G + 39), .ref (gN G + 40), .ref (gN G + 41), .int 0, .int 0, .int 0, .int 0, .int 0, .ref (gN G + 42), .ref (gN G + 43), .null, .int 0, .null, .null, .null, .null, .int 0, .null, .null, .int 0, .null, .null, .null, .int 0, .null, .null, .null, .int 0, .int 0, .long 0, .long 0, .null, .null, .null, .null, .int 0]), aI G 32, aZ G 32, aZ G 32, aI G 32, aI G 128]) rfl ?_
  refine a_aload_n 46 dX12_init_45 rfl rfl ?_
  refine a_bipush (32) 48 dX12_init_46 rfl (by decide) ?_
  refine a_newarr_bool wa_bool 50 dX12_init_48 rfl (by decide) rfl (Nat.le_of_ble_eq_true rfl) ⟨(Nat.le_of_ble_eq_true rfl), (Nat.le_of_ble_eq_true rfl)⟩ ?_
  refine a_putF fd_X12_26 cl_X12 rfl 53 dX12_init_50 rfl rfl (Nat.le_of_ble_eq_true rfl) rfl rfl rfl ff_X12_26 rfl rfl ?_
  refine rW_h (h' := H38 G ++ [.inr (11, [.int 0, .int 0, .int 0, .int 0, .ref (gN G + 39), .ref (gN G + 40), .ref (gN G + 41), .int 0, .int 0, .int 0, .int 0, .int 0, .ref (gN G + 42), .ref (gN G + 43), .ref (gN G + 44), .int 0, .null, .null, .null, .null, .int 0, .null, .null, .int 0, .null, .null, .null, .int 0, .null, .null, .null, .int 0, .int 0, .long 0, .long 0, .null, .null, .null, .null, .int 0]), aI G 32, aZ G 32, aZ G 32, aI G 32, aI G 128, aZ G 32]) rfl ?_
  refine a_aload_n 54 dX12_init_53 rfl rfl ?_
  refine a_bipush (12) 56 dX12_init_54 rfl (by decide) ?_
  refine a_newarr_int wa_int 58 dX12_init_56 rfl (by decide) rfl (Nat.le_of_ble_eq_true rfl) ⟨(Nat.le_of_ble_eq_true rfl), (Nat.le_of_ble_eq_true rfl)⟩ ?_
  refine a_putF fd_X12_29 cl_X12 rfl 61 dX12_init_58 rfl rfl (Nat.le_of_ble_eq_true rfl) rfl rfl rfl ff_X12_29 rfl rfl ?_
  refine rW_h (h' := H38 G ++ [.inr (11, [.int 0, .int 0, .int 0, .int 0, .ref (gN G + 39), .ref (gN G + 40), .ref (gN G + 41), .int 0, .int 0, .int 0, .int 0, .int 0, .ref (gN G + 42), .ref (gN G + 43), .ref (gN G + 44), .int 0, .ref (gN G + 45), .null, .null, .null, .int 0, .null, .null, .int 0, .null, .null, .null, .int 0, .null, .null, .null, .int 0, .int 0, .long 0, .long 0, .null, .null, .null, .null, .int 0]), aI G 32, aZ G 32, aZ G 32, aI G 32, aI G 128, aZ G 32, aI G 12]) rfl ?_
  refine a_aload_n 62 dX12_init_61 rfl rfl ?_
  refine a_bipush (12) 64 dX12_init_62 rfl (by decide) ?_
  refine a_newarr_int wa_int 66 dX12_init_64 rfl (by decide) rfl (Nat.le_of_ble_eq_true rfl) ⟨(Nat.le_of_ble_eq_true rfl), (Nat.le_of_ble_eq_true rfl)⟩ ?_
  refine a_putF fd_X12_32 cl_X12 rfl 69 dX12_init_66 rfl rfl (Nat.le_of_ble_eq_true rfl) rfl rfl rfl ff_X12_32 rfl rfl ?_
  refine rW_h (h' := H38 G ++ [.inr (11, [.int 0, .int 0, .int 0, .int 0, .ref (gN G + 39), .ref (gN G + 40), .ref (gN G + 41), .int 0, .int 0, .int 0, .int 0, .int 0, .ref (gN G + 42), .ref (gN G + 43), .ref (gN G + 44), .int 0, .ref (gN G + 45), .ref (gN G + 46), .null, .null, .int 0, .null, .null, .int 0, .null, .null, .null, .int 0, .null, .null, .null, .int 0, .int 0, .long 0, .long 0, .null, .null, .null, .null, .int 0]), aI G 32, aZ G 32, aZ G 32, aI G 32, aI G 128, aZ G 32, aI G 12, aI G 12]) rfl ?_
  refine a_aload_n 70 dX12_init_69 rfl rfl ?_
  refine a_bipush (12) 72 dX12_init_70 rfl (by decide) ?_
  refine a_newarr_int wa_int 74 dX12_init_72 rfl (by decide) rfl (Nat.le_of_ble_eq_true rfl) ⟨(Nat.le_of_ble_eq_true rfl), (Nat.le_of_ble_eq_true rfl)⟩ ?_
  refine a_putF fd_X12_35 cl_X12 rfl 77 dX12_init_74 rfl rfl (Nat.le_of_ble_eq_true rfl) rfl rfl rfl ff_X12_35 rfl rfl ?_
  refine rW_h (h' := H38 G ++ [.inr (11, [.int 0, .int 0, .int 0, .int 0, .ref (gN G + 39), .ref (gN G + 40), .ref (gN G + 41), .int 0, .int 0, .int 0, .int 0, .int 0, .ref (gN G + 42), .ref (gN G + 43), .ref (gN G + 44), .int 0, .ref (gN G + 45), .ref (gN G + 46), .ref (gN G + 47), .null, .int 0, .null, .null, .int 0, .null, .null, .null, .int 0, .null, .null, .null, .int 0, .int 0, .long 0, .long 0, .null, .null, .null, .null, .int 0]), aI G 32, aZ G 32, aZ G 32, aI G 32, aI G 128, aZ G 32, aI G 12, aI G 12, aI G 12]) rfl ?_
  refine a_aload_n 78 dX12_init_77 rfl rfl ?_
  refine a_bipush (12) 80 dX12_init_78 rfl (by decide) ?_
  refine a_newarr_int wa_int 82 dX12_init_80 rfl (by decide) rfl (Nat.le_of_ble_eq_true rfl) ⟨(Nat.le_of_ble_eq_true rfl), (Nat.le_of_ble_eq_true rfl)⟩ ?_
  refine a_putF fd_X12_38 cl_X12 rfl 85 dX12_init_82 rfl rfl (Nat.le_of_ble_eq_true rfl) rfl rfl rfl ff_X12_38 rfl rfl ?_
  refine rW_h (h' := H38 G ++ [.inr (11, [.int 0, .int 0, .int 0, .int 0, .ref (gN G + 39), .ref (gN G + 40), .ref (gN G + 41), .int 0, .int 0, .int 0, .int 0, .int 0, .ref (gN G + 42), .ref (gN G + 43), .ref (gN G + 44), .int 0, .ref (gN G + 45), .ref (gN G + 46), .ref (gN G + 47), .ref (gN G + 48), .int 0, .null, .null, .int 0, .null, .null, .null, .int 0, .null, .null, .null, .int 0, .int 0, .long 0, .long 0, .null, .null, .null, .null, .int 0]), aI G 32, aZ G 32, aZ G 32, aI G 32, aI G 128, aZ G 32, aI G 12, aI G 12, aI G 12, aI G 12]) rfl ?_
  refine a_aload_n 86 dX12_init_85 rfl rfl ?_
  refine a_bipush (42) 88 dX12_init_86 rfl (by decide) ?_
  refine a_newarr_int wa_int 90 dX12_init_88 rfl (by decide) rfl (Nat.le_of_ble_eq_true rfl) ⟨(Nat.le_of_ble_eq_true rfl), (Nat.le_of_ble_eq_true rfl)⟩ ?_
  refine a_putF fd_X12_41 cl_X12 rfl 93 dX12_init_90 rfl rfl (Nat.le_of_ble_eq_true rfl) rfl rfl rfl ff_X12_41 rfl rfl ?_
  refine rW_h (h' := H38 G ++ [.inr (11, [.int 0, .int 0, .int 0, .int 0, .ref (gN G + 39), .ref (gN G + 40), .ref (gN G + 41), .int 0, .int 0, .int 0, .int 0, .int 0, .ref (gN G + 42), .ref (gN G + 43), .ref (gN G + 44), .int 0, .ref (gN G + 45), .ref (gN G + 46), .ref (gN G + 47), .ref (gN G + 48), .int 0, .ref (gN G + 49), .null, .int 0, .null, .null, .null, .int 0, .null, .null, .null, .int 0, .int 0, .long 0, .long 0, .null, .null, .null, .null, .int 0]), aI G 32, aZ G 32, aZ G 32, aI G 32, aI G 128, aZ G 32, aI G 12, aI G 12, aI G 12, aI G 12, aI G 42]) rfl ?_
  refine a_aload_n 94 dX12_init_93 rfl rfl ?_
  refine a_bipush (7) 96 dX12_init_94 rfl (by decide) ?_
  refine a_newarr_int wa_int 98 dX12_init_96 rfl (by decide) rfl (Nat.le_of_ble_eq_true rfl) ⟨(Nat.le_of_ble_eq_true rfl), (Nat.le_of_ble_eq_true rfl)⟩ ?_
  refine a_putF fd_X12_44 cl_X12 rfl 101 dX12_init_98 rfl rfl (Nat.le_of_ble_eq_true rfl) rfl rfl rfl ff_X12_44 rfl rfl ?_
  refine rW_h (h' := H38 G ++ [.inr (11, [.int 0, .int 0, .int 0, .int 0, .ref (gN G + 39), .ref (gN G + 40), .ref (gN G + 41), .int 0, .int 0, .int 0, .int 0, .int 0, .ref (gN G + 42), .ref (gN G + 43), .ref (gN G + 44), .int 0, .ref (gN G + 45), .ref (gN G + 46), .ref (gN G + 47), .ref (gN G + 48), .int 0, .ref (gN G + 49), .ref (gN G + 50), .int 0, .null, .null, .null, .int 0, .null, .null, .null, .int 0, .int 0, .long 0, .long 0, .null, .null, .null, .null, .int 0]), aI G 32, aZ G 32, aZ G 32, aI G 32, aI G 128, aZ G 32, aI G 12, aI G 12, aI G 12, aI G 12, aI G 42, aI G 7]) rfl ?_
  refine a_aload_n 102 dX12_init_101 rfl rfl ?_
  refine a_bipush (24) 104 dX12_init_102 rfl (by decide) ?_
  refine a_newarr_int wa_int 106 dX12_init_104 rfl (by decide) rfl (Nat.le_of_ble_eq_true rfl) ⟨(Nat.le_of_ble_eq_true rfl), (Nat.le_of_ble_eq_true rfl)⟩ ?_
  refine a_putF fd_X12_47 cl_X12 rfl 109 dX12_init_106 rfl rfl (Nat.le_of_ble_eq_true rfl) rfl rfl rfl ff_X12_47 rfl rfl ?_
  refine rW_h (h' := H38 G ++ [.inr (11, [.int 0, .int 0, .int 0, .int 0, .ref (gN G + 39), .ref (gN G + 40), .ref (gN G + 41), .int 0, .int 0, .int 0, .int 0, .int 0, .ref (gN G + 42), .ref (gN G + 43), .ref (gN G + 44), .int 0, .ref (gN G + 45), .ref (gN G + 46), .ref (gN G + 47), .ref (gN G + 48), .int 0, .ref (gN G + 49), .ref (gN G + 50), .int 0, .ref (gN G + 51), .null, .null, .int 0, .null, .null, .null, .int 0, .int 0, .long 0, .long 0, .null, .null, .null, .null, .int 0]), aI G 32, aZ G 32, aZ G 32, aI G 32, aI G 128, aZ G 32, aI G 12, aI G 12, aI G 12, aI G 12, aI G 42, aI G 7, aI G 24]) rfl ?_
  refine a_aload_n 110 dX12_init_109 rfl rfl ?_
  refine a_bipush (24) 112 dX12_init_110 rfl (by decide) ?_
  refine a_newarr_int wa_int 114 dX12_init_112 rfl (by decide) rfl (Nat.le_of_ble_eq_true rfl) ⟨(Nat.le_of_ble_eq_true rfl), (Nat.le_of_ble_eq_true rfl)⟩ ?_
  refine a_putF fd_X12_50 cl_X12 rfl 117 dX12_init_114 rfl rfl (Nat.le_of_ble_eq_true rfl) rfl rfl rfl ff_X12_50 rfl rfl ?_
  refine rW_h (h' := H38 G ++ [.inr (11, [.int 0, .int 0, .int 0, .int 0, .ref (gN G + 39), .ref (gN G + 40), .ref (gN G + 41), .int 0, .int 0, .int 0, .int 0, .int 0, .ref (gN G + 42), .ref (gN G + 43), .ref (gN G + 44), .int 0, .ref (gN G + 45), .ref (gN G + 46), .ref (gN G + 47), .ref (gN G + 48), .int 0, .ref (gN G + 49), .ref (gN G + 50), .int 0, .ref (gN G + 51), .ref (gN G + 52), .null, .int 0, .null, .null, .null, .int 0, .int 0, .long 0, .long 0, .null, .null, .null, .null, .int 0]), aI G 32, aZ G 32, aZ G 32, aI G 32, aI G 128, aZ G 32, aI G 12, aI G 12, aI G 12, aI G 12, aI G 42, aI G 7, aI G 24, aI G 24]) rfl ?_
  refine a_aload_n 118 dX12_init_117 rfl rfl ?_
  refine a_bipush (24) 120 dX12_init_118 rfl (by decide) ?_
  refine a_newarr_int wa_int 122 dX12_init_120 rfl (by decide) rfl (Nat.le_of_ble_eq_true rfl) ⟨(Nat.le_of_ble_eq_true rfl), (Nat.le_of_ble_eq_true rfl)⟩ ?_
  refine a_putF fd_X12_53 cl_X12 rfl 125 dX12_init_122 rfl rfl (Nat.le_of_ble_eq_true rfl) rfl rfl rfl ff_X12_53 rfl rfl ?_
  refine rW_h (h' := H38 G ++ [.inr (11, [.int 0, .int 0, .int 0, .int 0, .ref (gN G + 39), .ref (gN G + 40), .ref (gN G + 41), .int 0, .int 0, .int 0, .int 0, .int 0, .ref (gN G + 42), .ref (gN G + 43), .ref (gN G + 44), .int 0, .ref (gN G + 45), .ref (gN G + 46), .ref (gN G + 47), .ref (gN G + 48), .int 0, .ref (gN G + 49), .ref (gN G + 50), .int 0, .ref (gN G + 51), .ref (gN G + 52), .ref (gN G + 53), .int 0, .null, .null, .null, .int 0, .int 0, .long 0, .long 0, .null, .null, .null, .null, .int 0]), aI G 32, aZ G 32, aZ G 32, aI G 32, aI G 128, aZ G 32, aI G 12, aI G 12, aI G 12, aI G 12, aI G 42, aI G 7, aI G 24, aI G 24, aI G 24]) rfl ?_
  refine a_aload_n 126 dX12_init_125 rfl rfl ?_
  refine a_bipush (64) 128 dX12_init_126 rfl (by decide) ?_
  refine a_newarr_int wa_int 130 dX12_init_128 rfl (by decide) rfl (Nat.le_of_ble_eq_true rfl) ⟨(Nat.le_of_ble_eq_true rfl), (Nat.le_of_ble_eq_true rfl)⟩ ?_
  refine a_putF fd_X12_56 cl_X12 rfl 133 dX12_init_130 rfl rfl (Nat.le_of_ble_eq_true rfl) rfl rfl rfl ff_X12_56 rfl rfl ?_
  refine rW_h (h' := H38 G ++ [.inr (11, [.int 0, .int 0, .int 0, .int 0, .ref (gN G + 39), .ref (gN G + 40), .ref (gN G + 41), .int 0, .int 0, .int 0, .int 0, .int 0, .ref (gN G + 42), .ref (gN G + 43), .ref (gN G + 44), .int 0, .ref (gN G + 45), .ref (gN G + 46), .ref (gN G + 47), .ref (gN G + 48), .int 0, .ref (gN G + 49), .ref (gN G + 50), .int 0, .ref (gN G + 51), .ref (gN G + 52), .ref (gN G + 53), .int 0, .ref (gN G + 54), .null, .null, .int 0, .int 0, .long 0, .long 0, .null, .null, .null, .null, .int 0]), aI G 32, aZ G 32, aZ G 32, aI G 32, aI G 128, aZ G 32, aI G 12, aI G 12, aI G 12, aI G 12, aI G 42, aI G 7, aI G 24, aI G 24, aI G 24, aI G 64]) rfl ?_
  refine a_aload_n 134 dX12_init_133 rfl rfl ?_
  refine a_bipush (64) 136 dX12_init_134 rfl (by decide) ?_
  refine a_newarr_int wa_int 138 dX12_init_136 rfl (by decide) rfl (Nat.le_of_ble_eq_true rfl) ⟨(Nat.le_of_ble_eq_true rfl), (Nat.le_of_ble_eq_true rfl)⟩ ?_
  refine a_putF fd_X12_59 cl_X12 rfl 141 dX12_init_138 rfl rfl (Nat.le_of_ble_eq_true rfl) rfl rfl rfl ff_X12_59 rfl rfl ?_
  refine rW_h (h' := H38 G ++ [.inr (11, [.int 0, .int 0, .int 0, .int 0, .ref (gN G + 39), .ref (gN G + 40), .ref (gN G + 41), .int 0, .int 0, .int 0, .int 0, .int 0, .ref (gN G + 42), .ref (gN G + 43), .ref (gN G + 44), .int 0, .ref (gN G + 45), .ref (gN G + 46), .ref (gN G + 47), .ref (gN G + 48), .int 0, .ref (gN G + 49), .ref (gN G + 50), .int 0, .ref (gN G + 51), .ref (gN G + 52), .ref (gN G + 53), .int 0, .ref (gN G + 54), .ref (gN G + 55), .null, .int 0, .int 0, .long 0, .long 0, .null, .null, .null, .null, .int 0]), aI G 32, aZ G 32, aZ G 32, aI G 32, aI G 128, aZ G 32, aI G 12, aI G 12, aI G 12, aI G 12, aI G 42, aI G 7, aI G 24, aI G 24, aI G 24, aI G 64, aI G 64]) rfl ?_
  refine a_aload_n 142 dX12_init_141 rfl rfl ?_
  refine a_iconst (3) 143 dX12_init_142 rfl (by decide) ?_
  refine a_newarr_int wa_int 145 dX12_init_143 rfl (by decide) rfl (Nat.le_of_ble_eq_true rfl) ⟨(Nat.le_of_ble_eq_true rfl), (Nat.le_of_ble_eq_true rfl)⟩ ?_
  refine a_putF fd_X12_62 cl_X12 rfl 148 dX12_init_145 rfl rfl (Nat.le_of_ble_eq_true rfl) rfl rfl rfl ff_X12_62 rfl rfl ?_
  refine rW_h (h' := H38 G ++ [.inr (11, [.int 0, .int 0, .int 0, .int 0, .ref (gN G + 39), .ref (gN G + 40), .ref (gN G + 41), .int 0, .int 0, .int 0, .int 0, .int 0, .ref (gN G + 42), .ref (gN G + 43), .ref (gN G + 44), .int 0, .ref (gN G + 45), .ref (gN G + 46), .ref (gN G + 47), .ref (gN G + 48), .int 0, .ref (gN G + 49), .ref (gN G + 50), .int 0, .ref (gN G + 51), .ref (gN G + 52), .ref (gN G + 53), .int 0, .ref (gN G + 54), .ref (gN G + 55), .ref (gN G + 56), .int 0, .int 0, .long 0, .long 0, .null, .null, .null, .null, .int 0]), aI G 32, aZ G 32, aZ G 32, aI G 32, aI G 128, aZ G 32, aI G 12, aI G 12, aI G 12, aI G 12, aI G 42, aI G 7, aI G 24, aI G 24, aI G 24, aI G 64, aI G 64, aI G 3]) rfl ?_
  refine a_aload_n 149 dX12_init_148 rfl rfl ?_
  refine a_iconst (4) 150 dX12_init_149 rfl (by decide) ?_
  refine a_newarr_int wa_int 152 dX12_init_150 rfl (by decide) rfl (Nat.le_of_ble_eq_true rfl) ⟨(Nat.le_of_ble_eq_true rfl), (Nat.le_of_ble_eq_true rfl)⟩ ?_
  refine a_putF fd_X12_65 cl_X12 rfl 155 dX12_init_152 rfl rfl (Nat.le_of_ble_eq_true rfl) rfl rfl rfl ff_X12_65 rfl rfl ?_
  refine rW_h (h' := H38 G ++ [.inr (11, [.int 0, .int 0, .int 0, .int 0, .ref (gN G + 39), .ref (gN G + 40), .ref (gN G + 41), .int 0, .int 0, .int 0, .int 0, .int 0, .ref (gN G + 42), .ref (gN G + 43), .ref (gN G + 44), .int 0, .ref (gN G + 45), .ref (gN G + 46), .ref (gN G + 47), .ref (gN G + 48), .int 0, .ref (gN G + 49), .ref (gN G + 50), .int 0, .ref (gN G + 51), .ref (gN G + 52), .ref (gN G + 53), .int 0, .ref (gN G + 54), .ref (gN G + 55), .ref (gN G + 56), .int 0, .int 0, .long 0, .long 0, .ref (gN G + 57), .null, .null, .null, .int 0]), aI G 32, aZ G 32, aZ G 32, aI G 32, aI G 128, aZ G 32, aI G 12, aI G 12, aI G 12, aI G 12, aI G 42, aI G 7, aI G 24, aI G 24, aI G 24, aI G 64, aI G 64, aI G 3, aI G 4]) rfl ?_
  refine a_aload_n 156 dX12_init_155 rfl rfl ?_
  refine a_iconst (4) 157 dX12_init_156 rfl (by decide) ?_
  refine a_newarr_int wa_int 159 dX12_init_157 rfl (by decide) rfl (Nat.le_of_ble_eq_true rfl) ⟨(Nat.le_of_ble_eq_true rfl), (Nat.le_of_ble_eq_true rfl)⟩ ?_
  refine a_putF fd_X12_68 cl_X12 rfl 162 dX12_init_159 rfl rfl (Nat.le_of_ble_eq_true rfl) rfl rfl rfl ff_X12_68 rfl rfl ?_
  refine rW_h (h' := H38 G ++ [.inr (11, [.int 0, .int 0, .int 0, .int 0, .ref (gN G + 39), .ref (gN G + 40), .ref (gN G + 41), .int 0, .int 0, .int 0, .int 0, .int 0, .ref (gN G + 42), .ref (gN G + 43), .ref (gN G + 44), .int 0, .ref (gN G + 45), .ref (gN G + 46), .ref (gN G + 47), .ref (gN G + 48), .int 0, .ref (gN G + 49), .ref (gN G + 50), .int 0, .ref (gN G + 51), .ref (gN G + 52), .ref (gN G + 53), .int 0, .ref (gN G + 54), .ref (gN G + 55), .ref (gN G + 56), .int 0, .int 0, .long 0, .long 0, .ref (gN G + 57), .ref (gN G + 58), .null, .null, .int 0]), aI G 32, aZ G 32, aZ G 32, aI G 32, aI G 128, aZ G 32, aI G 12, aI G 12, aI G 12, aI G 12, aI G 42, aI G 7, aI G 24, aI G 24, aI G 24, aI G 64, aI G 64, aI G 3, aI G 4, aI G 4]) rfl ?_
  refine a_aload_n 163 dX12_init_162 rfl rfl ?_
  refine a_sipush (240) 166 dX12_init_163 rfl (by decide) ?_
  refine a_newarr_int wa_int 168 dX12_init_166 rfl (by decide) rfl (Nat.le_of_ble_eq_true rfl) ⟨(Nat.le_of_ble_eq_true rfl), (Nat.le_of_ble_eq_true rfl)⟩ ?_
  refine a_putF fd_X12_71 cl_X12 rfl 171 dX12_init_168 rfl rfl (Nat.le_of_ble_eq_true rfl) rfl rfl rfl ff_X12_71 rfl rfl ?_
  refine rW_h (h' := H38 G ++ [.inr (11, [.int 0, .int 0, .int 0, .int 0, .ref (gN G + 39), .ref (gN G + 40), .ref (gN G + 41), .int 0, .int 0, .int 0, .int 0, .int 0, .ref (gN G + 42), .ref (gN G + 43), .ref (gN G + 44), .int 0, .ref (gN G + 45), .ref (gN G + 46), .ref (gN G + 47), .ref (gN G + 48), .int 0, .ref (gN G + 49), .ref (gN G + 50), .int 0, .ref (gN G + 51), .ref (gN G + 52), .ref (gN G + 53), .int 0, .ref (gN G + 54), .ref (gN G + 55), .ref (gN G + 56), .int 0, .int 0, .long 0, .long 0, .ref (gN G + 57), .ref (gN G + 58), .ref (gN G + 59), .null, .int 0]), aI G 32, aZ G 32, aZ G 32, aI G 32, aI G 128, aZ G 32, aI G 12, aI G 12, aI G 12, aI G 12, aI G 42, aI G 7, aI G 24, aI G 24, aI G 24, aI G 64, aI G 64, aI G 3, aI G 4, aI G 4, aI G 240]) rfl ?_
  refine a_aload_n 172 dX12_init_171 rfl rfl ?_
  refine a_bipush (60) 174 dX12_init_172 rfl (by decide) ?_
  refine a_newarr_int wa_int 176 dX12_init_174 rfl (by decide) rfl (Nat.le_of_ble_eq_true rfl) ⟨(Nat.le_of_ble_eq_true rfl), (Nat.le_of_ble_eq_true rfl)⟩ ?_
  refine a_putF fd_X12_74 cl_X12 rfl 179 dX12_init_176 rfl rfl (Nat.le_of_ble_eq_true rfl) rfl rfl rfl ff_X12_74 rfl rfl ?_
  refine rW_h (h' := H38 G ++ [.inr (11, [.int 0, .int 0, .int 0, .int 0, .ref (gN G + 39), .ref (gN G + 40), .ref (gN G + 41), .int 0, .int 0, .int 0, .int 0, .int 0, .ref (gN G + 42), .ref (gN G + 43), .ref (gN G + 44), .int 0, .ref (gN G + 45), .ref (gN G + 46), .ref (gN G + 47), .ref (gN G + 48), .int 0, .ref (gN G + 49), .ref (gN G + 50), .int 0, .ref (gN G + 51), .ref (gN G + 52), .ref (gN G + 53), .int 0, .ref (gN G + 54), .ref (gN G + 55), .ref (gN G + 56), .int 0, .int 0, .long 0, .long 0, .ref (gN G + 57), .ref (gN G + 58), .ref (gN G + 59), .ref (gN G + 60), .int 0]), aI G 32, aZ G 32, aZ G 32, aI G 32, aI G 128, aZ G 32, aI G 12, aI G 12, aI G 12, aI G 12, aI G 42, aI G 7, aI G 24, aI G 24, aI G 24, aI G 64, aI G 64, aI G 3, aI G 4, aI G 4, aI G 240, aI G 60]) rfl ?_
  refine a_iconst (0) 180 dX12_init_179 rfl (by decide) ?_
  refine a_istore_n 181 dX12_init_180 rfl (by decide) ?_
  refine rW_h (h' := HM0 G) rfl ?_
  exact q_M0
end MCTOR
