section TAKES
variable {l : Launch} {G : rG} {h : rH}
set_option maxRecDepth 100000 in
set_option maxHeartbeats 400000 in
theorem k_X6_isWhole {s : ltS} (hs : ltAt G h s) : rM l G 0 mX6_isWhole 0 0 [.ref (gN G + 4)] h (rV h (some (.int (if s.1 = 2 then 1 else 0)))) := by
  obtain ⟨hc, hf, hg⟩ := hs
  refine rM_start (by decide) (Nat.le_of_ble_eq_true rfl) ?_
  refine a_aload_n 1 dX6_isWhole_0 rfl rfl ?_
  refine a_get fd_X6_19 rfl 4 dX6_isWhole_1 rfl (by repeat (first | assumption | (refine rg_ne (by first | decide | omega) ?_) | apply rg_eq | refine rg_fr (by assumption) (by first | decide | (simp; omega)) ?_)) rfl ?_
  refine a_iconst (2) 5 dX6_isWhole_4 rfl (by decide) ?_
  refine a_icmp_ne 12 8 dX6_isWhole_5 rfl (by decide) (fun c_5 => ?_) (fun c_5 => ?_)
  · refine a_iconst (0) 13 dX6_isWhole_12 rfl (by decide) ?_
    exact a_ireturn dX6_isWhole_13 rfl rfl (Nat.le_of_ble_eq_true rfl) (Nat.le_of_ble_eq_true rfl) ⟨rfl, by simp_all⟩
  · refine a_iconst (1) 9 dX6_isWhole_8 rfl (by decide) ?_
    refine a_goto 13 dX6_isWhole_9 (by decide) ?_
    exact a_ireturn dX6_isWhole_13 rfl rfl (Nat.le_of_ble_eq_true rfl) (Nat.le_of_ble_eq_true rfl) ⟨rfl, by simp_all⟩
end TAKES
