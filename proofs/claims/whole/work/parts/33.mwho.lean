section MWHO
variable {l : Launch} {G : rG} {h : rH} {i : Nat → Int32} {j : Nat → Int64} {n m : Nat} {kd se sl ki : Nat → Nat}
set_option maxRecDepth 100000 in
set_option maxHeartbeats 400000 in
theorem k_X12_whoOn (hn : n ≤ 32) (ho : moAt G h i j n m kd se sl ki) {d : Nat} (hd : d < 32) : rM l G 0 mX12_whoOn 0 0 [.ref (gN G + 38), .int (nI d)] h (rV h (some (.int (noI (firstN (fun x => decide (se x = d)) m 0))))) := by
  obtain ⟨hm, hmi, hm12, -, ⟨f5, q5, q5'⟩, -⟩ := ho
  refine rM_start (by decide) (Nat.le_of_ble_eq_true rfl) ?_
  have L : ∀ (r x : Nat) (y : Int32) (o : Option Nat), x + r = m → y = nI x → firstN (fun x => decide (se x = d)) r x = o → rW l G (rRm 0 0 0) mX12_whoOn (rZ G (rV h (some (.int (noI o)))) 0 0) 0 0 2 [some (.ref (gN G + 38)), some (.int (nI d)), some (.int y)] [] h := by
    intro r
    induction r with
    | zero =>
      intro x y o hx hy hf
      subst hy
      cases hf
      refine a_iload_n 3 dX12_whoOn_2 rfl rfl ?_
      refine a_aload_n 4 dX12_whoOn_3 rfl rfl ?_
      refine a_get fd_X12_160 rfl 7 dX12_whoOn_4 rfl (by repeat (first | assumption | (refine rg_ne (by first | decide | omega) ?_) | apply rg_eq | refine rg_fr (by assumption) (by first | decide | (simp; omega)) ?_)) rfl ?_
      refine a_icmp_ge 28 10 dX12_whoOn_7 rfl (by decide) (fun c_7 => ?_) (fun c_7 => absurd (by rw [hmi]; exact nI_le (by omega) (by omega)) c_7)
      refine a_bipush (-9) 30 dX12_whoOn_28 rfl (by decide) ?_
      exact a_ireturn dX12_whoOn_30 rfl rfl (Nat.le_of_ble_eq_true rfl) (Nat.le_of_ble_eq_true rfl) ⟨rfl, rfl⟩
    | succ r ih =>
      intro x y o hx hy hf
      subst hy
      have vx : vp_in (nI x) 12 := vp_in_nI (by omega) (by decide)
      have e5 := q5' x (by omega)
      have he : nI (se x) = nI d ↔ se x = d := nI_eq (by omega) (by omega)
      rw [firstN] at hf
      refine a_iload_n 3 dX12_whoOn_2 rfl rfl ?_
      refine a_aload_n 4 dX12_whoOn_3 rfl rfl ?_
      refine a_get fd_X12_160 rfl 7 dX12_whoOn_4 rfl (by repeat (first | assumption | (refine rg_ne (by first | decide | omega) ?_) | apply rg_eq | refine rg_fr (by assumption) (by first | decide | (simp; omega)) ?_)) rfl ?_
      refine a_icmp_ge 28 10 dX12_whoOn_7 rfl (by decide) (fun c_7 => absurd c_7 (by rw [hmi]; exact nI_ge (a := x) (b := m) (by omega) (by omega))) (fun c_7 => ?_)
      refine a_aload_n 11 dX12_whoOn_10 rfl rfl ?_
      refine a_get fd_X12_32 rfl 14 dX12_whoOn_11 rfl (by repeat (first | assumption | (refine rg_ne (by first | decide | omega) ?_) | apply rg_eq | refine rg_fr (by assumption) (by first | decide | (simp; omega)) ?_)) rfl ?_
      refine a_iload_n 15 dX12_whoOn_14 rfl rfl ?_
      refine a_iaload 16 dX12_whoOn_15 rfl (by repeat (first | assumption | (refine rg_ne (by first | decide | omega) ?_) | apply rg_eq | refine rg_fr (by assumption) (by first | decide | (simp; omega)) ?_)) vx ?_
      rw [nI_clamp (by omega), e5.1]
      refine a_iload_n 17 dX12_whoOn_16 rfl rfl ?_
      refine a_icmp_ne 22 20 dX12_whoOn_17 rfl (by decide) (fun c_17 => ?_) (fun c_17 => ?_)
      · refine a_iinc _ 25 dX12_whoOn_22 rfl rfl (by decide) rfl ?_
        refine a_goto 2 dX12_whoOn_25 (by decide) ?_
        exact ih (x + 1) _ o (by omega) (nI_1 x) (by rw [if_neg (by simpa using fun z => c_17 (he.mpr z))] at hf; exact hf)
      · refine a_iload_n 21 dX12_whoOn_20 rfl rfl ?_
        exact a_ireturn dX12_whoOn_21 rfl rfl (Nat.le_of_ble_eq_true rfl) (Nat.le_of_ble_eq_true rfl) (by rw [if_pos (decide_eq_true (he.mp c_17))] at hf; cases hf; exact ⟨rfl, rfl⟩)
  refine a_iconst (0) 1 dX12_whoOn_0 rfl (by decide) ?_
  refine a_istore_n 2 dX12_whoOn_1 rfl (by decide) ?_
  exact L m 0 _ _ (by omega) rfl rfl
end MWHO
