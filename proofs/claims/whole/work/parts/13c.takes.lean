section TAKES
variable {l : Launch} {G : rG} {h : rH}
set_option maxRecDepth 100000 in
set_option maxHeartbeats 400000 in
theorem k_X6_begin {s : ltS} (hs : ltAt G h s) : rM l G 0 mX6_begin 0 0 [.ref (gN G + 4)] h (fun h' v => v = none ∧ (∃ nu to, ltAt G h' (0, 0, 0, nu, to) ∧ ∀ j, j < 7 → nu j = rUntold j ∧ to j = 0) ∧ fr h h' [4, 5, 6]) := by
  obtain ⟨hc, hf, hg⟩ := hs
  refine rM_start (by decide) (Nat.le_of_ble_eq_true rfl) ?_
  have L : ∀ (r j : Nat) (z : Int32) (nu to : Nat → Int32) (h1 : rH), j + r = 7 → z = nI j → ltAt G h1 (0, 0, 0, nu, to) → (∀ i, i < j → nu i = rUntold i ∧ to i = 0) → fr h h1 [4, 5, 6] → rW l G (rRm 0 0 0) mX6_begin (rZ G (fun h' v => v = none ∧ (∃ nu to, ltAt G h' (0, 0, 0, nu, to) ∧ ∀ j, j < 7 → nu j = rUntold j ∧ to j = 0) ∧ fr h h' [4, 5, 6]) 0 0) 0 0 17 [some (.ref (gN G + 4)), some (.int z)] [] h1 := by
    intro r
    induction r with
    | zero =>
      intro j z nu to h1 hj hz hat hall hfr
      subst hz
      have hj7 : j = 7 := by omega
      subst hj7
      refine a_iload_n 18 dX6_begin_17 rfl rfl ?_
      refine a_bipush (7) 20 dX6_begin_18 rfl (by decide) ?_
      refine a_icmp_ge 73 23 dX6_begin_20 rfl (by decide) (fun c_20 => ?_) (fun c_20 => absurd (by decide) c_20)
      exact a_return dX6_begin_73 rfl (Nat.le_of_ble_eq_true rfl) (Nat.le_of_ble_eq_true rfl) ⟨rfl, ⟨nu, to, hat, hall⟩, hfr⟩
    | succ r ih =>
      intro j z nu to h1 hj hz hat hall hfr
      subst hz
      have hin : vp_in (nI j) 7 := vp_in_nI (by omega) (by decide)
      have hcl : (nI j).toNatClampNeg = j := nI_clamp (by omega)
      obtain ⟨hc1, hf1, hg1⟩ := hat
      dsimp only at hc1 hf1 hg1
      refine a_iload_n 18 dX6_begin_17 rfl rfl ?_
      refine a_bipush (7) 20 dX6_begin_18 rfl (by decide) ?_
      refine a_icmp_ge 73 23 dX6_begin_20 rfl (by decide) (fun c_20 => absurd c_20 (nI_ge (a := j) (b := 7) (by omega) (by omega))) (fun c_20 => ?_)
      refine a_iload_n 24 dX6_begin_23 rfl rfl ?_
      refine a_aload_n 25 dX6_begin_24 rfl rfl ?_
      refine a_get fd_X6_9 rfl 28 dX6_begin_25 rfl (by repeat (first | assumption | (refine rg_ne (by first | decide | omega) ?_) | apply rg_eq | refine rg_fr (by assumption) (by first | decide | (simp; omega)) ?_)) rfl ?_
      refine a_alen_0 29 dX6_begin_28 rfl (by repeat (first | assumption | (refine rg_ne (by first | decide | omega) ?_) | apply rg_eq | refine rg_fr (by assumption) (by first | decide | (simp; omega)) ?_)) ?_
      refine a_icmp_ge 73 32 dX6_begin_29 rfl (by decide) (fun c_29 => absurd c_29 (vin_lt hin (by decide))) (fun c_29 => ?_)
      refine a_iload_n 33 dX6_begin_32 rfl rfl ?_
      refine a_aload_n 34 dX6_begin_33 rfl rfl ?_
      refine a_get fd_X6_15 rfl 37 dX6_begin_34 rfl (by repeat (first | assumption | (refine rg_ne (by first | decide | omega) ?_) | apply rg_eq | refine rg_fr (by assumption) (by first | decide | (simp; omega)) ?_)) rfl ?_
      refine a_alen_1 38 dX6_begin_37 rfl (by repeat (first | assumption | (refine rg_ne (by first | decide | omega) ?_) | apply rg_eq | refine rg_fr (by assumption) (by first | decide | (simp; omega)) ?_)) ?_
      refine a_icmp_ge 73 41 dX6_begin_38 rfl (by decide) (fun c_38 => absurd c_38 (vin_lt hin (by decide))) (fun c_38 => ?_)
      refine a_iload_n 42 dX6_begin_41 rfl rfl ?_
      refine a_gets_UNTOLD (idx := 29) lu_29 rfl 45 dX6_begin_42 rfl ?_
      refine a_alen_UNTOLD 46 dX6_begin_45 rfl ?_
      refine a_icmp_ge 73 49 dX6_begin_46 rfl (by decide) (fun c_46 => absurd c_46 (nI_ge (a := j) (b := 7) (by omega) (by omega))) (fun c_46 => ?_)
      refine a_aload_n 50 dX6_begin_49 rfl rfl ?_
      refine a_get fd_X6_9 rfl 53 dX6_begin_50 rfl (by repeat (first | assumption | (refine rg_ne (by first | decide | omega) ?_) | apply rg_eq | refine rg_fr (by assumption) (by first | decide | (simp; omega)) ?_)) rfl ?_
      refine a_iload_n 54 dX6_begin_53 rfl rfl ?_
      refine a_gets_UNTOLD (idx := 29) lu_29 rfl 57 dX6_begin_54 rfl ?_
      refine a_iload_n 58 dX6_begin_57 rfl rfl ?_
      refine a_iaload_UNTOLD  59 dX6_begin_58 rfl hin ?_
      refine a_iastore 60 dX6_begin_59 rfl (by repeat (first | assumption | (refine rg_ne (by first | decide | omega) ?_) | apply rg_eq | refine rg_fr (by assumption) (by first | decide | (simp; omega)) ?_)) hin ?_
      refine a_aload_n 61 dX6_begin_60 rfl rfl ?_
      refine a_get fd_X6_15 rfl 64 dX6_begin_61 rfl (by repeat (first | assumption | (refine rg_ne (by first | decide | omega) ?_) | apply rg_eq | refine rg_fr (by assumption) (by first | decide | (simp; omega)) ?_)) rfl ?_
      refine a_iload_n 65 dX6_begin_64 rfl rfl ?_
      refine a_iconst (0) 66 dX6_begin_65 rfl (by decide) ?_
      refine a_bastore 67 dX6_begin_66 rfl (by repeat (first | assumption | (refine rg_ne (by first | decide | omega) ?_) | apply rg_eq | refine rg_fr (by assumption) (by first | decide | (simp; omega)) ?_)) hin ?_
      refine a_iinc _ 70 dX6_begin_67 rfl rfl (by decide) rfl ?_
      refine a_goto 17 dX6_begin_70 (by decide) ?_
      exact ih (j + 1) _ _ _ _ (by omega) (nI_1 j) ⟨(by repeat (first | assumption | (refine rg_ne (by first | decide | omega) ?_) | apply rg_eq | refine rg_fr (by assumption) (by first | decide | (simp; omega)) ?_)), (by repeat (first | assumption | (refine rg_ne (by first | decide | omega) ?_) | apply rg_eq | refine rg_fr (by assumption) (by first | decide | (simp; omega)) ?_)), (by repeat (first | assumption | (refine rg_ne (by first | decide | omega) ?_) | apply rg_eq | refine rg_fr (by assumption) (by first | decide | (simp; omega)) ?_))⟩ (by rw [hcl]; exact beg_step hall) (by repeat (first | exact fr_refl _ _ | assumption | refine fr_set ?_ (by decide) | refine fr_trans (by assumption) ?_ (by decide)))
  refine a_aload_n 1 dX6_begin_0 rfl rfl ?_
  refine a_iconst (0) 2 dX6_begin_1 rfl (by decide) ?_
  refine a_put fd_X6_19 cl_X6 rfl 5 dX6_begin_2 rfl (by repeat (first | assumption | (refine rg_ne (by first | decide | omega) ?_) | apply rg_eq | refine rg_fr (by assumption) (by first | decide | (simp; omega)) ?_)) (Nat.le_of_ble_eq_true rfl) rfl rfl rfl ?_
  refine a_aload_n 6 dX6_begin_5 rfl rfl ?_
  refine a_iconst (0) 7 dX6_begin_6 rfl (by decide) ?_
  refine a_put fd_X6_23 cl_X6 rfl 10 dX6_begin_7 rfl (by repeat (first | assumption | (refine rg_ne (by first | decide | omega) ?_) | apply rg_eq | refine rg_fr (by assumption) (by first | decide | (simp; omega)) ?_)) (Nat.le_of_ble_eq_true rfl) rfl rfl rfl ?_
  refine a_aload_n 11 dX6_begin_10 rfl rfl ?_
  refine a_iconst (0) 12 dX6_begin_11 rfl (by decide) ?_
  refine a_put fd_X6_26 cl_X6 rfl 15 dX6_begin_12 rfl (by repeat (first | assumption | (refine rg_ne (by first | decide | omega) ?_) | apply rg_eq | refine rg_fr (by assumption) (by first | decide | (simp; omega)) ?_)) (Nat.le_of_ble_eq_true rfl) rfl rfl rfl ?_
  refine a_iconst (0) 16 dX6_begin_15 rfl (by decide) ?_
  refine a_istore_n 17 dX6_begin_16 rfl (by decide) ?_
  exact L 7 0 _ _ _ _ (by omega) rfl ⟨(by repeat (first | assumption | (refine rg_ne (by first | decide | omega) ?_) | apply rg_eq | refine rg_fr (by assumption) (by first | decide | (simp; omega)) ?_)), (by repeat (first | assumption | (refine rg_ne (by first | decide | omega) ?_) | apply rg_eq | refine rg_fr (by assumption) (by first | decide | (simp; omega)) ?_)), (by repeat (first | assumption | (refine rg_ne (by first | decide | omega) ?_) | apply rg_eq | refine rg_fr (by assumption) (by first | decide | (simp; omega)) ?_))⟩ (fun i hi => absurd hi (Nat.not_lt_zero i)) (by repeat (first | exact fr_refl _ _ | assumption | refine fr_set ?_ (by decide) | refine fr_trans (by assumption) ?_ (by decide)))
end TAKES
