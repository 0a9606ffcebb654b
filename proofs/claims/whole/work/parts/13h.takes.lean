section TAKES
variable {l : Launch} {G : rG} {h : rH}
set_option maxRecDepth 100000 in
set_option maxHeartbeats 400000 in
theorem k_X6_takesLetter {s : ltS} (hs : ltAt G h s) (c : Int32) : rM l G 0 mX6_takesLetter 0 0 [.ref (gN G + 4), .int c] h (fun h' v => v = some (.int (ltLetter s c).2) ∧ ltAt G h' (ltLetter s c).1 ∧ fr h h' [4, 5, 6]) := by
  obtain ⟨st, wh, it, nu, to⟩ := s
  have hs0 := hs
  obtain ⟨hc, hf, hg⟩ := hs
  dsimp only at hc hf hg
  refine rM_start (by decide) (Nat.le_of_ble_eq_true rfl) ?_
  refine a_iload_n 1 dX6_takesLetter_0 rfl rfl ?_
  refine a_if_lt 22 4 dX6_takesLetter_1 rfl (by decide) (fun c_1 => ?_) (fun c_1 => ?_)
  · refine a_iconst (0) 23 dX6_takesLetter_22 rfl (by decide) ?_
    exact a_ireturn dX6_takesLetter_23 rfl rfl (Nat.le_of_ble_eq_true rfl) (Nat.le_of_ble_eq_true rfl) (by rw [show ltLetter (st, wh, it, nu, to) c = ((st, wh, it, nu, to), 0) from if_neg (fun q => Int32.not_lt.mpr q.1 c_1)]; exact ⟨rfl, hs0, fr_refl _ _⟩)
  · refine a_iload_n 5 dX6_takesLetter_4 rfl rfl ?_
    refine a_aload_n 6 dX6_takesLetter_5 rfl rfl ?_
    refine a_get fd_X6_15 rfl 9 dX6_takesLetter_6 rfl (by repeat (first | assumption | (refine rg_ne (by first | decide | omega) ?_) | apply rg_eq | refine rg_fr (by assumption) (by first | decide | (simp; omega)) ?_)) rfl ?_
    refine a_alen_1 10 dX6_takesLetter_9 rfl (by repeat (first | assumption | (refine rg_ne (by first | decide | omega) ?_) | apply rg_eq | refine rg_fr (by assumption) (by first | decide | (simp; omega)) ?_)) ?_
    refine a_icmp_ge 22 13 dX6_takesLetter_10 rfl (by decide) (fun c_10 => ?_) (fun c_10 => ?_)
    · refine a_iconst (0) 23 dX6_takesLetter_22 rfl (by decide) ?_
      exact a_ireturn dX6_takesLetter_23 rfl rfl (Nat.le_of_ble_eq_true rfl) (Nat.le_of_ble_eq_true rfl) (by rw [show ltLetter (st, wh, it, nu, to) c = ((st, wh, it, nu, to), 0) from if_neg (fun q => Int32.not_le.mpr q.2 c_10)]; exact ⟨rfl, hs0, fr_refl _ _⟩)
    · refine a_aload_n 14 dX6_takesLetter_13 rfl rfl ?_
      refine a_get fd_X6_15 rfl 17 dX6_takesLetter_14 rfl (by repeat (first | assumption | (refine rg_ne (by first | decide | omega) ?_) | apply rg_eq | refine rg_fr (by assumption) (by first | decide | (simp; omega)) ?_)) rfl ?_
      refine a_iload_n 18 dX6_takesLetter_17 rfl rfl ?_
      refine a_baload 19 dX6_takesLetter_18 rfl (by repeat (first | assumption | (refine rg_ne (by first | decide | omega) ?_) | apply rg_eq | refine rg_fr (by assumption) (by first | decide | (simp; omega)) ?_)) (vin_ge c_1 c_10 (by decide)) ?_
      refine a_if_eq 24 22 dX6_takesLetter_19 rfl (by decide) (fun c_19 => ?_) (fun c_19 => ?_)
      · refine a_aload_n 25 dX6_takesLetter_24 rfl rfl ?_
        refine a_get fd_X6_15 rfl 28 dX6_takesLetter_25 rfl (by repeat (first | assumption | (refine rg_ne (by first | decide | omega) ?_) | apply rg_eq | refine rg_fr (by assumption) (by first | decide | (simp; omega)) ?_)) rfl ?_
        refine a_iload_n 29 dX6_takesLetter_28 rfl rfl ?_
        refine a_iconst (1) 30 dX6_takesLetter_29 rfl (by decide) ?_
        refine a_bastore 31 dX6_takesLetter_30 rfl (by repeat (first | assumption | (refine rg_ne (by first | decide | omega) ?_) | apply rg_eq | refine rg_fr (by assumption) (by first | decide | (simp; omega)) ?_)) (vin_ge c_1 c_10 (by decide)) ?_
        refine a_aload_n 32 dX6_takesLetter_31 rfl rfl ?_
        refine a_iload_n 33 dX6_takesLetter_32 rfl rfl ?_
        refine a_put fd_X6_23 cl_X6 rfl 36 dX6_takesLetter_33 rfl (by repeat (first | assumption | (refine rg_ne (by first | decide | omega) ?_) | apply rg_eq | refine rg_fr (by assumption) (by first | decide | (simp; omega)) ?_)) (Nat.le_of_ble_eq_true rfl) rfl rfl rfl ?_
        refine a_iconst (1) 37 dX6_takesLetter_36 rfl (by decide) ?_
        exact a_ireturn dX6_takesLetter_37 rfl rfl (Nat.le_of_ble_eq_true rfl) (Nat.le_of_ble_eq_true rfl) (by rw [show ltLetter (st, wh, it, nu, to) c = ((st, c, it, nu, upd to c.toNatClampNeg 1), 1) from (if_pos ⟨Int32.not_lt.mp c_1, Int32.not_le.mp c_10⟩).trans (if_pos c_19)]; exact ⟨rfl, ⟨(by repeat (first | assumption | (refine rg_ne (by first | decide | omega) ?_) | apply rg_eq | refine rg_fr (by assumption) (by first | decide | (simp; omega)) ?_)), (by repeat (first | assumption | (refine rg_ne (by first | decide | omega) ?_) | apply rg_eq | refine rg_fr (by assumption) (by first | decide | (simp; omega)) ?_)), (by repeat (first | assumption | (refine rg_ne (by first | decide | omega) ?_) | apply rg_eq | refine rg_fr (by assumption) (by first | decide | (simp; omega)) ?_))⟩, (by repeat (first | exact fr_refl _ _ | assumption | refine fr_set ?_ (by decide) | refine fr_trans (by assumption) ?_ (by decide)))⟩)
      · refine a_iconst (0) 23 dX6_takesLetter_22 rfl (by decide) ?_
        exact a_ireturn dX6_takesLetter_23 rfl rfl (Nat.le_of_ble_eq_true rfl) (Nat.le_of_ble_eq_true rfl) (by rw [show ltLetter (st, wh, it, nu, to) c = ((st, wh, it, nu, to), 0) from (if_pos ⟨Int32.not_lt.mp c_1, Int32.not_le.mp c_10⟩).trans (if_neg c_19)]; exact ⟨rfl, hs0, fr_refl _ _⟩)
end TAKES
