section TAKES
variable {l : Launch} {G : rG} {h : rH}
set_option maxRecDepth 100000 in
set_option maxHeartbeats 400000 in
theorem k_X6_takesDigit {s : ltS} (hs : ltAt G h s) (c : Int32) : rM l G 0 mX6_takesDigit 0 0 [.ref (gN G + 4), .int c] h (fun h' v => v = some (.int (ltDigit s c).2) ∧ ltAt G h' (ltDigit s c).1 ∧ fr h h' [4, 5, 6]) := by
  obtain ⟨st, wh, it, nu, to⟩ := s
  have hs0 := hs
  obtain ⟨hc, hf, hg⟩ := hs
  dsimp only at hc hf hg
  refine rM_start (by decide) (Nat.le_of_ble_eq_true rfl) ?_
  refine a_aload_n 1 dX6_takesDigit_0 rfl rfl ?_
  refine a_get fd_X6_23 rfl 4 dX6_takesDigit_1 rfl (by repeat (first | assumption | (refine rg_ne (by first | decide | omega) ?_) | apply rg_eq | refine rg_fr (by assumption) (by first | decide | (simp; omega)) ?_)) rfl ?_
  refine a_if_lt 30 7 dX6_takesDigit_4 rfl (by decide) (fun c_4 => ?_) (fun c_4 => ?_)
  · refine a_iconst (0) 31 dX6_takesDigit_30 rfl (by decide) ?_
    exact a_ireturn dX6_takesDigit_31 rfl rfl (Nat.le_of_ble_eq_true rfl) (Nat.le_of_ble_eq_true rfl) (by rw [show ltDigit (st, wh, it, nu, to) c = ((st, wh, it, nu, to), 0) from if_neg (fun q => Int32.not_lt.mpr q.1 c_4)]; exact ⟨rfl, hs0, fr_refl _ _⟩)
  · refine a_aload_n 8 dX6_takesDigit_7 rfl rfl ?_
    refine a_get fd_X6_23 rfl 11 dX6_takesDigit_8 rfl (by repeat (first | assumption | (refine rg_ne (by first | decide | omega) ?_) | apply rg_eq | refine rg_fr (by assumption) (by first | decide | (simp; omega)) ?_)) rfl ?_
    refine a_gets_LEAST (idx := 43) lu_43 rfl 14 dX6_takesDigit_11 rfl ?_
    refine a_alen_LEAST 15 dX6_takesDigit_14 rfl ?_
    refine a_icmp_ge 30 18 dX6_takesDigit_15 rfl (by decide) (fun c_15 => ?_) (fun c_15 => ?_)
    · refine a_iconst (0) 31 dX6_takesDigit_30 rfl (by decide) ?_
      exact a_ireturn dX6_takesDigit_31 rfl rfl (Nat.le_of_ble_eq_true rfl) (Nat.le_of_ble_eq_true rfl) (by rw [show ltDigit (st, wh, it, nu, to) c = ((st, wh, it, nu, to), 0) from if_neg (fun q => Int32.not_le.mpr q.2 c_15)]; exact ⟨rfl, hs0, fr_refl _ _⟩)
    · refine a_aload_n 19 dX6_takesDigit_18 rfl rfl ?_
      refine a_get fd_X6_23 rfl 22 dX6_takesDigit_19 rfl (by repeat (first | assumption | (refine rg_ne (by first | decide | omega) ?_) | apply rg_eq | refine rg_fr (by assumption) (by first | decide | (simp; omega)) ?_)) rfl ?_
      refine a_aload_n 23 dX6_takesDigit_22 rfl rfl ?_
      refine a_get fd_X6_9 rfl 26 dX6_takesDigit_23 rfl (by repeat (first | assumption | (refine rg_ne (by first | decide | omega) ?_) | apply rg_eq | refine rg_fr (by assumption) (by first | decide | (simp; omega)) ?_)) rfl ?_
      refine a_alen_0 27 dX6_takesDigit_26 rfl (by repeat (first | assumption | (refine rg_ne (by first | decide | omega) ?_) | apply rg_eq | refine rg_fr (by assumption) (by first | decide | (simp; omega)) ?_)) ?_
      refine a_icmp_lt 32 30 dX6_takesDigit_27 rfl (by decide) (fun c_27 => ?_) (fun c_27 => absurd (Int32.not_le.mp c_15) c_27)
      refine a_iload_n 33 dX6_takesDigit_32 rfl rfl ?_
      refine a_bipush (48) 35 dX6_takesDigit_33 rfl (by decide) ?_
      refine a_gets_LEAST (idx := 43) lu_43 rfl 38 dX6_takesDigit_35 rfl ?_
      refine a_aload_n 39 dX6_takesDigit_38 rfl rfl ?_
      refine a_get fd_X6_23 rfl 42 dX6_takesDigit_39 rfl (by repeat (first | assumption | (refine rg_ne (by first | decide | omega) ?_) | apply rg_eq | refine rg_fr (by assumption) (by first | decide | (simp; omega)) ?_)) rfl ?_
      refine a_iaload_LEAST  43 dX6_takesDigit_42 rfl (vin_ge c_4 c_15 (by decide)) ?_
      refine a_iadd 44 dX6_takesDigit_43 rfl ?_
      refine a_icmp_lt 53 47 dX6_takesDigit_44 rfl (by decide) (fun c_44 => ?_) (fun c_44 => ?_)
      · refine a_iconst (0) 54 dX6_takesDigit_53 rfl (by decide) ?_
        exact a_ireturn dX6_takesDigit_54 rfl rfl (Nat.le_of_ble_eq_true rfl) (Nat.le_of_ble_eq_true rfl) (by rw [show ltDigit (st, wh, it, nu, to) c = ((st, wh, it, nu, to), 0) from (if_pos ⟨Int32.not_lt.mp c_4, Int32.not_le.mp c_15⟩).trans (if_pos c_44)]; exact ⟨rfl, hs0, fr_refl _ _⟩)
      · refine a_iload_n 48 dX6_takesDigit_47 rfl rfl ?_
        refine a_bipush (57) 50 dX6_takesDigit_48 rfl (by decide) ?_
        refine a_icmp_le 55 53 dX6_takesDigit_50 rfl (by decide) (fun c_50 => ?_) (fun c_50 => ?_)
        · refine a_aload_n 56 dX6_takesDigit_55 rfl rfl ?_
          refine a_get fd_X6_9 rfl 59 dX6_takesDigit_56 rfl (by repeat (first | assumption | (refine rg_ne (by first | decide | omega) ?_) | apply rg_eq | refine rg_fr (by assumption) (by first | decide | (simp; omega)) ?_)) rfl ?_
          refine a_aload_n 60 dX6_takesDigit_59 rfl rfl ?_
          refine a_get fd_X6_23 rfl 63 dX6_takesDigit_60 rfl (by repeat (first | assumption | (refine rg_ne (by first | decide | omega) ?_) | apply rg_eq | refine rg_fr (by assumption) (by first | decide | (simp; omega)) ?_)) rfl ?_
          refine a_iload_n 64 dX6_takesDigit_63 rfl rfl ?_
          refine a_bipush (48) 66 dX6_takesDigit_64 rfl (by decide) ?_
          refine a_isub 67 dX6_takesDigit_66 rfl ?_
          refine a_iastore 68 dX6_takesDigit_67 rfl (by repeat (first | assumption | (refine rg_ne (by first | decide | omega) ?_) | apply rg_eq | refine rg_fr (by assumption) (by first | decide | (simp; omega)) ?_)) (vin_ge c_4 c_15 (by decide)) ?_
          refine a_aload_n 69 dX6_takesDigit_68 rfl rfl ?_
          refine a_dup 70 dX6_takesDigit_69 rfl rfl ?_
          refine a_get fd_X6_26 rfl 73 dX6_takesDigit_70 rfl (by repeat (first | assumption | (refine rg_ne (by first | decide | omega) ?_) | apply rg_eq | refine rg_fr (by assumption) (by first | decide | (simp; omega)) ?_)) rfl ?_
          refine a_iconst (1) 74 dX6_takesDigit_73 rfl (by decide) ?_
          refine a_iadd 75 dX6_takesDigit_74 rfl ?_
          refine a_put fd_X6_26 cl_X6 rfl 78 dX6_takesDigit_75 rfl (by repeat (first | assumption | (refine rg_ne (by first | decide | omega) ?_) | apply rg_eq | refine rg_fr (by assumption) (by first | decide | (simp; omega)) ?_)) (Nat.le_of_ble_eq_true rfl) rfl rfl rfl ?_
          refine a_iconst (1) 79 dX6_takesDigit_78 rfl (by decide) ?_
          exact a_ireturn dX6_takesDigit_79 rfl rfl (Nat.le_of_ble_eq_true rfl) (Nat.le_of_ble_eq_true rfl) (by rw [show ltDigit (st, wh, it, nu, to) c = ((st, wh, it + 1, upd nu wh.toNatClampNeg (c - 48), to), 1) from (if_pos ⟨Int32.not_lt.mp c_4, Int32.not_le.mp c_15⟩).trans ((if_neg c_44).trans (if_pos c_50))]; exact ⟨rfl, ⟨(by repeat (first | assumption | (refine rg_ne (by first | decide | omega) ?_) | apply rg_eq | refine rg_fr (by assumption) (by first | decide | (simp; omega)) ?_)), (by repeat (first | assumption | (refine rg_ne (by first | decide | omega) ?_) | apply rg_eq | refine rg_fr (by assumption) (by first | decide | (simp; omega)) ?_)), (by repeat (first | assumption | (refine rg_ne (by first | decide | omega) ?_) | apply rg_eq | refine rg_fr (by assumption) (by first | decide | (simp; omega)) ?_))⟩, (by repeat (first | exact fr_refl _ _ | assumption | refine fr_set ?_ (by decide) | refine fr_trans (by assumption) ?_ (by decide)))⟩)
        · refine a_iconst (0) 54 dX6_takesDigit_53 rfl (by decide) ?_
          exact a_ireturn dX6_takesDigit_54 rfl rfl (Nat.le_of_ble_eq_true rfl) (Nat.le_of_ble_eq_true rfl) (by rw [show ltDigit (st, wh, it, nu, to) c = ((st, wh, it, nu, to), 0) from (if_pos ⟨Int32.not_lt.mp c_4, Int32.not_le.mp c_15⟩).trans ((if_neg c_44).trans (if_neg c_50))]; exact ⟨rfl, hs0, fr_refl _ _⟩)
end TAKES
