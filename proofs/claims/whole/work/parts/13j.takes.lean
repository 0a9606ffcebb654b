section TAKES
variable {l : Launch} {G : rG} {h : rH}
set_option maxRecDepth 100000 in
set_option maxHeartbeats 400000 in
theorem k_X6_takes {s : ltS} (hs : ltAt G h s) (c : Int32) : rM l G 1 mX6_takes 0 0 [.ref (gN G + 4), .int c] h (fun h' v => v = some (.int (ltTakes s c).2) ∧ ltAt G h' (ltTakes s c).1 ∧ fr h h' [4, 5, 6]) := by
  obtain ⟨st, wh, it, nu, to⟩ := s
  obtain ⟨hc, hf, hg⟩ := hs
  dsimp only at hc hf hg
  refine rM_start (by decide) (Nat.le_of_ble_eq_true rfl) ?_
  refine a_aload_n 1 dX6_takes_0 rfl rfl ?_
  refine a_get fd_X6_19 rfl 4 dX6_takes_1 rfl (by repeat (first | assumption | (refine rg_ne (by first | decide | omega) ?_) | apply rg_eq | refine rg_fr (by assumption) (by first | decide | (simp; omega)) ?_)) rfl ?_
  rcases (show (st).toInt = 0 ∨ (st).toInt = 1 ∨ ((st).toInt ≠ 0 ∧ (st).toInt ≠ 1) by omega) with w_4 | w_4 | w_4
  · refine a_lookup 32 dX6_takes_4 (by decide) (by rw [w_4] <;> rfl) (by decide) ?_
    refine a_aload_n 33 dX6_takes_32 rfl rfl ?_
    refine a_iconst (1) 34 dX6_takes_33 rfl (by decide) ?_
    refine a_put fd_X6_19 cl_X6 rfl 37 dX6_takes_34 rfl (by repeat (first | assumption | (refine rg_ne (by first | decide | omega) ?_) | apply rg_eq | refine rg_fr (by assumption) (by first | decide | (simp; omega)) ?_)) (Nat.le_of_ble_eq_true rfl) rfl rfl rfl ?_
    refine a_aload_n 38 dX6_takes_37 rfl rfl ?_
    refine a_iload_n 39 dX6_takes_38 rfl rfl ?_
    refine a_callS ok_X6_numberBy ln_X6_32 is_X6_numberBy rfl 42 dX6_takes_39 rfl (k_X6_numberBy c) rfl rfl ⟨(Nat.le_of_ble_eq_true rfl), (Nat.le_of_ble_eq_true rfl)⟩ (Nat.le_of_ble_eq_true rfl) ⟨(Nat.le_of_ble_eq_true rfl), (Nat.le_of_ble_eq_true rfl)⟩ ?_
    rintro _ _ ⟨rfl, rfl⟩
    refine a_callV ok_X6_takesLetter ln_X6_36 in_X6_takesLetter rfl 45 dX6_takes_42 rfl (k_X6_takesLetter (s := (1, wh, it, nu, to)) ⟨(by repeat (first | assumption | (refine rg_ne (by first | decide | omega) ?_) | apply rg_eq | refine rg_fr (by assumption) (by first | decide | (simp; omega)) ?_)), (by repeat (first | assumption | (refine rg_ne (by first | decide | omega) ?_) | apply rg_eq | refine rg_fr (by assumption) (by first | decide | (simp; omega)) ?_)), (by repeat (first | assumption | (refine rg_ne (by first | decide | omega) ?_) | apply rg_eq | refine rg_fr (by assumption) (by first | decide | (simp; omega)) ?_))⟩ _) (by repeat (first | assumption | (refine rg_ne (by first | decide | omega) ?_) | apply rg_eq | refine rg_fr (by assumption) (by first | decide | (simp; omega)) ?_)) rfl rfl rfl ⟨(Nat.le_of_ble_eq_true rfl), (Nat.le_of_ble_eq_true rfl)⟩ (Nat.le_of_ble_eq_true rfl) ⟨(Nat.le_of_ble_eq_true rfl), (Nat.le_of_ble_eq_true rfl)⟩ ?_
    rintro h1 v ⟨rfl, hs1, hfr⟩
    exact a_ireturn dX6_takes_45 rfl (nb01 (ltLetter_b _ _)) (Nat.le_of_ble_eq_true rfl) (Nat.le_of_ble_eq_true rfl) (by rw [lq_0 w_4]; exact ⟨rfl, hs1, fr_trans (fr_set (fr_refl _ _) (by decide)) hfr (fun _ q => q)⟩)
  · refine a_lookup 46 dX6_takes_4 (by decide) (by rw [w_4] <;> rfl) (by decide) ?_
    refine a_aload_n 47 dX6_takes_46 rfl rfl ?_
    refine a_iconst (2) 48 dX6_takes_47 rfl (by decide) ?_
    refine a_put fd_X6_19 cl_X6 rfl 51 dX6_takes_48 rfl (by repeat (first | assumption | (refine rg_ne (by first | decide | omega) ?_) | apply rg_eq | refine rg_fr (by assumption) (by first | decide | (simp; omega)) ?_)) (Nat.le_of_ble_eq_true rfl) rfl rfl rfl ?_
    refine a_aload_n 52 dX6_takes_51 rfl rfl ?_
    refine a_iload_n 53 dX6_takes_52 rfl rfl ?_
    refine a_callV ok_X6_takesDigit ln_X6_40 in_X6_takesDigit rfl 56 dX6_takes_53 rfl (k_X6_takesDigit (s := (2, wh, it, nu, to)) ⟨(by repeat (first | assumption | (refine rg_ne (by first | decide | omega) ?_) | apply rg_eq | refine rg_fr (by assumption) (by first | decide | (simp; omega)) ?_)), (by repeat (first | assumption | (refine rg_ne (by first | decide | omega) ?_) | apply rg_eq | refine rg_fr (by assumption) (by first | decide | (simp; omega)) ?_)), (by repeat (first | assumption | (refine rg_ne (by first | decide | omega) ?_) | apply rg_eq | refine rg_fr (by assumption) (by first | decide | (simp; omega)) ?_))⟩ _) (by repeat (first | assumption | (refine rg_ne (by first | decide | omega) ?_) | apply rg_eq | refine rg_fr (by assumption) (by first | decide | (simp; omega)) ?_)) rfl rfl rfl ⟨(Nat.le_of_ble_eq_true rfl), (Nat.le_of_ble_eq_true rfl)⟩ (Nat.le_of_ble_eq_true rfl) ⟨(Nat.le_of_ble_eq_true rfl), (Nat.le_of_ble_eq_true rfl)⟩ ?_
    rintro h1 v ⟨rfl, hs1, hfr⟩
    exact a_ireturn dX6_takes_56 rfl (nb01 (ltDigit_b _ _)) (Nat.le_of_ble_eq_true rfl) (Nat.le_of_ble_eq_true rfl) (by rw [lq_1 w_4]; exact ⟨rfl, hs1, fr_trans (fr_set (fr_refl _ _) (by decide)) hfr (fun _ q => q)⟩)
  · refine a_lookup (off := 53) 57 dX6_takes_4 (by decide) (by simp only [Op.lookupswitch.offset_cons, Op.lookupswitch.offset]; repeat (first | rfl | omega | split)) (by decide) ?_
    refine a_aload_n 58 dX6_takes_57 rfl rfl ?_
    refine a_iconst (0) 59 dX6_takes_58 rfl (by decide) ?_
    refine a_put fd_X6_19 cl_X6 rfl 62 dX6_takes_59 rfl (by repeat (first | assumption | (refine rg_ne (by first | decide | omega) ?_) | apply rg_eq | refine rg_fr (by assumption) (by first | decide | (simp; omega)) ?_)) (Nat.le_of_ble_eq_true rfl) rfl rfl rfl ?_
    refine a_iload_n 63 dX6_takes_62 rfl rfl ?_
    refine a_bipush (59) 65 dX6_takes_63 rfl (by decide) ?_
    refine a_icmp_ne 81 68 dX6_takes_65 rfl (by decide) (fun c_65 => ?_) (fun c_65 => ?_)
    · refine a_iconst (0) 82 dX6_takes_81 rfl (by decide) ?_
      exact a_ireturn dX6_takes_82 rfl rfl (Nat.le_of_ble_eq_true rfl) (Nat.le_of_ble_eq_true rfl) (by rw [lq_d w_4, if_neg c_65]; exact ⟨rfl, ⟨(by repeat (first | assumption | (refine rg_ne (by first | decide | omega) ?_) | apply rg_eq | refine rg_fr (by assumption) (by first | decide | (simp; omega)) ?_)), (by repeat (first | assumption | (refine rg_ne (by first | decide | omega) ?_) | apply rg_eq | refine rg_fr (by assumption) (by first | decide | (simp; omega)) ?_)), (by repeat (first | assumption | (refine rg_ne (by first | decide | omega) ?_) | apply rg_eq | refine rg_fr (by assumption) (by first | decide | (simp; omega)) ?_))⟩, (by repeat (first | exact fr_refl _ _ | assumption | refine fr_set ?_ (by decide) | refine fr_trans (by assumption) ?_ (by decide)))⟩)
    · refine a_aload_n 69 dX6_takes_68 rfl rfl ?_
      refine a_get fd_X6_26 rfl 72 dX6_takes_69 rfl (by repeat (first | assumption | (refine rg_ne (by first | decide | omega) ?_) | apply rg_eq | refine rg_fr (by assumption) (by first | decide | (simp; omega)) ?_)) rfl ?_
      refine a_bipush (7) 74 dX6_takes_72 rfl (by decide) ?_
      refine a_icmp_ge 81 77 dX6_takes_74 rfl (by decide) (fun c_74 => ?_) (fun c_74 => ?_)
      · refine a_iconst (0) 82 dX6_takes_81 rfl (by decide) ?_
        exact a_ireturn dX6_takes_82 rfl rfl (Nat.le_of_ble_eq_true rfl) (Nat.le_of_ble_eq_true rfl) (by rw [lq_d w_4, if_pos c_65, if_neg (Int32.not_lt.mpr c_74)]; exact ⟨rfl, ⟨(by repeat (first | assumption | (refine rg_ne (by first | decide | omega) ?_) | apply rg_eq | refine rg_fr (by assumption) (by first | decide | (simp; omega)) ?_)), (by repeat (first | assumption | (refine rg_ne (by first | decide | omega) ?_) | apply rg_eq | refine rg_fr (by assumption) (by first | decide | (simp; omega)) ?_)), (by repeat (first | assumption | (refine rg_ne (by first | decide | omega) ?_) | apply rg_eq | refine rg_fr (by assumption) (by first | decide | (simp; omega)) ?_))⟩, (by repeat (first | exact fr_refl _ _ | assumption | refine fr_set ?_ (by decide) | refine fr_trans (by assumption) ?_ (by decide)))⟩)
      · refine a_iconst (1) 78 dX6_takes_77 rfl (by decide) ?_
        refine a_goto 82 dX6_takes_78 (by decide) ?_
        exact a_ireturn dX6_takes_82 rfl rfl (Nat.le_of_ble_eq_true rfl) (Nat.le_of_ble_eq_true rfl) (by rw [lq_d w_4, if_pos c_65, if_pos (Int32.not_le.mp c_74)]; exact ⟨rfl, ⟨(by repeat (first | assumption | (refine rg_ne (by first | decide | omega) ?_) | apply rg_eq | refine rg_fr (by assumption) (by first | decide | (simp; omega)) ?_)), (by repeat (first | assumption | (refine rg_ne (by first | decide | omega) ?_) | apply rg_eq | refine rg_fr (by assumption) (by first | decide | (simp; omega)) ?_)), (by repeat (first | assumption | (refine rg_ne (by first | decide | omega) ?_) | apply rg_eq | refine rg_fr (by assumption) (by first | decide | (simp; omega)) ?_))⟩, (by repeat (first | exact fr_refl _ _ | assumption | refine fr_set ?_ (by decide) | refine fr_trans (by assumption) ?_ (by decide)))⟩)
end TAKES
