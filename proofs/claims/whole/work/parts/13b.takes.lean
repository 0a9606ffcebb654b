section TAKES
variable {l : Launch} {G : rG} {h : rH}
set_option maxRecDepth 100000 in
set_option maxHeartbeats 400000 in
theorem k_X2_takes {s : ctS} (hs : ctAt G h s) (c : Int32) : rM l G 1 mX2_takes 0 0 [.ref (gN G + 2), .int c] h (fun h' v => v = some (.int (ctTakes s c).2) ∧ ctAt G h' (ctTakes s c).1 ∧ fr h h' [2, 3]) := by
  obtain ⟨st, ro, wi, mi, se, fa⟩ := s
  have hs0 := hs
  obtain ⟨hc, hf⟩ := hs
  dsimp only at hc hf
  refine rM_start (by decide) (Nat.le_of_ble_eq_true rfl) ?_
  refine a_aload_n 1 dX2_takes_0 rfl rfl ?_
  refine a_get fd_X2_15 rfl 4 dX2_takes_1 rfl (by repeat (first | assumption | (refine rg_ne (by first | decide | omega) ?_) | apply rg_eq | refine rg_fr (by assumption) (by first | decide | (simp; omega)) ?_)) rfl ?_
  rcases (show (st).toInt = 0 ∨ (st).toInt = 1 ∨ (st).toInt = 2 ∨ (st).toInt = 3 ∨ (st).toInt = 4 ∨ ((st).toInt < 0 ∨ 4 < (st).toInt) by omega) with w_4 | w_4 | w_4 | w_4 | w_4 | w_4
  · refine a_tableIn 40 dX2_takes_4 (by rw [w_4]; decide) (by rw [w_4]; decide) (by rw [w_4]; rfl) (by decide) ?_
    refine a_aload_n 41 dX2_takes_40 rfl rfl ?_
    refine a_iconst (1) 42 dX2_takes_41 rfl (by decide) ?_
    refine a_put fd_X2_15 cl_X2 rfl 45 dX2_takes_42 rfl (by repeat (first | assumption | (refine rg_ne (by first | decide | omega) ?_) | apply rg_eq | refine rg_fr (by assumption) (by first | decide | (simp; omega)) ?_)) (Nat.le_of_ble_eq_true rfl) rfl rfl rfl ?_
    refine a_iload_n 46 dX2_takes_45 rfl rfl ?_
    refine a_bipush (99) 48 dX2_takes_46 rfl (by decide) ?_
    refine a_icmp_ne 55 51 dX2_takes_48 rfl (by decide) (fun c_48 => ?_) (fun c_48 => ?_)
    · refine a_iconst (0) 56 dX2_takes_55 rfl (by decide) ?_
      exact a_ireturn dX2_takes_56 rfl rfl (Nat.le_of_ble_eq_true rfl) (Nat.le_of_ble_eq_true rfl) (by rw [ct_0 w_4, if_neg c_48]; exact ⟨rfl, ⟨(by repeat (first | assumption | (refine rg_ne (by first | decide | omega) ?_) | apply rg_eq | refine rg_fr (by assumption) (by first | decide | (simp; omega)) ?_)), (by repeat (first | assumption | (refine rg_ne (by first | decide | omega) ?_) | apply rg_eq | refine rg_fr (by assumption) (by first | decide | (simp; omega)) ?_))⟩, (by repeat (first | exact fr_refl _ _ | assumption | refine fr_set ?_ (by decide) | refine fr_trans (by assumption) ?_ (by decide)))⟩)
    · refine a_iconst (1) 52 dX2_takes_51 rfl (by decide) ?_
      refine a_goto 56 dX2_takes_52 (by decide) ?_
      exact a_ireturn dX2_takes_56 rfl rfl (Nat.le_of_ble_eq_true rfl) (Nat.le_of_ble_eq_true rfl) (by rw [ct_0 w_4, if_pos c_48]; exact ⟨rfl, ⟨(by repeat (first | assumption | (refine rg_ne (by first | decide | omega) ?_) | apply rg_eq | refine rg_fr (by assumption) (by first | decide | (simp; omega)) ?_)), (by repeat (first | assumption | (refine rg_ne (by first | decide | omega) ?_) | apply rg_eq | refine rg_fr (by assumption) (by first | decide | (simp; omega)) ?_))⟩, (by repeat (first | exact fr_refl _ _ | assumption | refine fr_set ?_ (by decide) | refine fr_trans (by assumption) ?_ (by decide)))⟩)
  · refine a_tableIn 57 dX2_takes_4 (by rw [w_4]; decide) (by rw [w_4]; decide) (by rw [w_4]; rfl) (by decide) ?_
    refine a_aload_n 58 dX2_takes_57 rfl rfl ?_
    refine a_iload_n 59 dX2_takes_58 rfl rfl ?_
    refine a_bipush (48) 61 dX2_takes_59 rfl (by decide) ?_
    refine a_isub 62 dX2_takes_61 rfl ?_
    refine a_put fd_X2_19 cl_X2 rfl 65 dX2_takes_62 rfl (by repeat (first | assumption | (refine rg_ne (by first | decide | omega) ?_) | apply rg_eq | refine rg_fr (by assumption) (by first | decide | (simp; omega)) ?_)) (Nat.le_of_ble_eq_true rfl) rfl rfl rfl ?_
    refine a_aload_n 66 dX2_takes_65 rfl rfl ?_
    refine a_iconst (2) 67 dX2_takes_66 rfl (by decide) ?_
    refine a_put fd_X2_15 cl_X2 rfl 70 dX2_takes_67 rfl (by repeat (first | assumption | (refine rg_ne (by first | decide | omega) ?_) | apply rg_eq | refine rg_fr (by assumption) (by first | decide | (simp; omega)) ?_)) (Nat.le_of_ble_eq_true rfl) rfl rfl rfl ?_
    refine a_iload_n 71 dX2_takes_70 rfl rfl ?_
    refine a_bipush (49) 73 dX2_takes_71 rfl (by decide) ?_
    refine a_icmp_lt 86 76 dX2_takes_73 rfl (by decide) (fun c_73 => ?_) (fun c_73 => ?_)
    · refine a_iconst (0) 87 dX2_takes_86 rfl (by decide) ?_
      exact a_ireturn dX2_takes_87 rfl rfl (Nat.le_of_ble_eq_true rfl) (Nat.le_of_ble_eq_true rfl) (by rw [ct_1 w_4, if_neg (fun q => Int32.not_le.mpr c_73 q.1)]; exact ⟨rfl, ⟨(by repeat (first | assumption | (refine rg_ne (by first | decide | omega) ?_) | apply rg_eq | refine rg_fr (by assumption) (by first | decide | (simp; omega)) ?_)), (by repeat (first | assumption | (refine rg_ne (by first | decide | omega) ?_) | apply rg_eq | refine rg_fr (by assumption) (by first | decide | (simp; omega)) ?_))⟩, (by repeat (first | exact fr_refl _ _ | assumption | refine fr_set ?_ (by decide) | refine fr_trans (by assumption) ?_ (by decide)))⟩)
    · refine a_iload_n 77 dX2_takes_76 rfl rfl ?_
      refine a_bipush (56) 79 dX2_takes_77 rfl (by decide) ?_
      refine a_icmp_gt 86 82 dX2_takes_79 rfl (by decide) (fun c_79 => ?_) (fun c_79 => ?_)
      · refine a_iconst (0) 87 dX2_takes_86 rfl (by decide) ?_
        exact a_ireturn dX2_takes_87 rfl rfl (Nat.le_of_ble_eq_true rfl) (Nat.le_of_ble_eq_true rfl) (by rw [ct_1 w_4, if_neg (fun q => Int32.not_le.mpr c_79 q.2)]; exact ⟨rfl, ⟨(by repeat (first | assumption | (refine rg_ne (by first | decide | omega) ?_) | apply rg_eq | refine rg_fr (by assumption) (by first | decide | (simp; omega)) ?_)), (by repeat (first | assumption | (refine rg_ne (by first | decide | omega) ?_) | apply rg_eq | refine rg_fr (by assumption) (by first | decide | (simp; omega)) ?_))⟩, (by repeat (first | exact fr_refl _ _ | assumption | refine fr_set ?_ (by decide) | refine fr_trans (by assumption) ?_ (by decide)))⟩)
      · refine a_iconst (1) 83 dX2_takes_82 rfl (by decide) ?_
        refine a_goto 87 dX2_takes_83 (by decide) ?_
        exact a_ireturn dX2_takes_87 rfl rfl (Nat.le_of_ble_eq_true rfl) (Nat.le_of_ble_eq_true rfl) (by rw [ct_1 w_4, if_pos ⟨Int32.not_lt.mp c_73, Int32.not_lt.mp c_79⟩]; exact ⟨rfl, ⟨(by repeat (first | assumption | (refine rg_ne (by first | decide | omega) ?_) | apply rg_eq | refine rg_fr (by assumption) (by first | decide | (simp; omega)) ?_)), (by repeat (first | assumption | (refine rg_ne (by first | decide | omega) ?_) | apply rg_eq | refine rg_fr (by assumption) (by first | decide | (simp; omega)) ?_))⟩, (by repeat (first | exact fr_refl _ _ | assumption | refine fr_set ?_ (by decide) | refine fr_trans (by assumption) ?_ (by decide)))⟩)
  · refine a_tableIn 88 dX2_takes_4 (by rw [w_4]; decide) (by rw [w_4]; decide) (by rw [w_4]; rfl) (by decide) ?_
    refine a_aload_n 89 dX2_takes_88 rfl rfl ?_
    refine a_iload_n 90 dX2_takes_89 rfl rfl ?_
    refine a_bipush (48) 92 dX2_takes_90 rfl (by decide) ?_
    refine a_isub 93 dX2_takes_92 rfl ?_
    refine a_put fd_X2_22 cl_X2 rfl 96 dX2_takes_93 rfl (by repeat (first | assumption | (refine rg_ne (by first | decide | omega) ?_) | apply rg_eq | refine rg_fr (by assumption) (by first | decide | (simp; omega)) ?_)) (Nat.le_of_ble_eq_true rfl) rfl rfl rfl ?_
    refine a_aload_n 97 dX2_takes_96 rfl rfl ?_
    refine a_iconst (3) 98 dX2_takes_97 rfl (by decide) ?_
    refine a_put fd_X2_15 cl_X2 rfl 101 dX2_takes_98 rfl (by repeat (first | assumption | (refine rg_ne (by first | decide | omega) ?_) | apply rg_eq | refine rg_fr (by assumption) (by first | decide | (simp; omega)) ?_)) (Nat.le_of_ble_eq_true rfl) rfl rfl rfl ?_
    refine a_iload_n 102 dX2_takes_101 rfl rfl ?_
    refine a_bipush (49) 104 dX2_takes_102 rfl (by decide) ?_
    refine a_icmp_lt 117 107 dX2_takes_104 rfl (by decide) (fun c_104 => ?_) (fun c_104 => ?_)
    · refine a_iconst (0) 118 dX2_takes_117 rfl (by decide) ?_
      exact a_ireturn dX2_takes_118 rfl rfl (Nat.le_of_ble_eq_true rfl) (Nat.le_of_ble_eq_true rfl) (by rw [ct_2 w_4, if_neg (fun q => Int32.not_le.mpr c_104 q.1)]; exact ⟨rfl, ⟨(by repeat (first | assumption | (refine rg_ne (by first | decide | omega) ?_) | apply rg_eq | refine rg_fr (by assumption) (by first | decide | (simp; omega)) ?_)), (by repeat (first | assumption | (refine rg_ne (by first | decide | omega) ?_) | apply rg_eq | refine rg_fr (by assumption) (by first | decide | (simp; omega)) ?_))⟩, (by repeat (first | exact fr_refl _ _ | assumption | refine fr_set ?_ (by decide) | refine fr_trans (by assumption) ?_ (by decide)))⟩)
    · refine a_iload_n 108 dX2_takes_107 rfl rfl ?_
      refine a_bipush (52) 110 dX2_takes_108 rfl (by decide) ?_
      refine a_icmp_gt 117 113 dX2_takes_110 rfl (by decide) (fun c_110 => ?_) (fun c_110 => ?_)
      · refine a_iconst (0) 118 dX2_takes_117 rfl (by decide) ?_
        exact a_ireturn dX2_takes_118 rfl rfl (Nat.le_of_ble_eq_true rfl) (Nat.le_of_ble_eq_true rfl) (by rw [ct_2 w_4, if_neg (fun q => Int32.not_le.mpr c_110 q.2)]; exact ⟨rfl, ⟨(by repeat (first | assumption | (refine rg_ne (by first | decide | omega) ?_) | apply rg_eq | refine rg_fr (by assumption) (by first | decide | (simp; omega)) ?_)), (by repeat (first | assumption | (refine rg_ne (by first | decide | omega) ?_) | apply rg_eq | refine rg_fr (by assumption) (by first | decide | (simp; omega)) ?_))⟩, (by repeat (first | exact fr_refl _ _ | assumption | refine fr_set ?_ (by decide) | refine fr_trans (by assumption) ?_ (by decide)))⟩)
      · refine a_iconst (1) 114 dX2_takes_113 rfl (by decide) ?_
        refine a_goto 118 dX2_takes_114 (by decide) ?_
        exact a_ireturn dX2_takes_118 rfl rfl (Nat.le_of_ble_eq_true rfl) (Nat.le_of_ble_eq_true rfl) (by rw [ct_2 w_4, if_pos ⟨Int32.not_lt.mp c_104, Int32.not_lt.mp c_110⟩]; exact ⟨rfl, ⟨(by repeat (first | assumption | (refine rg_ne (by first | decide | omega) ?_) | apply rg_eq | refine rg_fr (by assumption) (by first | decide | (simp; omega)) ?_)), (by repeat (first | assumption | (refine rg_ne (by first | decide | omega) ?_) | apply rg_eq | refine rg_fr (by assumption) (by first | decide | (simp; omega)) ?_))⟩, (by repeat (first | exact fr_refl _ _ | assumption | refine fr_set ?_ (by decide) | refine fr_trans (by assumption) ?_ (by decide)))⟩)
  · refine a_tableIn 119 dX2_takes_4 (by rw [w_4]; decide) (by rw [w_4]; decide) (by rw [w_4]; rfl) (by decide) ?_
    refine a_aload_n 120 dX2_takes_119 rfl rfl ?_
    refine a_iload_n 121 dX2_takes_120 rfl rfl ?_
    refine a_bipush (109) 123 dX2_takes_121 rfl (by decide) ?_
    refine a_icmp_ne 130 126 dX2_takes_123 rfl (by decide) (fun c_123 => ?_) (fun c_123 => ?_)
    · refine a_iconst (0) 131 dX2_takes_130 rfl (by decide) ?_
      refine a_put fd_X2_25 cl_X2 rfl 134 dX2_takes_131 rfl (by repeat (first | assumption | (refine rg_ne (by first | decide | omega) ?_) | apply rg_eq | refine rg_fr (by assumption) (by first | decide | (simp; omega)) ?_)) (Nat.le_of_ble_eq_true rfl) rfl rfl rfl ?_
      refine a_aload_n 135 dX2_takes_134 rfl rfl ?_
      refine a_aload_n 136 dX2_takes_135 rfl rfl ?_
      refine a_get fd_X2_25 rfl 139 dX2_takes_136 rfl (by repeat (first | assumption | (refine rg_ne (by first | decide | omega) ?_) | apply rg_eq | refine rg_fr (by assumption) (by first | decide | (simp; omega)) ?_)) rfl ?_
      refine a_if_eq 146 142 dX2_takes_139 rfl (by decide) (fun c_139 => ?_) (fun c_139 => absurd rfl c_139)
      refine a_iconst (5) 147 dX2_takes_146 rfl (by decide) ?_
      refine a_put fd_X2_15 cl_X2 rfl 150 dX2_takes_147 rfl (by repeat (first | assumption | (refine rg_ne (by first | decide | omega) ?_) | apply rg_eq | refine rg_fr (by assumption) (by first | decide | (simp; omega)) ?_)) (Nat.le_of_ble_eq_true rfl) rfl rfl rfl ?_
      refine a_aload_n 151 dX2_takes_150 rfl rfl ?_
      refine a_get fd_X2_25 rfl 154 dX2_takes_151 rfl (by repeat (first | assumption | (refine rg_ne (by first | decide | omega) ?_) | apply rg_eq | refine rg_fr (by assumption) (by first | decide | (simp; omega)) ?_)) rfl ?_
      refine a_if_ne 163 157 dX2_takes_154 rfl (by decide) (fun c_154 => absurd rfl c_154) (fun c_154 => ?_)
      refine a_iload_n 158 dX2_takes_157 rfl rfl ?_
      refine a_bipush (59) 160 dX2_takes_158 rfl (by decide) ?_
      refine a_icmp_ne 167 163 dX2_takes_160 rfl (by decide) (fun c_160 => ?_) (fun c_160 => ?_)
      · refine a_iconst (0) 168 dX2_takes_167 rfl (by decide) ?_
        exact a_ireturn dX2_takes_168 rfl rfl (Nat.le_of_ble_eq_true rfl) (Nat.le_of_ble_eq_true rfl) (by rw [ct_3 w_4, if_neg c_123, if_neg c_160]; exact ⟨rfl, ⟨(by repeat (first | assumption | (refine rg_ne (by first | decide | omega) ?_) | apply rg_eq | refine rg_fr (by assumption) (by first | decide | (simp; omega)) ?_)), (by repeat (first | assumption | (refine rg_ne (by first | decide | omega) ?_) | apply rg_eq | refine rg_fr (by assumption) (by first | decide | (simp; omega)) ?_))⟩, (by repeat (first | exact fr_refl _ _ | assumption | refine fr_set ?_ (by decide) | refine fr_trans (by assumption) ?_ (by decide)))⟩)
      · refine a_iconst (1) 164 dX2_takes_163 rfl (by decide) ?_
        refine a_goto 168 dX2_takes_164 (by decide) ?_
        exact a_ireturn dX2_takes_168 rfl rfl (Nat.le_of_ble_eq_true rfl) (Nat.le_of_ble_eq_true rfl) (by rw [ct_3 w_4, if_neg c_123, if_pos c_160]; exact ⟨rfl, ⟨(by repeat (first | assumption | (refine rg_ne (by first | decide | omega) ?_) | apply rg_eq | refine rg_fr (by assumption) (by first | decide | (simp; omega)) ?_)), (by repeat (first | assumption | (refine rg_ne (by first | decide | omega) ?_) | apply rg_eq | refine rg_fr (by assumption) (by first | decide | (simp; omega)) ?_))⟩, (by repeat (first | exact fr_refl _ _ | assumption | refine fr_set ?_ (by decide) | refine fr_trans (by assumption) ?_ (by decide)))⟩)
    · refine a_iconst (1) 127 dX2_takes_126 rfl (by decide) ?_
      refine a_goto 131 dX2_takes_127 (by decide) ?_
      refine a_put fd_X2_25 cl_X2 rfl 134 dX2_takes_131 rfl (by repeat (first | assumption | (refine rg_ne (by first | decide | omega) ?_) | apply rg_eq | refine rg_fr (by assumption) (by first | decide | (simp; omega)) ?_)) (Nat.le_of_ble_eq_true rfl) rfl rfl rfl ?_
      refine a_aload_n 135 dX2_takes_134 rfl rfl ?_
      refine a_aload_n 136 dX2_takes_135 rfl rfl ?_
      refine a_get fd_X2_25 rfl 139 dX2_takes_136 rfl (by repeat (first | assumption | (refine rg_ne (by first | decide | omega) ?_) | apply rg_eq | refine rg_fr (by assumption) (by first | decide | (simp; omega)) ?_)) rfl ?_
      refine a_if_eq 146 142 dX2_takes_139 rfl (by decide) (fun c_139 => absurd c_139 (by decide)) (fun c_139 => ?_)
      refine a_iconst (4) 143 dX2_takes_142 rfl (by decide) ?_
      refine a_goto 147 dX2_takes_143 (by decide) ?_
      refine a_put fd_X2_15 cl_X2 rfl 150 dX2_takes_147 rfl (by repeat (first | assumption | (refine rg_ne (by first | decide | omega) ?_) | apply rg_eq | refine rg_fr (by assumption) (by first | decide | (simp; omega)) ?_)) (Nat.le_of_ble_eq_true rfl) rfl rfl rfl ?_
      refine a_aload_n 151 dX2_takes_150 rfl rfl ?_
      refine a_get fd_X2_25 rfl 154 dX2_takes_151 rfl (by repeat (first | assumption | (refine rg_ne (by first | decide | omega) ?_) | apply rg_eq | refine rg_fr (by assumption) (by first | decide | (simp; omega)) ?_)) rfl ?_
      refine a_if_ne 163 157 dX2_takes_154 rfl (by decide) (fun c_154 => ?_) (fun c_154 => absurd c_154 (by decide))
      refine a_iconst (1) 164 dX2_takes_163 rfl (by decide) ?_
      refine a_goto 168 dX2_takes_164 (by decide) ?_
      exact a_ireturn dX2_takes_168 rfl rfl (Nat.le_of_ble_eq_true rfl) (Nat.le_of_ble_eq_true rfl) (by rw [ct_3 w_4, if_pos c_123]; exact ⟨rfl, ⟨(by repeat (first | assumption | (refine rg_ne (by first | decide | omega) ?_) | apply rg_eq | refine rg_fr (by assumption) (by first | decide | (simp; omega)) ?_)), (by repeat (first | assumption | (refine rg_ne (by first | decide | omega) ?_) | apply rg_eq | refine rg_fr (by assumption) (by first | decide | (simp; omega)) ?_))⟩, (by repeat (first | exact fr_refl _ _ | assumption | refine fr_set ?_ (by decide) | refine fr_trans (by assumption) ?_ (by decide)))⟩)
  · refine a_tableIn 169 dX2_takes_4 (by rw [w_4]; decide) (by rw [w_4]; decide) (by rw [w_4]; rfl) (by decide) ?_
    refine a_aload_n 170 dX2_takes_169 rfl rfl ?_
    refine a_iconst (5) 171 dX2_takes_170 rfl (by decide) ?_
    refine a_put fd_X2_15 cl_X2 rfl 174 dX2_takes_171 rfl (by repeat (first | assumption | (refine rg_ne (by first | decide | omega) ?_) | apply rg_eq | refine rg_fr (by assumption) (by first | decide | (simp; omega)) ?_)) (Nat.le_of_ble_eq_true rfl) rfl rfl rfl ?_
    refine a_iload_n 175 dX2_takes_174 rfl rfl ?_
    refine a_bipush (59) 177 dX2_takes_175 rfl (by decide) ?_
    refine a_icmp_ne 184 180 dX2_takes_177 rfl (by decide) (fun c_177 => ?_) (fun c_177 => ?_)
    · refine a_iconst (0) 185 dX2_takes_184 rfl (by decide) ?_
      exact a_ireturn dX2_takes_185 rfl rfl (Nat.le_of_ble_eq_true rfl) (Nat.le_of_ble_eq_true rfl) (by rw [ct_4 w_4, if_neg c_177]; exact ⟨rfl, ⟨(by repeat (first | assumption | (refine rg_ne (by first | decide | omega) ?_) | apply rg_eq | refine rg_fr (by assumption) (by first | decide | (simp; omega)) ?_)), (by repeat (first | assumption | (refine rg_ne (by first | decide | omega) ?_) | apply rg_eq | refine rg_fr (by assumption) (by first | decide | (simp; omega)) ?_))⟩, (by repeat (first | exact fr_refl _ _ | assumption | refine fr_set ?_ (by decide) | refine fr_trans (by assumption) ?_ (by decide)))⟩)
    · refine a_iconst (1) 181 dX2_takes_180 rfl (by decide) ?_
      refine a_goto 185 dX2_takes_181 (by decide) ?_
      exact a_ireturn dX2_takes_185 rfl rfl (Nat.le_of_ble_eq_true rfl) (Nat.le_of_ble_eq_true rfl) (by rw [ct_4 w_4, if_pos c_177]; exact ⟨rfl, ⟨(by repeat (first | assumption | (refine rg_ne (by first | decide | omega) ?_) | apply rg_eq | refine rg_fr (by assumption) (by first | decide | (simp; omega)) ?_)), (by repeat (first | assumption | (refine rg_ne (by first | decide | omega) ?_) | apply rg_eq | refine rg_fr (by assumption) (by first | decide | (simp; omega)) ?_))⟩, (by repeat (first | exact fr_refl _ _ | assumption | refine fr_set ?_ (by decide) | refine fr_trans (by assumption) ?_ (by decide)))⟩)
  · refine a_tableOut 186 dX2_takes_4 w_4 (by decide) ?_
    refine a_aload_n 187 dX2_takes_186 rfl rfl ?_
    refine a_iload_n 188 dX2_takes_187 rfl rfl ?_
    refine a_callS ok_X2_faceBy ln_X2_32 is_X2_faceBy rfl 191 dX2_takes_188 rfl (k_X2_faceBy c) rfl rfl ⟨(Nat.le_of_ble_eq_true rfl), (Nat.le_of_ble_eq_true rfl)⟩ (Nat.le_of_ble_eq_true rfl) ⟨(Nat.le_of_ble_eq_true rfl), (Nat.le_of_ble_eq_true rfl)⟩ ?_
    rintro _ _ ⟨rfl, rfl⟩
    refine a_callV ok_X2_takesSeat ln_X2_36 in_X2_takesSeat rfl 194 dX2_takes_191 rfl (k_X2_takesSeat hs0 _) (by repeat (first | assumption | (refine rg_ne (by first | decide | omega) ?_) | apply rg_eq | refine rg_fr (by assumption) (by first | decide | (simp; omega)) ?_)) rfl rfl rfl ⟨(Nat.le_of_ble_eq_true rfl), (Nat.le_of_ble_eq_true rfl)⟩ (Nat.le_of_ble_eq_true rfl) ⟨(Nat.le_of_ble_eq_true rfl), (Nat.le_of_ble_eq_true rfl)⟩ ?_
    rintro h1 v ⟨rfl, hs1, hfr⟩
    exact a_ireturn dX2_takes_194 rfl (nb01 (ctSeat_b _ _)) (Nat.le_of_ble_eq_true rfl) (Nat.le_of_ble_eq_true rfl) (by rw [ct_d w_4]; exact ⟨rfl, hs1, hfr⟩)
end TAKES
