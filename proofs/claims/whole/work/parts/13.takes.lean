theorem ct_0 {st ro wi mi se c : Int32} {fa : Nat → Int32} (w : st.toInt = 0) : ctTakes (st, ro, wi, mi, se, fa) c = ((1, ro, wi, mi, se, fa), if c = 99 then 1 else 0) := by simp [ctTakes, w]
theorem ct_1 {st ro wi mi se c : Int32} {fa : Nat → Int32} (w : st.toInt = 1) : ctTakes (st, ro, wi, mi, se, fa) c = ((2, c - 48, wi, mi, se, fa), if 49 ≤ c ∧ c ≤ 56 then 1 else 0) := by simp [ctTakes, w]
theorem ct_2 {st ro wi mi se c : Int32} {fa : Nat → Int32} (w : st.toInt = 2) : ctTakes (st, ro, wi, mi, se, fa) c = ((3, ro, c - 48, mi, se, fa), if 49 ≤ c ∧ c ≤ 52 then 1 else 0) := by simp [ctTakes, w]
theorem ct_3 {st ro wi mi se c : Int32} {fa : Nat → Int32} (w : st.toInt = 3) : ctTakes (st, ro, wi, mi, se, fa) c = (if c = 109 then ((4, ro, wi, 1, se, fa), 1) else ((5, ro, wi, 0, se, fa), if c = 59 then 1 else 0)) := by simp [ctTakes, w]
theorem ct_4 {st ro wi mi se c : Int32} {fa : Nat → Int32} (w : st.toInt = 4) : ctTakes (st, ro, wi, mi, se, fa) c = ((5, ro, wi, mi, se, fa), if c = 59 then 1 else 0) := by simp [ctTakes, w]
theorem ct_d {st ro wi mi se c : Int32} {fa : Nat → Int32} (w : st.toInt < 0 ∨ 4 < st.toInt) : ctTakes (st, ro, wi, mi, se, fa) c = ctSeat (st, ro, wi, mi, se, fa) (faceBI c) := by
  simp [ctTakes, show ¬ st.toInt = 0 by omega, show ¬ st.toInt = 1 by omega, show ¬ st.toInt = 2 by omega, show ¬ st.toInt = 3 by omega, show ¬ st.toInt = 4 by omega]
abbrev ltS : Type := Int32 × Int32 × Int32 × (Nat → Int32) × (Nat → Int32)
/-- the cells of the law's text: stage, which, items, numbers, told -/
def ltAt (G : rG) (h : rH) (s : ltS) : Prop := h[4]? = some (.inr (6, [.ref (gN G + 5), .ref (gN G + 6), .int s.1, .int s.2.1, .int s.2.2.1])) ∧ h[5]? = some (.inl (gA G 0, 7, .inl s.2.2.2.1)) ∧ h[6]? = some (.inl (gA G 1, 7, .inl s.2.2.2.2))
def numBI (c : Int32) : Int32 := if c = 111 then 0 else if c = 115 then 1 else if c = 101 then 2 else if c = 107 then 3 else if c = 121 then 4 else if c = 102 then 5 else if c = 116 then 6 else -9
def ltLetter (s : ltS) (x : Int32) : ltS × Int32 := match s with
  | (st, wh, it, nu, to) => if 0 ≤ x ∧ x < 7 then (if to x.toNatClampNeg = 0 then ((st, x, it, nu, upd to x.toNatClampNeg 1), 1) else (s, 0)) else (s, 0)
def ltDigit (s : ltS) (c : Int32) : ltS × Int32 := match s with
  | (st, wh, it, nu, to) => if 0 ≤ wh ∧ wh < 7 then (if c < 48 + rLeast wh.toNatClampNeg then (s, 0) else if c ≤ 57 then ((st, wh, it + 1, upd nu wh.toNatClampNeg (c - 48), to), 1) else (s, 0)) else (s, 0)
def ltTakes (s : ltS) (c : Int32) : ltS × Int32 := match s with
  | (st, wh, it, nu, to) =>
    if st.toInt = 0 then ltLetter (1, wh, it, nu, to) (numBI c)
    else if st.toInt = 1 then ltDigit (2, wh, it, nu, to) c
    else ((0, wh, it, nu, to), if c = 59 then (if it < 7 then 1 else 0) else 0)
theorem lt_0 {st wh it c : Int32} {nu to : Nat → Int32} (w : st.toInt = 0) : ltTakes (st, wh, it, nu, to) c = ltLetter (1, wh, it, nu, to) (numBI c) := by simp [ltTakes, w]
theorem lt_1 {st wh it c : Int32} {nu to : Nat → Int32} (w : st.toInt = 1) : ltTakes (st, wh, it, nu, to) c = ltDigit (2, wh, it, nu, to) c := by simp [ltTakes, w]
theorem lt_d {st wh it c : Int32} {nu to : Nat → Int32} (w : st.toInt ≠ 0 ∧ st.toInt ≠ 1) : ltTakes (st, wh, it, nu, to) c = ((0, wh, it, nu, to), if c = 59 then (if it < 7 then 1 else 0) else 0) := by simp [ltTakes, w]
theorem vin_of {i : Int32} {N : Nat} (h1 : ¬ i < 0) (h2 : i < Int32.ofNat N) (hN : N < 2 ^ 31) : vp_in i N := vin_ge h1 (Int32.not_le.mpr h2) hN
section TAKES
variable {l : Launch} {G : rG} {h : rH}
set_option maxRecDepth 100000 in
set_option maxHeartbeats 4000000 in
theorem k_X2_takes {s : ctS} (hs : ctAt G h s) (c : Int32) : rM l G 1 mX2_takes 0 0 [.ref (gN G + 2), .int c] h (fun h' v => v = some (.int (ctTakes s c).2) ∧ ctAt G h' (ctTakes s c).1 ∧ fr h h' [2, 3]) := by
  obtain ⟨st, ro, wi, mi, se, fa⟩ := s
  have hs0 := hs
  obtain ⟨hc, hf⟩ := hs
  dsimp only at hc hf
  refine rM_start (by decide) (Nat.le_of_ble_eq_true rfl) ?_
  refine a_aload_n 1 dX2_takes_0 rfl rfl ?_
  refine a_get fd_X2_15 rfl 4 dX2_takes_1 rfl (by repeat (first | assumption | (refine rg_ne (by first | decide | omega) ?_) | apply rg_eq | refine rg_fr (by assumption) (by first | decide | (simp; omega)) ?_)) rfl ?_
  rcases (show (st).toInt = 0 ∨ (st).toInt = 1 ∨ (st).toInt = 2 ∨ (st).toInt = 3 ∨ (st).toInt = 4 ∨ ((st).toInt < 0 ∨ 4 < (st).toInt) by omega) with w_4 | w_4 | w_4 | w_4 | w_4 | w_4
  · refine a_tableIn 40 dX2_takes_4 (by rw [w_4]; decide) (by rw [w_4]; decide) (by rw [w_4]; rfl) (by decide) ?_
    refine a_aload_n 41 dX2_takes_40 rfl rfl ?_
    refine a_iconst (1) 42 dX2_takes_41 rfl (by decide) ?_
    refine a_put fd_X2_15 cl_X2 rfl 45 dX2_takes_42 rfl (by repeat (first | assumption | (refine rg_ne (by first | decide | omega) ?_) | apply rg_eq | refine rg_fr (by assumption) (by first | decide | (simp; omega)) ?_)) (Nat.le_of_ble_eq_true rfl) rfl rfl rfl ?_
    refine a_iload_n 46 dX2_takes_45 rfl rfl ?_
    refine a_bipush (99) 48 dX2_takes_46 rfl (by decide) ?_
    refine a_icmp_ne 55 51 dX2_takes_48 rfl (by decide) (fun c_48 => ?_) (fun c_48 => ?_)
    · refine a_iconst (0) 56 dX2_takes_55 rfl (by decide) ?_
      exact a_ireturn dX2_takes_56 rfl rfl (Nat.le_of_ble_eq_true rfl) (Nat.le_of_ble_eq_true rfl) (by rw [ct_0 w_4, if_neg c_48]; exact ⟨rfl, ⟨(by repeat (first | assumption | (refine rg_ne (by first | decide | omega) ?_) | apply rg_eq | refine rg_fr (by assumption) (by first | decide | (simp; omega)) ?_)), (by repeat (first | assumption | (refine rg_ne (by first | decide | omega) ?_) | apply rg_eq | refine rg_fr (by assumption) (by first | decide | (simp; omega)) ?_))⟩, (by repeat (first | exact fr_refl _ _ | assumption | refine fr_set ?_ (by decide) | refine fr_trans (by assumption) ?_ (by decide)))⟩)
    · refine a_iconst (1) 52 dX2_takes_51 rfl (by decide) ?_
      refine a_goto 56 dX2_takes_52 (by decide) ?_
      exact a_ireturn dX2_takes_56 rfl rfl (Nat.le_of_ble_eq_true rfl) (Nat.le_of_ble_eq_true rfl) (by rw [ct_0 w_4, if_pos c_48]; exact ⟨rfl, ⟨(by repeat (first | assumption | (refine rg_ne (by first | decide | omega) ?_) | apply rg_eq | refine rg_fr (by assumption) (by first | decide | (simp; omega)) ?_)), (by repeat (first | assumption | (refine rg_ne (by first | decide | omega) ?_) | apply rg_eq | refine rg_fr (by assumption) (by first | decide | (simp; omega)) ?_))⟩, (by repeat (first | exact fr_refl _ _ | assumption | refine fr_set ?_ (by decide) | refine fr_trans (by assumption) ?_ (by decide)))⟩)
  · refine a_tableIn 57 dX2_takes_4 (by rw [w_4]; decide) (by rw [w_4]; decide) (by rw [w_4]; rfl) (by decide) ?_
    refine a_aload_n 58 dX2_takes_57 rfl rfl ?_
    refine a_iload_n 59 dX2_takes_58 rfl rfl ?_
    refine a_bipush (48) 61 dX2_takes_59 rfl (by decide) ?_
    refine a_isub 62 dX2_takes_61 rfl ?_
    refine a_put fd_X2_19 cl_X2 rfl 65 dX2_takes_62 rfl (by repeat (first | assumption | (refine rg_ne (by first | decide | omega) ?_) | apply rg_eq | refine rg_fr (by assumption) (by first | decide | (simp; omega)) ?_)) (Nat.le_of_ble_eq_true rfl) rfl rfl rfl ?_
    refine a_aload_n 66 dX2_takes_65 rfl rfl ?_
    refine a_iconst (2) 67 dX2_takes_66 rfl (by decide) ?_
    refine a_put fd_X2_15 cl_X2 rfl 70 dX2_takes_67 rfl (by repeat (first | assumption | (refine rg_ne (by first | decide | omega) ?_) | apply rg_eq | refine rg_fr (by assumption) (by first | decide | (simp; omega)) ?_)) (Nat.le_of_ble_eq_true rfl) rfl rfl rfl ?_
    refine a_iload_n 71 dX2_takes_70 rfl rfl ?_
    refine a_bipush (49) 73 dX2_takes_71 rfl (by decide) ?_
    refine a_icmp_lt 86 76 dX2_takes_73 rfl (by decide) (fun c_73 => ?_) (fun c_73 => ?_)
    · refine a_iconst (0) 87 dX2_takes_86 rfl (by decide) ?_
      exact a_ireturn dX2_takes_87 rfl rfl (Nat.le_of_ble_eq_true rfl) (Nat.le_of_ble_eq_true rfl) (by rw [ct_1 w_4, if_neg (fun q => Int32.not_le.mpr c_73 q.1)]; exact ⟨rfl, ⟨(by repeat (first | assumption | (refine rg_ne (by first | decide | omega) ?_) | apply rg_eq | refine rg_fr (by assumption) (by first | decide | (simp; omega)) ?_)), (by repeat (first | assumption | (refine rg_ne (by first | decide | omega) ?_) | apply rg_eq | refine rg_fr (by assumption) (by first | decide | (simp; omega)) ?_))⟩, (by repeat (first | exact fr_refl _ _ | assumption | refine fr_set ?_ (by decide) | refine fr_trans (by assumption) ?_ (by decide)))⟩)
    · refine a_iload_n 77 dX2_takes_76 rfl rfl ?_
      refine a_bipush (56) 79 dX2_takes_77 rfl (by decide) ?_
      refine a_icmp_gt 86 82 dX2_takes_79 rfl (by decide) (fun c_79 => ?_) (fun c_79 => ?_)
      · refine a_iconst (0) 87 dX2_takes_86 rfl (by decide) ?_
        exact a_ireturn dX2_takes_87 rfl rfl (Nat.le_of_ble_eq_true rfl) (Nat.le_of_ble_eq_true rfl) (by rw [ct_1 w_4, if_neg (fun q => Int32.not_le.mpr c_79 q.2)]; exact ⟨rfl, ⟨(by repeat (first | assumption | (refine rg_ne (by first | decide | omega) ?_) | apply rg_eq | refine rg_fr (by assumption) (by first | decide | (simp; omega)) ?_)), (by repeat (first | assumption | (refine rg_ne (by first | decide | omega) ?_) | apply rg_eq | refine rg_fr (by assumption) (by first | decide | (simp; omega)) ?_))⟩, (by repeat (first | exact fr_refl _ _ | assumption | refine fr_set ?_ (by decide) | refine fr_trans (by assumption) ?_ (by decide)))⟩)
      · refine a_iconst (1) 83 dX2_takes_82 rfl (by decide) ?_
        refine a_goto 87 dX2_takes_83 (by decide) ?_
        exact a_ireturn dX2_takes_87 rfl rfl (Nat.le_of_ble_eq_true rfl) (Nat.le_of_ble_eq_true rfl) (by rw [ct_1 w_4, if_pos ⟨Int32.not_lt.mp c_73, Int32.not_lt.mp c_79⟩]; exact ⟨rfl, ⟨(by repeat (first | assumption | (refine rg_ne (by first | decide | omega) ?_) | apply rg_eq | refine rg_fr (by assumption) (by first | decide | (simp; omega)) ?_)), (by repeat (first | assumption | (refine rg_ne (by first | decide | omega) ?_) | apply rg_eq | refine rg_fr (by assumption) (by first | decide | (simp; omega)) ?_))⟩, (by repeat (first | exact fr_refl _ _ | assumption | refine fr_set ?_ (by decide) | refine fr_trans (by assumption) ?_ (by decide)))⟩)
  · refine a_tableIn 88 dX2_takes_4 (by rw [w_4]; decide) (by rw [w_4]; decide) (by rw [w_4]; rfl) (by decide) ?_
    refine a_aload_n 89 dX2_takes_88 rfl rfl ?_
    refine a_iload_n 90 dX2_takes_89 rfl rfl ?_
    refine a_bipush (48) 92 dX2_takes_90 rfl (by decide) ?_
    refine a_isub 93 dX2_takes_92 rfl ?_
    refine a_put fd_X2_22 cl_X2 rfl 96 dX2_takes_93 rfl (by repeat (first | assumption | (refine rg_ne (by first | decide | omega) ?_) | apply rg_eq | refine rg_fr (by assumption) (by first | decide | (simp; omega)) ?_)) (Nat.le_of_ble_eq_true rfl) rfl rfl rfl ?_
    refine a_aload_n 97 dX2_takes_96 rfl rfl ?_
    refine a_iconst (3) 98 dX2_takes_97 rfl (by decide) ?_
    refine a_put fd_X2_15 cl_X2 rfl 101 dX2_takes_98 rfl (by repeat (first | assumption | (refine rg_ne (by first | decide | omega) ?_) | apply rg_eq | refine rg_fr (by assumption) (by first | decide | (simp; omega)) ?_)) (Nat.le_of_ble_eq_true rfl) rfl rfl rfl ?_
    refine a_iload_n 102 dX2_takes_101 rfl rfl ?_
    refine a_bipush (49) 104 dX2_takes_102 rfl (by decide) ?_
    refine a_icmp_lt 117 107 dX2_takes_104 rfl (by decide) (fun c_104 => ?_) (fun c_104 => ?_)
    · refine a_iconst (0) 118 dX2_takes_117 rfl (by decide) ?_
      exact a_ireturn dX2_takes_118 rfl rfl (Nat.le_of_ble_eq_true rfl) (Nat.le_of_ble_eq_true rfl) (by rw [ct_2 w_4, if_neg (fun q => Int32.not_le.mpr c_104 q.1)]; exact ⟨rfl, ⟨(by repeat (first | assumption | (refine rg_ne (by first | decide | omega) ?_) | apply rg_eq | refine rg_fr (by assumption) (by first | decide | (simp; omega)) ?_)), (by repeat (first | assumption | (refine rg_ne (by first | decide | omega) ?_) | apply rg_eq | refine rg_fr (by assumption) (by first | decide | (simp; omega)) ?_))⟩, (by repeat (first | exact fr_refl _ _ | assumption | refine fr_set ?_ (by decide) | refine fr_trans (by assumption) ?_ (by decide)))⟩)
    · refine a_iload_n 108 dX2_takes_107 rfl rfl ?_
      refine a_bipush (52) 110 dX2_takes_108 rfl (by decide) ?_
      refine a_icmp_gt 117 113 dX2_takes_110 rfl (by decide) (fun c_110 => ?_) (fun c_110 => ?_)
      · refine a_iconst (0) 118 dX2_takes_117 rfl (by decide) ?_
        exact a_ireturn dX2_takes_118 rfl rfl (Nat.le_of_ble_eq_true rfl) (Nat.le_of_ble_eq_true rfl) (by rw [ct_2 w_4, if_neg (fun q => Int32.not_le.mpr c_110 q.2)]; exact ⟨rfl, ⟨(by repeat (first | assumption | (refine rg_ne (by first | decide | omega) ?_) | apply rg_eq | refine rg_fr (by assumption) (by first | decide | (simp; omega)) ?_)), (by repeat (first | assumption | (refine rg_ne (by first | decide | omega) ?_) | apply rg_eq | refine rg_fr (by assumption) (by first | decide | (simp; omega)) ?_))⟩, (by repeat (first | exact fr_refl _ _ | assumption | refine fr_set ?_ (by decide) | refine fr_trans (by assumption) ?_ (by decide)))⟩)
      · refine a_iconst (1) 114 dX2_takes_113 rfl (by decide) ?_
        refine a_goto 118 dX2_takes_114 (by decide) ?_
        exact a_ireturn dX2_takes_118 rfl rfl (Nat.le_of_ble_eq_true rfl) (Nat.le_of_ble_eq_true rfl) (by rw [ct_2 w_4, if_pos ⟨Int32.not_lt.mp c_104, Int32.not_lt.mp c_110⟩]; exact ⟨rfl, ⟨(by repeat (first | assumption | (refine rg_ne (by first | decide | omega) ?_) | apply rg_eq | refine rg_fr (by assumption) (by first | decide | (simp; omega)) ?_)), (by repeat (first | assumption | (refine rg_ne (by first | decide | omega) ?_) | apply rg_eq | refine rg_fr (by assumption) (by first | decide | (simp; omega)) ?_))⟩, (by repeat (first | exact fr_refl _ _ | assumption | refine fr_set ?_ (by decide) | refine fr_trans (by assumption) ?_ (by decide)))⟩)
  · refine a_tableIn 119 dX2_takes_4 (by rw [w_4]; decide) (by rw [w_4]; decide) (by rw [w_4]; rfl) (by decide) ?_
    refine a_aload_n 120 dX2_takes_119 rfl rfl ?_
    refine a_iload_n 121 dX2_takes_120 rfl rfl ?_
    refine a_bipush (109) 123 dX2_takes_121 rfl (by decide) ?_
    refine a_icmp_ne 130 126 dX2_takes_123 rfl (by decide) (fun c_123 => ?_) (fun c_123 => ?_)
    · refine a_iconst (0) 131 dX2_takes_130 rfl (by decide) ?_
      refine a_put fd_X2_25 cl_X2 rfl 134 dX2_takes_131 rfl (by repeat (first | assumption | (refine rg_ne (by first | decide | omega) ?_) | apply rg_eq | refine rg_fr (by assumption) (by first | decide | (simp; omega)) ?_)) (Nat.le_of_ble_eq_true rfl) rfl rfl rfl ?_
      refine a_aload_n 135 dX2_takes_134 rfl rfl ?_
      refine a_aload_n 136 dX2_takes_135 rfl rfl ?_
      refine a_get fd_X2_25 rfl 139 dX2_takes_136 rfl (by repeat (first | assumption | (refine rg_ne (by first | decide | omega) ?_) | apply rg_eq | refine rg_fr (by assumption) (by first | decide | (simp; omega)) ?_)) rfl ?_
      refine a_if_eq 146 142 dX2_takes_139 rfl (by decide) (fun c_139 => ?_) (fun c_139 => absurd rfl c_139)
      refine a_iconst (5) 147 dX2_takes_146 rfl (by decide) ?_
      refine a_put fd_X2_15 cl_X2 rfl 150 dX2_takes_147 rfl (by repeat (first | assumption | (refine rg_ne (by first | decide | omega) ?_) | apply rg_eq | refine rg_fr (by assumption) (by first | decide | (simp; omega)) ?_)) (Nat.le_of_ble_eq_true rfl) rfl rfl rfl ?_
      refine a_aload_n 151 dX2_takes_150 rfl rfl ?_
      refine a_get fd_X2_25 rfl 154 dX2_takes_151 rfl (by repeat (first | assumption | (refine rg_ne (by first | decide | omega) ?_) | apply rg_eq | refine rg_fr (by assumption) (by first | decide | (simp; omega)) ?_)) rfl ?_
      refine a_if_ne 163 157 dX2_takes_154 rfl (by decide) (fun c_154 => absurd rfl c_154) (fun c_154 => ?_)
      refine a_iload_n 158 dX2_takes_157 rfl rfl ?_
      refine a_bipush (59) 160 dX2_takes_158 rfl (by decide) ?_
      refine a_icmp_ne 167 163 dX2_takes_160 rfl (by decide) (fun c_160 => ?_) (fun c_160 => ?_)
      · refine a_iconst (0) 168 dX2_takes_167 rfl (by decide) ?_
        exact a_ireturn dX2_takes_168 rfl rfl (Nat.le_of_ble_eq_true rfl) (Nat.le_of_ble_eq_true rfl) (by rw [ct_3 w_4, if_neg c_123, if_neg c_160]; exact ⟨rfl, ⟨(by repeat (first | assumption | (refine rg_ne (by first | decide | omega) ?_) | apply rg_eq | refine rg_fr (by assumption) (by first | decide | (simp; omega)) ?_)), (by repeat (first | assumption | (refine rg_ne (by first | decide | omega) ?_) | apply rg_eq | refine rg_fr (by assumption) (by first | decide | (simp; omega)) ?_))⟩, (by repeat (first | exact fr_refl _ _ | assumption | refine fr_set ?_ (by decide) | refine fr_trans (by assumption) ?_ (by decide)))⟩)
      · refine a_iconst (1) 164 dX2_takes_163 rfl (by decide) ?_
        refine a_goto 168 dX2_takes_164 (by decide) ?_
        exact a_ireturn dX2_takes_168 rfl rfl (Nat.le_of_ble_eq_true rfl) (Nat.le_of_ble_eq_true rfl) (by rw [ct_3 w_4, if_neg c_123, if_pos c_160]; exact ⟨rfl, ⟨(by repeat (first | assumption | (refine rg_ne (by first | decide | omega) ?_) | apply rg_eq | refine rg_fr (by assumption) (by first | decide | (simp; omega)) ?_)), (by repeat (first | assumption | (refine rg_ne (by first | decide | omega) ?_) | apply rg_eq | refine rg_fr (by assumption) (by first | decide | (simp; omega)) ?_))⟩, (by repeat (first | exact fr_refl _ _ | assumption | refine fr_set ?_ (by decide) | refine fr_trans (by assumption) ?_ (by decide)))⟩)
    · refine a_iconst (1) 127 dX2_takes_126 rfl (by decide) ?_
      refine a_goto 131 dX2_takes_127 (by decide) ?_
      refine a_put fd_X2_25 cl_X2 rfl 134 dX2_takes_131 rfl (by repeat (first | assumption | (refine rg_ne (by first | decide | omega) ?_) | apply rg_eq | refine rg_fr (by assumption) (by first | decide | (simp; omega)) ?_)) (Nat.le_of_ble_eq_true rfl) rfl rfl rfl ?_
      refine a_aload_n 135 dX2_takes_134 rfl rfl ?_
      refine a_aload_n 136 dX2_takes_135 rfl rfl ?_
      refine a_get fd_X2_25 rfl 139 dX2_takes_136 rfl (by repeat (first | assumption | (refine rg_ne (by first | decide | omega) ?_) | apply rg_eq | refine rg_fr (by assumption) (by first | decide | (simp; omega)) ?_)) rfl ?_
      refine a_if_eq 146 142 dX2_takes_139 rfl (by decide) (fun c_139 => absurd c_139 (by decide)) (fun c_139 => ?_)
      refine a_iconst (4) 143 dX2_takes_142 rfl (by decide) ?_
      refine a_goto 147 dX2_takes_143 (by decide) ?_
      refine a_put fd_X2_15 cl_X2 rfl 150 dX2_takes_147 rfl (by repeat (first | assumption | (refine rg_ne (by first | decide | omega) ?_) | apply rg_eq | refine rg_fr (by assumption) (by first | decide | (simp; omega)) ?_)) (Nat.le_of_ble_eq_true rfl) rfl rfl rfl ?_
      refine a_aload_n 151 dX2_takes_150 rfl rfl ?_
      refine a_get fd_X2_25 rfl 154 dX2_takes_151 rfl (by repeat (first | assumption | (refine rg_ne (by first | decide | omega) ?_) | apply rg_eq | refine rg_fr (by assumption) (by first | decide | (simp; omega)) ?_)) rfl ?_
      refine a_if_ne 163 157 dX2_takes_154 rfl (by decide) (fun c_154 => ?_) (fun c_154 => absurd (by decide) c_154)
      refine a_iconst (1) 164 dX2_takes_163 rfl (by decide) ?_
      refine a_goto 168 dX2_takes_164 (by decide) ?_
      exact a_ireturn dX2_takes_168 rfl rfl (Nat.le_of_ble_eq_true rfl) (Nat.le_of_ble_eq_true rfl) (by rw [ct_3 w_4, if_pos c_123]; exact ⟨rfl, ⟨(by repeat (first | assumption | (refine rg_ne (by first | decide | omega) ?_) | apply rg_eq | refine rg_fr (by assumption) (by first | decide | (simp; omega)) ?_)), (by repeat (first | assumption | (refine rg_ne (by first | decide | omega) ?_) | apply rg_eq | refine rg_fr (by assumption) (by first | decide | (simp; omega)) ?_))⟩, (by repeat (first | exact fr_refl _ _ | assumption | refine fr_set ?_ (by decide) | refine fr_trans (by assumption) ?_ (by decide)))⟩)
  · refine a_tableIn 169 dX2_takes_4 (by rw [w_4]; decide) (by rw [w_4]; decide) (by rw [w_4]; rfl) (by decide) ?_
    refine a_aload_n 170 dX2_takes_169 rfl rfl ?_
    refine a_iconst (5) 171 dX2_takes_170 rfl (by decide) ?_
    refine a_put fd_X2_15 cl_X2 rfl 174 dX2_takes_171 rfl (by repeat (first | assumption | (refine rg_ne (by first | decide | omega) ?_) | apply rg_eq | refine rg_fr (by assumption) (by first | decide | (simp; omega)) ?_)) (Nat.le_of_ble_eq_true rfl) rfl rfl rfl ?_
    refine a_iload_n 175 dX2_takes_174 rfl rfl ?_
    refine a_bipush (59) 177 dX2_takes_175 rfl (by decide) ?_
    refine a_icmp_ne 184 180 dX2_takes_177 rfl (by decide) (fun c_177 => ?_) (fun c_177 => ?_)
    · refine a_iconst (0) 185 dX2_takes_184 rfl (by decide) ?_
      exact a_ireturn dX2_takes_185 rfl rfl (Nat.le_of_ble_eq_true rfl) (Nat.le_of_ble_eq_true rfl) (by rw [ct_4 w_4, if_neg c_177]; exact ⟨rfl, ⟨(by repeat (first | assumption | (refine rg_ne (by first | decide | omega) ?_) | apply rg_eq | refine rg_fr (by assumption) (by first | decide | (simp; omega)) ?_)), (by repeat (first | assumption | (refine rg_ne (by first | decide | omega) ?_) | apply rg_eq | refine rg_fr (by assumption) (by first | decide | (simp; omega)) ?_))⟩, (by repeat (first | exact fr_refl _ _ | assumption | refine fr_set ?_ (by decide) | refine fr_trans (by assumption) ?_ (by decide)))⟩)
    · refine a_iconst (1) 181 dX2_takes_180 rfl (by decide) ?_
      refine a_goto 185 dX2_takes_181 (by decide) ?_
      exact a_ireturn dX2_takes_185 rfl rfl (Nat.le_of_ble_eq_true rfl) (Nat.le_of_ble_eq_true rfl) (by rw [ct_4 w_4, if_pos c_177]; exact ⟨rfl, ⟨(by repeat (first | assumption | (refine rg_ne (by first | decide | omega) ?_) | apply rg_eq | refine rg_fr (by assumption) (by first | decide | (simp; omega)) ?_)), (by repeat (first | assumption | (refine rg_ne (by first | decide | omega) ?_) | apply rg_eq | refine rg_fr (by assumption) (by first | decide | (simp; omega)) ?_))⟩, (by repeat (first | exact fr_refl _ _ | assumption | refine fr_set ?_ (by decide) | refine fr_trans (by assumption) ?_ (by decide)))⟩)
  · refine a_tableOut 186 dX2_takes_4 w_4 (by decide) ?_
    refine a_aload_n 187 dX2_takes_186 rfl rfl ?_
    refine a_iload_n 188 dX2_takes_187 rfl rfl ?_
    refine a_callS ok_X2_faceBy ln_X2_32 is_X2_faceBy rfl 191 dX2_takes_188 rfl (k_X2_faceBy c) rfl rfl ⟨(Nat.le_of_ble_eq_true rfl), (Nat.le_of_ble_eq_true rfl)⟩ (Nat.le_of_ble_eq_true rfl) ⟨(Nat.le_of_ble_eq_true rfl), (Nat.le_of_ble_eq_true rfl)⟩ ?_
    rintro _ _ ⟨rfl, rfl⟩
    refine a_callV ok_X2_takesSeat ln_X2_36 in_X2_takesSeat rfl 194 dX2_takes_191 rfl (k_X2_takesSeat hs0 _) (by repeat (first | assumption | (refine rg_ne (by first | decide | omega) ?_) | apply rg_eq | refine rg_fr (by assumption) (by first | decide | (simp; omega)) ?_)) rfl rfl rfl ⟨(Nat.le_of_ble_eq_true rfl), (Nat.le_of_ble_eq_true rfl)⟩ (Nat.le_of_ble_eq_true rfl) ⟨(Nat.le_of_ble_eq_true rfl), (Nat.le_of_ble_eq_true rfl)⟩ ?_
    rintro h1 v ⟨rfl, hs1, hfr⟩
    exact a_ireturn dX2_takes_194 rfl rfl (Nat.le_of_ble_eq_true rfl) (Nat.le_of_ble_eq_true rfl) (by rw [ct_d w_4]; exact ⟨rfl, hs1, hfr⟩)
set_option maxRecDepth 100000 in
set_option maxHeartbeats 4000000 in
theorem k_X6_begin {s : ltS} (hs : ltAt G h s) : rM l G 0 mX6_begin 0 0 [.ref (gN G + 4)] h (fun h' v => v = none ∧ (∃ nu to, ltAt G h' (0, 0, 0, nu, to) ∧ ∀ j, j < 7 → nu j = rUntold j ∧ to j = 0) ∧ fr h h' [4, 5, 6]) := by
  obtain ⟨hc, hf, hg⟩ := hs
  refine rM_start (by decide) (Nat.le_of_ble_eq_true rfl) ?_
  have L : ∀ (r j : Nat) (z : Int32) (nu to : Nat → Int32) (h1 : rH), j + r = 7 → z = nI j → ltAt G h1 (0, 0, 0, nu, to) → (∀ i, i < j → nu i = rUntold i ∧ to i = 0) → fr h h1 [4, 5, 6] → rW l G (rRm 0 0 0) mX6_begin (rZ G (fun h' v => v = none ∧ (∃ nu to, ltAt G h' (0, 0, 0, nu, to) ∧ ∀ j, j < 7 → nu j = rUntold j ∧ to j = 0) ∧ fr h h' [4, 5, 6]) 0 0) 0 0 17 [some (.ref (gN G + 4)), some (.int z)] [] h1 := by
    intro r
    induction r with
    | zero =>
      intro j z nu to h1 hj hz hat hall hfr
      subst hz
      have hj7 : j = 7 := by omega
      subst hj7
      refine a_iload_n 18 dX6_begin_17 rfl rfl ?_
      refine a_bipush (7) 20 dX6_begin_18 rfl (by decide) ?_
      refine a_icmp_ge 73 23 dX6_begin_20 rfl (by decide) (fun c_20 => ?_) (fun c_20 => absurd (by decide) c_20)
      exact a_return dX6_begin_73 rfl (Nat.le_of_ble_eq_true rfl) (Nat.le_of_ble_eq_true rfl) ⟨rfl, ⟨nu, to, hat, hall⟩, hfr⟩
    | succ r ih =>
      intro j z nu to h1 hj hz hat hall hfr
      subst hz
      have hin : vp_in (nI j) 7 := vp_in_nI (by omega) (by decide)
      have hcl : (nI j).toNatClampNeg = j := nI_clamp (by omega)
      obtain ⟨hc1, hf1, hg1⟩ := hat
      dsimp only at hc1 hf1 hg1
      refine a_iload_n 18 dX6_begin_17 rfl rfl ?_
      refine a_bipush (7) 20 dX6_begin_18 rfl (by decide) ?_
      refine a_icmp_ge 73 23 dX6_begin_20 rfl (by decide) (fun c_20 => absurd c_20 (nI_ge (a := j) (b := 7) (by omega) (by omega))) (fun c_20 => ?_)
      refine a_iload_n 24 dX6_begin_23 rfl rfl ?_
      refine a_aload_n 25 dX6_begin_24 rfl rfl ?_
      refine a_get fd_X6_9 rfl 28 dX6_begin_25 rfl (by repeat (first | assumption | (refine rg_ne (by first | decide | omega) ?_) | apply rg_eq | refine rg_fr (by assumption) (by first | decide | (simp; omega)) ?_)) rfl ?_
      refine a_alen_0 29 dX6_begin_28 rfl (by repeat (first | assumption | (refine rg_ne (by first | decide | omega) ?_) | apply rg_eq | refine rg_fr (by assumption) (by first | decide | (simp; omega)) ?_)) ?_
      refine a_icmp_ge 73 32 dX6_begin_29 rfl (by decide) (fun c_29 => absurd c_29 (vin_lt hin (by decide))) (fun c_29 => ?_)
      refine a_iload_n 33 dX6_begin_32 rfl rfl ?_
      refine a_aload_n 34 dX6_begin_33 rfl rfl ?_
      refine a_get fd_X6_15 rfl 37 dX6_begin_34 rfl (by repeat (first | assumption | (refine rg_ne (by first | decide | omega) ?_) | apply rg_eq | refine rg_fr (by assumption) (by first | decide | (simp; omega)) ?_)) rfl ?_
      refine a_alen_1 38 dX6_begin_37 rfl (by repeat (first | assumption | (refine rg_ne (by first | decide | omega) ?_) | apply rg_eq | refine rg_fr (by assumption) (by first | decide | (simp; omega)) ?_)) ?_
      refine a_icmp_ge 73 41 dX6_begin_38 rfl (by decide) (fun c_38 => absurd c_38 (vin_lt hin (by decide))) (fun c_38 => ?_)
      refine a_iload_n 42 dX6_begin_41 rfl rfl ?_
      refine a_gets_UNTOLD (idx := 29) lu_29 rfl 45 dX6_begin_42 rfl ?_
      refine a_alen_UNTOLD 46 dX6_begin_45 rfl ?_
      refine a_icmp_ge 73 49 dX6_begin_46 rfl (by decide) (fun c_46 => absurd c_46 (nI_ge (a := j) (b := 7) (by omega) (by omega))) (fun c_46 => ?_)
      refine a_aload_n 50 dX6_begin_49 rfl rfl ?_
      refine a_get fd_X6_9 rfl 53 dX6_begin_50 rfl (by repeat (first | assumption | (refine rg_ne (by first | decide | omega) ?_) | apply rg_eq | refine rg_fr (by assumption) (by first | decide | (simp; omega)) ?_)) rfl ?_
      refine a_iload_n 54 dX6_begin_53 rfl rfl ?_
      refine a_gets_UNTOLD (idx := 29) lu_29 rfl 57 dX6_begin_54 rfl ?_
      refine a_iload_n 58 dX6_begin_57 rfl rfl ?_
      refine a_iaload_UNTOLD  59 dX6_begin_58 rfl hin ?_
      refine a_iastore 60 dX6_begin_59 rfl (by repeat (first | assumption | (refine rg_ne (by first | decide | omega) ?_) | apply rg_eq | refine rg_fr (by assumption) (by first | decide | (simp; omega)) ?_)) hin ?_
      refine a_aload_n 61 dX6_begin_60 rfl rfl ?_
      refine a_get fd_X6_15 rfl 64 dX6_begin_61 rfl (by repeat (first | assumption | (refine rg_ne (by first | decide | omega) ?_) | apply rg_eq | refine rg_fr (by assumption) (by first | decide | (simp; omega)) ?_)) rfl ?_
      refine a_iload_n 65 dX6_begin_64 rfl rfl ?_
      refine a_iconst (0) 66 dX6_begin_65 rfl (by decide) ?_
      refine a_bastore 67 dX6_begin_66 rfl (by repeat (first | assumption | (refine rg_ne (by first | decide | omega) ?_) | apply rg_eq | refine rg_fr (by assumption) (by first | decide | (simp; omega)) ?_)) hin ?_
      refine a_iinc _ 70 dX6_begin_67 rfl rfl (by decide) rfl ?_
      refine a_goto 17 dX6_begin_70 (by decide) ?_
      exact ih (j + 1) _ _ _ _ (by omega) (nI_1 j) ⟨(by repeat (first | assumption | (refine rg_ne (by first | decide | omega) ?_) | apply rg_eq | refine rg_fr (by assumption) (by first | decide | (simp; omega)) ?_)), (by repeat (first | assumption | (refine rg_ne (by first | decide | omega) ?_) | apply rg_eq | refine rg_fr (by assumption) (by first | decide | (simp; omega)) ?_)), (by repeat (first | assumption | (refine rg_ne (by first | decide | omega) ?_) | apply rg_eq | refine rg_fr (by assumption) (by first | decide | (simp; omega)) ?_))⟩ (fun i hi => by rw [hcl]; by_cases e : i = j; · subst e; simp [upd, vp_nar, narrow]; · simp only [upd, if_neg e]; exact hall i (by omega)) (by repeat (first | exact fr_refl _ _ | assumption | refine fr_set ?_ (by decide) | refine fr_trans (by assumption) ?_ (by decide)))
  refine a_aload_n 1 dX6_begin_0 rfl rfl ?_
  refine a_iconst (0) 2 dX6_begin_1 rfl (by decide) ?_
  refine a_put fd_X6_19 cl_X6 rfl 5 dX6_begin_2 rfl (by repeat (first | assumption | (refine rg_ne (by first | decide | omega) ?_) | apply rg_eq | refine rg_fr (by assumption) (by first | decide | (simp; omega)) ?_)) (Nat.le_of_ble_eq_true rfl) rfl rfl rfl ?_
  refine a_aload_n 6 dX6_begin_5 rfl rfl ?_
  refine a_iconst (0) 7 dX6_begin_6 rfl (by decide) ?_
  refine a_put fd_X6_23 cl_X6 rfl 10 dX6_begin_7 rfl (by repeat (first | assumption | (refine rg_ne (by first | decide | omega) ?_) | apply rg_eq | refine rg_fr (by assumption) (by first | decide | (simp; omega)) ?_)) (Nat.le_of_ble_eq_true rfl) rfl rfl rfl ?_
  refine a_aload_n 11 dX6_begin_10 rfl rfl ?_
  refine a_iconst (0) 12 dX6_begin_11 rfl (by decide) ?_
  refine a_put fd_X6_26 cl_X6 rfl 15 dX6_begin_12 rfl (by repeat (first | assumption | (refine rg_ne (by first | decide | omega) ?_) | apply rg_eq | refine rg_fr (by assumption) (by first | decide | (simp; omega)) ?_)) (Nat.le_of_ble_eq_true rfl) rfl rfl rfl ?_
  refine a_iconst (0) 16 dX6_begin_15 rfl (by decide) ?_
  refine a_istore_n 17 dX6_begin_16 rfl (by decide) ?_
  exact L 7 0 _ _ _ _ (by omega) rfl ⟨(by repeat (first | assumption | (refine rg_ne (by first | decide | omega) ?_) | apply rg_eq | refine rg_fr (by assumption) (by first | decide | (simp; omega)) ?_)), (by repeat (first | assumption | (refine rg_ne (by first | decide | omega) ?_) | apply rg_eq | refine rg_fr (by assumption) (by first | decide | (simp; omega)) ?_)), (by repeat (first | assumption | (refine rg_ne (by first | decide | omega) ?_) | apply rg_eq | refine rg_fr (by assumption) (by first | decide | (simp; omega)) ?_))⟩ (fun i hi => absurd hi (Nat.not_lt_zero i)) (by repeat (first | exact fr_refl _ _ | assumption | refine fr_set ?_ (by decide) | refine fr_trans (by assumption) ?_ (by decide)))
set_option maxRecDepth 100000 in
set_option maxHeartbeats 4000000 in
theorem k_X6_numberBy (c : Int32) : rM l G 0 mX6_numberBy 0 0 [.int c] h (rV h (some (.int (numBI c)))) := by
  refine rM_start (by decide) (Nat.le_of_ble_eq_true rfl) ?_
  refine a_iload_n 1 dX6_numberBy_0 rfl rfl ?_
  rcases (show (c).toInt = 101 ∨ (c).toInt = 102 ∨ (c).toInt = 103 ∨ (c).toInt = 104 ∨ (c).toInt = 105 ∨ (c).toInt = 106 ∨ (c).toInt = 107 ∨ (c).toInt = 108 ∨ (c).toInt = 109 ∨ (c).toInt = 110 ∨ (c).toInt = 111 ∨ (c).toInt = 112 ∨ (c).toInt = 113 ∨ (c).toInt = 114 ∨ (c).toInt = 115 ∨ (c).toInt = 116 ∨ (c).toInt = 117 ∨ (c).toInt = 118 ∨ (c).toInt = 119 ∨ (c).toInt = 120 ∨ (c).toInt = 121 ∨ ((c).toInt < 101 ∨ 121 < (c).toInt) by omega) with w_1 | w_1 | w_1 | w_1 | w_1 | w_1 | w_1 | w_1 | w_1 | w_1 | w_1 | w_1 | w_1 | w_1 | w_1 | w_1 | w_1 | w_1 | w_1 | w_1 | w_1 | w_1
  · refine a_tableIn 104 dX6_numberBy_1 (by rw [w_1]; decide) (by rw [w_1]; decide) (by rw [w_1]; rfl) (by decide) ?_
    refine a_iconst (2) 105 dX6_numberBy_104 rfl (by decide) ?_
    exact a_ireturn dX6_numberBy_105 rfl rfl (Nat.le_of_ble_eq_true rfl) (Nat.le_of_ble_eq_true rfl) ⟨rfl, by simp [numBI, i_eq, w_1]⟩
  · refine a_tableIn 110 dX6_numberBy_1 (by rw [w_1]; decide) (by rw [w_1]; decide) (by rw [w_1]; rfl) (by decide) ?_
    refine a_iconst (5) 111 dX6_numberBy_110 rfl (by decide) ?_
    exact a_ireturn dX6_numberBy_111 rfl rfl (Nat.le_of_ble_eq_true rfl) (Nat.le_of_ble_eq_true rfl) ⟨rfl, by simp [numBI, i_eq, w_1]⟩
  · refine a_tableIn 115 dX6_numberBy_1 (by rw [w_1]; decide) (by rw [w_1]; decide) (by rw [w_1]; rfl) (by decide) ?_
    refine a_bipush (-9) 117 dX6_numberBy_115 rfl (by decide) ?_
    exact a_ireturn dX6_numberBy_117 rfl rfl (Nat.le_of_ble_eq_true rfl) (Nat.le_of_ble_eq_true rfl) ⟨rfl, by simp [numBI, i_eq, w_1]⟩
  · refine a_tableIn 115 dX6_numberBy_1 (by rw [w_1]; decide) (by rw [w_1]; decide) (by rw [w_1]; rfl) (by decide) ?_
    refine a_bipush (-9) 117 dX6_numberBy_115 rfl (by decide) ?_
    exact a_ireturn dX6_numberBy_117 rfl rfl (Nat.le_of_ble_eq_true rfl) (Nat.le_of_ble_eq_true rfl) ⟨rfl, by simp [numBI, i_eq, w_1]⟩
  · refine a_tableIn 115 dX6_numberBy_1 (by rw [w_1]; decide) (by rw [w_1]; decide) (by rw [w_1]; rfl) (by decide) ?_
    refine a_bipush (-9) 117 dX6_numberBy_115 rfl (by decide) ?_
    exact a_ireturn dX6_numberBy_117 rfl rfl (Nat.le_of_ble_eq_true rfl) (Nat.le_of_ble_eq_true rfl) ⟨rfl, by simp [numBI, i_eq, w_1]⟩
  · refine a_tableIn 115 dX6_numberBy_1 (by rw [w_1]; decide) (by rw [w_1]; decide) (by rw [w_1]; rfl) (by decide) ?_
    refine a_bipush (-9) 117 dX6_numberBy_115 rfl (by decide) ?_
    exact a_ireturn dX6_numberBy_117 rfl rfl (Nat.le_of_ble_eq_true rfl) (Nat.le_of_ble_eq_true rfl) ⟨rfl, by simp [numBI, i_eq, w_1]⟩
  · refine a_tableIn 106 dX6_numberBy_1 (by rw [w_1]; decide) (by rw [w_1]; decide) (by rw [w_1]; rfl) (by decide) ?_
    refine a_iconst (3) 107 dX6_numberBy_106 rfl (by decide) ?_
    exact a_ireturn dX6_numberBy_107 rfl rfl (Nat.le_of_ble_eq_true rfl) (Nat.le_of_ble_eq_true rfl) ⟨rfl, by simp [numBI, i_eq, w_1]⟩
  · refine a_tableIn 115 dX6_numberBy_1 (by rw [w_1]; decide) (by rw [w_1]; decide) (by rw [w_1]; rfl) (by decide) ?_
    refine a_bipush (-9) 117 dX6_numberBy_115 rfl (by decide) ?_
    exact a_ireturn dX6_numberBy_117 rfl rfl (Nat.le_of_ble_eq_true rfl) (Nat.le_of_ble_eq_true rfl) ⟨rfl, by simp [numBI, i_eq, w_1]⟩
  · refine a_tableIn 115 dX6_numberBy_1 (by rw [w_1]; decide) (by rw [w_1]; decide) (by rw [w_1]; rfl) (by decide) ?_
    refine a_bipush (-9) 117 dX6_numberBy_115 rfl (by decide) ?_
    exact a_ireturn dX6_numberBy_117 rfl rfl (Nat.le_of_ble_eq_true rfl) (Nat.le_of_ble_eq_true rfl) ⟨rfl, by simp [numBI, i_eq, w_1]⟩
  · refine a_tableIn 115 dX6_numberBy_1 (by rw [w_1]; decide) (by rw [w_1]; decide) (by rw [w_1]; rfl) (by decide) ?_
    refine a_bipush (-9) 117 dX6_numberBy_115 rfl (by decide) ?_
    exact a_ireturn dX6_numberBy_117 rfl rfl (Nat.le_of_ble_eq_true rfl) (Nat.le_of_ble_eq_true rfl) ⟨rfl, by simp [numBI, i_eq, w_1]⟩
  · refine a_tableIn 100 dX6_numberBy_1 (by rw [w_1]; decide) (by rw [w_1]; decide) (by rw [w_1]; rfl) (by decide) ?_
    refine a_iconst (0) 101 dX6_numberBy_100 rfl (by decide) ?_
    exact a_ireturn dX6_numberBy_101 rfl rfl (Nat.le_of_ble_eq_true rfl) (Nat.le_of_ble_eq_true rfl) ⟨rfl, by simp [numBI, i_eq, w_1]⟩
  · refine a_tableIn 115 dX6_numberBy_1 (by rw [w_1]; decide) (by rw [w_1]; decide) (by rw [w_1]; rfl) (by decide) ?_
    refine a_bipush (-9) 117 dX6_numberBy_115 rfl (by decide) ?_
    exact a_ireturn dX6_numberBy_117 rfl rfl (Nat.le_of_ble_eq_true rfl) (Nat.le_of_ble_eq_true rfl) ⟨rfl, by simp [numBI, i_eq, w_1]⟩
  · refine a_tableIn 115 dX6_numberBy_1 (by rw [w_1]; decide) (by rw [w_1]; decide) (by rw [w_1]; rfl) (by decide) ?_
    refine a_bipush (-9) 117 dX6_numberBy_115 rfl (by decide) ?_
    exact a_ireturn dX6_numberBy_117 rfl rfl (Nat.le_of_ble_eq_true rfl) (Nat.le_of_ble_eq_true rfl) ⟨rfl, by simp [numBI, i_eq, w_1]⟩
  · refine a_tableIn 115 dX6_numberBy_1 (by rw [w_1]; decide) (by rw [w_1]; decide) (by rw [w_1]; rfl) (by decide) ?_
    refine a_bipush (-9) 117 dX6_numberBy_115 rfl (by decide) ?_
    exact a_ireturn dX6_numberBy_117 rfl rfl (Nat.le_of_ble_eq_true rfl) (Nat.le_of_ble_eq_true rfl) ⟨rfl, by simp [numBI, i_eq, w_1]⟩
  · refine a_tableIn 102 dX6_numberBy_1 (by rw [w_1]; decide) (by rw [w_1]; decide) (by rw [w_1]; rfl) (by decide) ?_
    refine a_iconst (1) 103 dX6_numberBy_102 rfl (by decide) ?_
    exact a_ireturn dX6_numberBy_103 rfl rfl (Nat.le_of_ble_eq_true rfl) (Nat.le_of_ble_eq_true rfl) ⟨rfl, by simp [numBI, i_eq, w_1]⟩
  · refine a_tableIn 112 dX6_numberBy_1 (by rw [w_1]; decide) (by rw [w_1]; decide) (by rw [w_1]; rfl) (by decide) ?_
    refine a_bipush (6) 114 dX6_numberBy_112 rfl (by decide) ?_
    exact a_ireturn dX6_numberBy_114 rfl rfl (Nat.le_of_ble_eq_true rfl) (Nat.le_of_ble_eq_true rfl) ⟨rfl, by simp [numBI, i_eq, w_1]⟩
  · refine a_tableIn 115 dX6_numberBy_1 (by rw [w_1]; decide) (by rw [w_1]; decide) (by rw [w_1]; rfl) (by decide) ?_
    refine a_bipush (-9) 117 dX6_numberBy_115 rfl (by decide) ?_
    exact a_ireturn dX6_numberBy_117 rfl rfl (Nat.le_of_ble_eq_true rfl) (Nat.le_of_ble_eq_true rfl) ⟨rfl, by simp [numBI, i_eq, w_1]⟩
  · refine a_tableIn 115 dX6_numberBy_1 (by rw [w_1]; decide) (by rw [w_1]; decide) (by rw [w_1]; rfl) (by decide) ?_
    refine a_bipush (-9) 117 dX6_numberBy_115 rfl (by decide) ?_
    exact a_ireturn dX6_numberBy_117 rfl rfl (Nat.le_of_ble_eq_true rfl) (Nat.le_of_ble_eq_true rfl) ⟨rfl, by simp [numBI, i_eq, w_1]⟩
  · refine a_tableIn 115 dX6_numberBy_1 (by rw [w_1]; decide) (by rw [w_1]; decide) (by rw [w_1]; rfl) (by decide) ?_
    refine a_bipush (-9) 117 dX6_numberBy_115 rfl (by decide) ?_
    exact a_ireturn dX6_numberBy_117 rfl rfl (Nat.le_of_ble_eq_true rfl) (Nat.le_of_ble_eq_true rfl) ⟨rfl, by simp [numBI, i_eq, w_1]⟩
  · refine a_tableIn 115 dX6_numberBy_1 (by rw [w_1]; decide) (by rw [w_1]; decide) (by rw [w_1]; rfl) (by decide) ?_
    refine a_bipush (-9) 117 dX6_numberBy_115 rfl (by decide) ?_
    exact a_ireturn dX6_numberBy_117 rfl rfl (Nat.le_of_ble_eq_true rfl) (Nat.le_of_ble_eq_true rfl) ⟨rfl, by simp [numBI, i_eq, w_1]⟩
  · refine a_tableIn 108 dX6_numberBy_1 (by rw [w_1]; decide) (by rw [w_1]; decide) (by rw [w_1]; rfl) (by decide) ?_
    refine a_iconst (4) 109 dX6_numberBy_108 rfl (by decide) ?_
    exact a_ireturn dX6_numberBy_109 rfl rfl (Nat.le_of_ble_eq_true rfl) (Nat.le_of_ble_eq_true rfl) ⟨rfl, by simp [numBI, i_eq, w_1]⟩
  · refine a_tableOut 115 dX6_numberBy_1 w_1 (by decide) ?_
    refine a_bipush (-9) 117 dX6_numberBy_115 rfl (by decide) ?_
    exact a_ireturn dX6_numberBy_117 rfl rfl (Nat.le_of_ble_eq_true rfl) (Nat.le_of_ble_eq_true rfl) ⟨rfl, by simp [numBI, i_eq, show ¬ c.toInt = 111 by omega, show ¬ c.toInt = 115 by omega, show ¬ c.toInt = 101 by omega, show ¬ c.toInt = 107 by omega, show ¬ c.toInt = 121 by omega, show ¬ c.toInt = 102 by omega, show ¬ c.toInt = 116 by omega]⟩
set_option maxRecDepth 100000 in
set_option maxHeartbeats 4000000 in
theorem k_X6_isWhole {s : ltS} (hs : ltAt G h s) : rM l G 0 mX6_isWhole 0 0 [.ref (gN G + 4)] h (rV h (some (.int (if s.1 = 2 then 1 else 0)))) := by
  obtain ⟨hc, hf, hg⟩ := hs
  refine rM_start (by decide) (Nat.le_of_ble_eq_true rfl) ?_
  refine a_aload_n 1 dX6_isWhole_0 rfl rfl ?_
  refine a_get fd_X6_19 rfl 4 dX6_isWhole_1 rfl (by repeat (first | assumption | (refine rg_ne (by first | decide | omega) ?_) | apply rg_eq | refine rg_fr (by assumption) (by first | decide | (simp; omega)) ?_)) rfl ?_
  refine a_iconst (2) 5 dX6_isWhole_4 rfl (by decide) ?_
  refine a_icmp_ne 12 8 dX6_isWhole_5 rfl (by decide) (fun c_5 => ?_) (fun c_5 => ?_)
  · refine a_iconst (0) 13 dX6_isWhole_12 rfl (by decide) ?_
    exact a_ireturn dX6_isWhole_13 rfl rfl (Nat.le_of_ble_eq_true rfl) (Nat.le_of_ble_eq_true rfl) ⟨rfl, by simp_all⟩
  · refine a_iconst (1) 9 dX6_isWhole_8 rfl (by decide) ?_
    refine a_goto 13 dX6_isWhole_9 (by decide) ?_
    exact a_ireturn dX6_isWhole_13 rfl rfl (Nat.le_of_ble_eq_true rfl) (Nat.le_of_ble_eq_true rfl) ⟨rfl, by simp_all⟩
set_option maxRecDepth 100000 in
set_option maxHeartbeats 4000000 in
theorem k_X6_readNumber {s : ltS} (hs : ltAt G h s) (c : Int32) : rM l G 0 mX6_readNumber 0 0 [.ref (gN G + 4), .int c] h (rV h (some (.int (if 0 ≤ c ∧ c < 7 then s.2.2.2.1 c.toNatClampNeg else 0)))) := by
  obtain ⟨hc, hf, hg⟩ := hs
  refine rM_start (by decide) (Nat.le_of_ble_eq_true rfl) ?_
  refine a_iload_n 1 dX6_readNumber_0 rfl rfl ?_
  refine a_if_lt 22 4 dX6_readNumber_1 rfl (by decide) (fun c_1 => ?_) (fun c_1 => ?_)
  · refine a_iconst (0) 23 dX6_readNumber_22 rfl (by decide) ?_
    exact a_ireturn dX6_readNumber_23 rfl rfl (Nat.le_of_ble_eq_true rfl) (Nat.le_of_ble_eq_true rfl) ⟨rfl, by simp only [i_lt, i_le, Int32.reduceToInt, Int32.reduceOfNat] at *; first | rw [if_pos (by omega)] | rw [if_neg (by omega)]⟩
  · refine a_iload_n 5 dX6_readNumber_4 rfl rfl ?_
    refine a_aload_n 6 dX6_readNumber_5 rfl rfl ?_
    refine a_get fd_X6_9 rfl 9 dX6_readNumber_6 rfl (by repeat (first | assumption | (refine rg_ne (by first | decide | omega) ?_) | apply rg_eq | refine rg_fr (by assumption) (by first | decide | (simp; omega)) ?_)) rfl ?_
    refine a_alen_0 10 dX6_readNumber_9 rfl (by repeat (first | assumption | (refine rg_ne (by first | decide | omega) ?_) | apply rg_eq | refine rg_fr (by assumption) (by first | decide | (simp; omega)) ?_)) ?_
    refine a_icmp_ge 22 13 dX6_readNumber_10 rfl (by decide) (fun c_10 => ?_) (fun c_10 => ?_)
    · refine a_iconst (0) 23 dX6_readNumber_22 rfl (by decide) ?_
      exact a_ireturn dX6_readNumber_23 rfl rfl (Nat.le_of_ble_eq_true rfl) (Nat.le_of_ble_eq_true rfl) ⟨rfl, by simp only [i_lt, i_le, Int32.reduceToInt, Int32.reduceOfNat] at *; first | rw [if_pos (by omega)] | rw [if_neg (by omega)]⟩
    · refine a_aload_n 14 dX6_readNumber_13 rfl rfl ?_
      refine a_get fd_X6_9 rfl 17 dX6_readNumber_14 rfl (by repeat (first | assumption | (refine rg_ne (by first | decide | omega) ?_) | apply rg_eq | refine rg_fr (by assumption) (by first | decide | (simp; omega)) ?_)) rfl ?_
      refine a_iload_n 18 dX6_readNumber_17 rfl rfl ?_
      refine a_iaload 19 dX6_readNumber_18 rfl (by repeat (first | assumption | (refine rg_ne (by first | decide | omega) ?_) | apply rg_eq | refine rg_fr (by assumption) (by first | decide | (simp; omega)) ?_)) (vin_ge c_1 c_10 (by decide)) ?_
      refine a_goto 23 dX6_readNumber_19 (by decide) ?_
      exact a_ireturn dX6_readNumber_23 rfl rfl (Nat.le_of_ble_eq_true rfl) (Nat.le_of_ble_eq_true rfl) ⟨rfl, by simp only [i_lt, i_le, Int32.reduceToInt, Int32.reduceOfNat] at *; first | rw [if_pos (by omega)] | rw [if_neg (by omega)]⟩
set_option maxRecDepth 100000 in
set_option maxHeartbeats 4000000 in
theorem k_X6_lawNumber {s : ltS} (hs : ltAt G h s) (c : Int32) : rM l G 1 mX6_lawNumber 0 0 [.ref (gN G + 4), .int c] h (rV h (some (.int (if c = 6 then (if s.2.2.2.1 6 < s.2.2.2.1 5 then s.2.2.2.1 5 else s.2.2.2.1 6) else if 0 ≤ c ∧ c < 7 then s.2.2.2.1 c.toNatClampNeg else 0)))) := by
  have hs0 := hs
  obtain ⟨hc, hf, hg⟩ := hs
  refine rM_start (by decide) (Nat.le_of_ble_eq_true rfl) ?_
  refine a_iload_n 1 dX6_lawNumber_0 rfl rfl ?_
  refine a_bipush (6) 3 dX6_lawNumber_1 rfl (by decide) ?_
  refine a_icmp_ne 23 6 dX6_lawNumber_3 rfl (by decide) (fun c_3 => ?_) (fun c_3 => ?_)
  · refine a_aload_n 24 dX6_lawNumber_23 rfl rfl ?_
    refine a_iload_n 25 dX6_lawNumber_24 rfl rfl ?_
    refine a_callV ok_X6_readNumber ln_X6_46 in_X6_readNumber rfl 28 dX6_lawNumber_25 rfl (k_X6_readNumber hs0 c) (by repeat (first | assumption | (refine rg_ne (by first | decide | omega) ?_) | apply rg_eq | refine rg_fr (by assumption) (by first | decide | (simp; omega)) ?_)) rfl rfl rfl ⟨(Nat.le_of_ble_eq_true rfl), (Nat.le_of_ble_eq_true rfl)⟩ (Nat.le_of_ble_eq_true rfl) ⟨(Nat.le_of_ble_eq_true rfl), (Nat.le_of_ble_eq_true rfl)⟩ ?_
    rintro _ _ ⟨rfl, rfl⟩
    exact a_ireturn dX6_lawNumber_28 rfl rfl (Nat.le_of_ble_eq_true rfl) (Nat.le_of_ble_eq_true rfl) ⟨rfl, by rw [if_neg c_3]⟩
  · refine a_aload_n 7 dX6_lawNumber_6 rfl rfl ?_
    refine a_bipush (6) 9 dX6_lawNumber_7 rfl (by decide) ?_
    refine a_callV ok_X6_readNumber ln_X6_46 in_X6_readNumber rfl 12 dX6_lawNumber_9 rfl (k_X6_readNumber hs0 6) (by repeat (first | assumption | (refine rg_ne (by first | decide | omega) ?_) | apply rg_eq | refine rg_fr (by assumption) (by first | decide | (simp; omega)) ?_)) rfl rfl rfl ⟨(Nat.le_of_ble_eq_true rfl), (Nat.le_of_ble_eq_true rfl)⟩ (Nat.le_of_ble_eq_true rfl) ⟨(Nat.le_of_ble_eq_true rfl), (Nat.le_of_ble_eq_true rfl)⟩ ?_
    rintro _ _ ⟨rfl, rfl⟩
    refine a_aload_n 13 dX6_lawNumber_12 rfl rfl ?_
    refine a_iconst (5) 14 dX6_lawNumber_13 rfl (by decide) ?_
    refine a_callV ok_X6_readNumber ln_X6_46 in_X6_readNumber rfl 17 dX6_lawNumber_14 rfl (k_X6_readNumber hs0 5) (by repeat (first | assumption | (refine rg_ne (by first | decide | omega) ?_) | apply rg_eq | refine rg_fr (by assumption) (by first | decide | (simp; omega)) ?_)) rfl rfl rfl ⟨(Nat.le_of_ble_eq_true rfl), (Nat.le_of_ble_eq_true rfl)⟩ (Nat.le_of_ble_eq_true rfl) ⟨(Nat.le_of_ble_eq_true rfl), (Nat.le_of_ble_eq_true rfl)⟩ ?_
    rintro _ _ ⟨rfl, rfl⟩
    refine a_mmax lm_X6_49 rfl 20 dX6_lawNumber_17 rfl (Nat.le_of_ble_eq_true rfl) (Nat.le_of_ble_eq_true rfl) ⟨(Nat.le_of_ble_eq_true rfl), (Nat.le_of_ble_eq_true rfl)⟩ ?_
    refine a_goto 28 dX6_lawNumber_20 (by decide) ?_
    exact a_ireturn dX6_lawNumber_28 rfl rfl (Nat.le_of_ble_eq_true rfl) (Nat.le_of_ble_eq_true rfl) ⟨rfl, by rw [if_pos c_3]; rfl⟩
set_option maxRecDepth 100000 in
set_option maxHeartbeats 4000000 in
theorem k_X6_takesLetter {s : ltS} (hs : ltAt G h s) (c : Int32) : rM l G 0 mX6_takesLetter 0 0 [.ref (gN G + 4), .int c] h (fun h' v => v = some (.int (ltLetter s c).2) ∧ ltAt G h' (ltLetter s c).1 ∧ fr h h' [4, 5, 6]) := by
  obtain ⟨st, wh, it, nu, to⟩ := s
  have hs0 := hs
  obtain ⟨hc, hf, hg⟩ := hs
  dsimp only at hc hf hg
  refine rM_start (by decide) (Nat.le_of_ble_eq_true rfl) ?_
  refine a_iload_n 1 dX6_takesLetter_0 rfl rfl ?_
  refine a_if_lt 22 4 dX6_takesLetter_1 rfl (by decide) (fun c_1 => ?_) (fun c_1 => ?_)
  · refine a_iconst (0) 23 dX6_takesLetter_22 rfl (by decide) ?_
    exact a_ireturn dX6_takesLetter_23 rfl rfl (Nat.le_of_ble_eq_true rfl) (Nat.le_of_ble_eq_true rfl) (by rw [show ltLetter (st, wh, it, nu, to) c = ((st, wh, it, nu, to), 0) from if_neg (fun q => Int32.not_lt.mpr q.1 c_1)]; exact ⟨rfl, hs0, fr_refl _ _⟩)
  · refine a_iload_n 5 dX6_takesLetter_4 rfl rfl ?_
    refine a_aload_n 6 dX6_takesLetter_5 rfl rfl ?_
    refine a_get fd_X6_15 rfl 9 dX6_takesLetter_6 rfl (by repeat (first | assumption | (refine rg_ne (by first | decide | omega) ?_) | apply rg_eq | refine rg_fr (by assumption) (by first | decide | (simp; omega)) ?_)) rfl ?_
    refine a_alen_1 10 dX6_takesLetter_9 rfl (by repeat (first | assumption | (refine rg_ne (by first | decide | omega) ?_) | apply rg_eq | refine rg_fr (by assumption) (by first | decide | (simp; omega)) ?_)) ?_
    refine a_icmp_ge 22 13 dX6_takesLetter_10 rfl (by decide) (fun c_10 => ?_) (fun c_10 => ?_)
    · refine a_iconst (0) 23 dX6_takesLetter_22 rfl (by decide) ?_
      exact a_ireturn dX6_takesLetter_23 rfl rfl (Nat.le_of_ble_eq_true rfl) (Nat.le_of_ble_eq_true rfl) (by rw [show ltLetter (st, wh, it, nu, to) c = ((st, wh, it, nu, to), 0) from if_neg (fun q => Int32.not_le.mpr q.2 c_10)]; exact ⟨rfl, hs0, fr_refl _ _⟩)
    · refine a_aload_n 14 dX6_takesLetter_13 rfl rfl ?_
      refine a_get fd_X6_15 rfl 17 dX6_takesLetter_14 rfl (by repeat (first | assumption | (refine rg_ne (by first | decide | omega) ?_) | apply rg_eq | refine rg_fr (by assumption) (by first | decide | (simp; omega)) ?_)) rfl ?_
      refine a_iload_n 18 dX6_takesLetter_17 rfl rfl ?_
      refine a_baload 19 dX6_takesLetter_18 rfl (by repeat (first | assumption | (refine rg_ne (by first | decide | omega) ?_) | apply rg_eq | refine rg_fr (by assumption) (by first | decide | (simp; omega)) ?_)) (vin_ge c_1 c_10 (by decide)) ?_
      refine a_if_eq 24 22 dX6_takesLetter_19 rfl (by decide) (fun c_19 => ?_) (fun c_19 => ?_)
      · refine a_aload_n 25 dX6_takesLetter_24 rfl rfl ?_
        refine a_get fd_X6_15 rfl 28 dX6_takesLetter_25 rfl (by repeat (first | assumption | (refine rg_ne (by first | decide | omega) ?_) | apply rg_eq | refine rg_fr (by assumption) (by first | decide | (simp; omega)) ?_)) rfl ?_
        refine a_iload_n 29 dX6_takesLetter_28 rfl rfl ?_
        refine a_iconst (1) 30 dX6_takesLetter_29 rfl (by decide) ?_
        refine a_bastore 31 dX6_takesLetter_30 rfl (by repeat (first | assumption | (refine rg_ne (by first | decide | omega) ?_) | apply rg_eq | refine rg_fr (by assumption) (by first | decide | (simp; omega)) ?_)) (vin_ge c_1 c_10 (by decide)) ?_
        refine a_aload_n 32 dX6_takesLetter_31 rfl rfl ?_
        refine a_iload_n 33 dX6_takesLetter_32 rfl rfl ?_
        refine a_put fd_X6_23 cl_X6 rfl 36 dX6_takesLetter_33 rfl (by repeat (first | assumption | (refine rg_ne (by first | decide | omega) ?_) | apply rg_eq | refine rg_fr (by assumption) (by first | decide | (simp; omega)) ?_)) (Nat.le_of_ble_eq_true rfl) rfl rfl rfl ?_
        refine a_iconst (1) 37 dX6_takesLetter_36 rfl (by decide) ?_
        exact a_ireturn dX6_takesLetter_37 rfl rfl (Nat.le_of_ble_eq_true rfl) (Nat.le_of_ble_eq_true rfl) (by rw [show ltLetter (st, wh, it, nu, to) c = ((st, c, it, nu, upd to c.toNatClampNeg 1), 1) from (if_pos ⟨Int32.not_lt.mp c_1, Int32.not_le.mp c_10⟩).trans (if_pos c_19)]; exact ⟨rfl, ⟨(by repeat (first | assumption | (refine rg_ne (by first | decide | omega) ?_) | apply rg_eq | refine rg_fr (by assumption) (by first | decide | (simp; omega)) ?_)), (by repeat (first | assumption | (refine rg_ne (by first | decide | omega) ?_) | apply rg_eq | refine rg_fr (by assumption) (by first | decide | (simp; omega)) ?_)), (by repeat (first | assumption | (refine rg_ne (by first | decide | omega) ?_) | apply rg_eq | refine rg_fr (by assumption) (by first | decide | (simp; omega)) ?_))⟩, (by repeat (first | exact fr_refl _ _ | assumption | refine fr_set ?_ (by decide) | refine fr_trans (by assumption) ?_ (by decide)))⟩)
      · refine a_iconst (0) 23 dX6_takesLetter_22 rfl (by decide) ?_
        exact a_ireturn dX6_takesLetter_23 rfl rfl (Nat.le_of_ble_eq_true rfl) (Nat.le_of_ble_eq_true rfl) (by rw [show ltLetter (st, wh, it, nu, to) c = ((st, wh, it, nu, to), 0) from (if_pos ⟨Int32.not_lt.mp c_1, Int32.not_le.mp c_10⟩).trans (if_neg c_19)]; exact ⟨rfl, hs0, fr_refl _ _⟩)
set_option maxRecDepth 100000 in
set_option maxHeartbeats 4000000 in
theorem k_X6_takesDigit {s : ltS} (hs : ltAt G h s) (c : Int32) : rM l G 0 mX6_takesDigit 0 0 [.ref (gN G + 4), .int c] h (fun h' v => v = some (.int (ltDigit s c).2) ∧ ltAt G h' (ltDigit s c).1 ∧ fr h h' [4, 5, 6]) := by
  obtain ⟨st, wh, it, nu, to⟩ := s
  have hs0 := hs
  obtain ⟨hc, hf, hg⟩ := hs
  dsimp only at hc hf hg
  refine rM_start (by decide) (Nat.le_of_ble_eq_true rfl) ?_
  refine a_aload_n 1 dX6_takesDigit_0 rfl rfl ?_
  refine a_get fd_X6_23 rfl 4 dX6_takesDigit_1 rfl (by repeat (first | assumption | (refine rg_ne (by first | decide | omega) ?_) | apply rg_eq | refine rg_fr (by assumption) (by first | decide | (simp; omega)) ?_)) rfl ?_
  refine a_if_lt 30 7 dX6_takesDigit_4 rfl (by decide) (fun c_4 => ?_) (fun c_4 => ?_)
  · refine a_iconst (0) 31 dX6_takesDigit_30 rfl (by decide) ?_
    exact a_ireturn dX6_takesDigit_31 rfl rfl (Nat.le_of_ble_eq_true rfl) (Nat.le_of_ble_eq_true rfl) (by rw [show ltDigit (st, wh, it, nu, to) c = ((st, wh, it, nu, to), 0) from if_neg (fun q => Int32.not_lt.mpr q.1 c_4)]; exact ⟨rfl, hs0, fr_refl _ _⟩)
  · refine a_aload_n 8 dX6_takesDigit_7 rfl rfl ?_
    refine a_get fd_X6_23 rfl 11 dX6_takesDigit_8 rfl (by repeat (first | assumption | (refine rg_ne (by first | decide | omega) ?_) | apply rg_eq | refine rg_fr (by assumption) (by first | decide | (simp; omega)) ?_)) rfl ?_
    refine a_gets_LEAST (idx := 43) lu_43 rfl 14 dX6_takesDigit_11 rfl ?_
    refine a_alen_LEAST 15 dX6_takesDigit_14 rfl ?_
    refine a_icmp_ge 30 18 dX6_takesDigit_15 rfl (by decide) (fun c_15 => ?_) (fun c_15 => ?_)
    · refine a_iconst (0) 31 dX6_takesDigit_30 rfl (by decide) ?_
      exact a_ireturn dX6_takesDigit_31 rfl rfl (Nat.le_of_ble_eq_true rfl) (Nat.le_of_ble_eq_true rfl) (by rw [show ltDigit (st, wh, it, nu, to) c = ((st, wh, it, nu, to), 0) from if_neg (fun q => Int32.not_le.mpr q.2 c_15)]; exact ⟨rfl, hs0, fr_refl _ _⟩)
    · refine a_aload_n 19 dX6_takesDigit_18 rfl rfl ?_
      refine a_get fd_X6_23 rfl 22 dX6_takesDigit_19 rfl (by repeat (first | assumption | (refine rg_ne (by first | decide | omega) ?_) | apply rg_eq | refine rg_fr (by assumption) (by first | decide | (simp; omega)) ?_)) rfl ?_
      refine a_aload_n 23 dX6_takesDigit_22 rfl rfl ?_
      refine a_get fd_X6_9 rfl 26 dX6_takesDigit_23 rfl (by repeat (first | assumption | (refine rg_ne (by first | decide | omega) ?_) | apply rg_eq | refine rg_fr (by assumption) (by first | decide | (simp; omega)) ?_)) rfl ?_
      refine a_alen_0 27 dX6_takesDigit_26 rfl (by repeat (first | assumption | (refine rg_ne (by first | decide | omega) ?_) | apply rg_eq | refine rg_fr (by assumption) (by first | decide | (simp; omega)) ?_)) ?_
      refine a_icmp_lt 32 30 dX6_takesDigit_27 rfl (by decide) (fun c_27 => ?_) (fun c_27 => absurd (Int32.not_le.mp c_15) c_27)
      refine a_iload_n 33 dX6_takesDigit_32 rfl rfl ?_
      refine a_bipush (48) 35 dX6_takesDigit_33 rfl (by decide) ?_
      refine a_gets_LEAST (idx := 43) lu_43 rfl 38 dX6_takesDigit_35 rfl ?_
      refine a_aload_n 39 dX6_takesDigit_38 rfl rfl ?_
      refine a_get fd_X6_23 rfl 42 dX6_takesDigit_39 rfl (by repeat (first | assumption | (refine rg_ne (by first | decide | omega) ?_) | apply rg_eq | refine rg_fr (by assumption) (by first | decide | (simp; omega)) ?_)) rfl ?_
      refine a_iaload_LEAST  43 dX6_takesDigit_42 rfl (vin_ge c_4 c_15 (by decide)) ?_
      refine a_iadd 44 dX6_takesDigit_43 rfl ?_
      refine a_icmp_lt 53 47 dX6_takesDigit_44 rfl (by decide) (fun c_44 => ?_) (fun c_44 => ?_)
      · refine a_iconst (0) 54 dX6_takesDigit_53 rfl (by decide) ?_
        exact a_ireturn dX6_takesDigit_54 rfl rfl (Nat.le_of_ble_eq_true rfl) (Nat.le_of_ble_eq_true rfl) (by rw [show ltDigit (st, wh, it, nu, to) c = ((st, wh, it, nu, to), 0) from (if_pos ⟨Int32.not_lt.mp c_4, Int32.not_le.mp c_15⟩).trans (if_pos c_44)]; exact ⟨rfl, hs0, fr_refl _ _⟩)
      · refine a_iload_n 48 dX6_takesDigit_47 rfl rfl ?_
        refine a_bipush (57) 50 dX6_takesDigit_48 rfl (by decide) ?_
        refine a_icmp_le 55 53 dX6_takesDigit_50 rfl (by decide) (fun c_50 => ?_) (fun c_50 => ?_)
        · refine a_aload_n 56 dX6_takesDigit_55 rfl rfl ?_
          refine a_get fd_X6_9 rfl 59 dX6_takesDigit_56 rfl (by repeat (first | assumption | (refine rg_ne (by first | decide | omega) ?_) | apply rg_eq | refine rg_fr (by assumption) (by first | decide | (simp; omega)) ?_)) rfl ?_
          refine a_aload_n 60 dX6_takesDigit_59 rfl rfl ?_
          refine a_get fd_X6_23 rfl 63 dX6_takesDigit_60 rfl (by repeat (first | assumption | (refine rg_ne (by first | decide | omega) ?_) | apply rg_eq | refine rg_fr (by assumption) (by first | decide | (simp; omega)) ?_)) rfl ?_
          refine a_iload_n 64 dX6_takesDigit_63 rfl rfl ?_
          refine a_bipush (48) 66 dX6_takesDigit_64 rfl (by decide) ?_
          refine a_isub 67 dX6_takesDigit_66 rfl ?_
          refine a_iastore 68 dX6_takesDigit_67 rfl (by repeat (first | assumption | (refine rg_ne (by first | decide | omega) ?_) | apply rg_eq | refine rg_fr (by assumption) (by first | decide | (simp; omega)) ?_)) (vin_ge c_4 c_15 (by decide)) ?_
          refine a_aload_n 69 dX6_takesDigit_68 rfl rfl ?_
          refine a_dup 70 dX6_takesDigit_69 rfl rfl ?_
          refine a_get fd_X6_26 rfl 73 dX6_takesDigit_70 rfl (by repeat (first | assumption | (refine rg_ne (by first | decide | omega) ?_) | apply rg_eq | refine rg_fr (by assumption) (by first | decide | (simp; omega)) ?_)) rfl ?_
          refine a_iconst (1) 74 dX6_takesDigit_73 rfl (by decide) ?_
          refine a_iadd 75 dX6_takesDigit_74 rfl ?_
          refine a_put fd_X6_26 cl_X6 rfl 78 dX6_takesDigit_75 rfl (by repeat (first | assumption | (refine rg_ne (by first | decide | omega) ?_) | apply rg_eq | refine rg_fr (by assumption) (by first | decide | (simp; omega)) ?_)) (Nat.le_of_ble_eq_true rfl) rfl rfl rfl ?_
          refine a_iconst (1) 79 dX6_takesDigit_78 rfl (by decide) ?_
          exact a_ireturn dX6_takesDigit_79 rfl rfl (Nat.le_of_ble_eq_true rfl) (Nat.le_of_ble_eq_true rfl) (by rw [show ltDigit (st, wh, it, nu, to) c = ((st, wh, it + 1, upd nu wh.toNatClampNeg (c - 48), to), 1) from (if_pos ⟨Int32.not_lt.mp c_4, Int32.not_le.mp c_15⟩).trans ((if_neg c_44).trans (if_pos c_50))]; exact ⟨rfl, ⟨(by repeat (first | assumption | (refine rg_ne (by first | decide | omega) ?_) | apply rg_eq | refine rg_fr (by assumption) (by first | decide | (simp; omega)) ?_)), (by repeat (first | assumption | (refine rg_ne (by first | decide | omega) ?_) | apply rg_eq | refine rg_fr (by assumption) (by first | decide | (simp; omega)) ?_)), (by repeat (first | assumption | (refine rg_ne (by first | decide | omega) ?_) | apply rg_eq | refine rg_fr (by assumption) (by first | decide | (simp; omega)) ?_))⟩, (by repeat (first | exact fr_refl _ _ | assumption | refine fr_set ?_ (by decide) | refine fr_trans (by assumption) ?_ (by decide)))⟩)
        · refine a_iconst (0) 54 dX6_takesDigit_53 rfl (by decide) ?_
          exact a_ireturn dX6_takesDigit_54 rfl rfl (Nat.le_of_ble_eq_true rfl) (Nat.le_of_ble_eq_true rfl) (by rw [show ltDigit (st, wh, it, nu, to) c = ((st, wh, it, nu, to), 0) from (if_pos ⟨Int32.not_lt.mp c_4, Int32.not_le.mp c_15⟩).trans ((if_neg c_44).trans (if_neg c_50))]; exact ⟨rfl, hs0, fr_refl _ _⟩)
set_option maxRecDepth 100000 in
set_option maxHeartbeats 4000000 in
theorem k_X6_takes {s : ltS} (hs : ltAt G h s) (c : Int32) : rM l G 1 mX6_takes 0 0 [.ref (gN G + 4), .int c] h (fun h' v => v = some (.int (ltTakes s c).2) ∧ ltAt G h' (ltTakes s c).1 ∧ fr h h' [4, 5, 6]) := by
  obtain ⟨st, wh, it, nu, to⟩ := s
  obtain ⟨hc, hf, hg⟩ := hs
  dsimp only at hc hf hg
  refine rM_start (by decide) (Nat.le_of_ble_eq_true rfl) ?_
  refine a_aload_n 1 dX6_takes_0 rfl rfl ?_
  refine a_get fd_X6_19 rfl 4 dX6_takes_1 rfl (by repeat (first | assumption | (refine rg_ne (by first | decide | omega) ?_) | apply rg_eq | refine rg_fr (by assumption) (by first | decide | (simp; omega)) ?_)) rfl ?_
  rcases (show (st).toInt = 0 ∨ (st).toInt = 1 ∨ ((st).toInt ≠ 0 ∧ (st).toInt ≠ 1) by omega) with w_4 | w_4 | w_4
  · refine a_lookup 32 dX6_takes_4 (by decide) (by rw [w_4] <;> rfl) (by decide) ?_
    refine a_aload_n 33 dX6_takes_32 rfl rfl ?_
    refine a_iconst (1) 34 dX6_takes_33 rfl (by decide) ?_
    refine a_put fd_X6_19 cl_X6 rfl 37 dX6_takes_34 rfl (by repeat (first | assumption | (refine rg_ne (by first | decide | omega) ?_) | apply rg_eq | refine rg_fr (by assumption) (by first | decide | (simp; omega)) ?_)) (Nat.le_of_ble_eq_true rfl) rfl rfl rfl ?_
    refine a_aload_n 38 dX6_takes_37 rfl rfl ?_
    refine a_iload_n 39 dX6_takes_38 rfl rfl ?_
    refine a_callS ok_X6_numberBy ln_X6_32 is_X6_numberBy rfl 42 dX6_takes_39 rfl (k_X6_numberBy c) rfl rfl ⟨(Nat.le_of_ble_eq_true rfl), (Nat.le_of_ble_eq_true rfl)⟩ (Nat.le_of_ble_eq_true rfl) ⟨(Nat.le_of_ble_eq_true rfl), (Nat.le_of_ble_eq_true rfl)⟩ ?_
    rintro _ _ ⟨rfl, rfl⟩
    refine a_callV ok_X6_takesLetter ln_X6_36 in_X6_takesLetter rfl 45 dX6_takes_42 rfl (k_X6_takesLetter (s := (1, wh, it, nu, to)) ⟨(by repeat (first | assumption | (refine rg_ne (by first | decide | omega) ?_) | apply rg_eq | refine rg_fr (by assumption) (by first | decide | (simp; omega)) ?_)), (by repeat (first | assumption | (refine rg_ne (by first | decide | omega) ?_) | apply rg_eq | refine rg_fr (by assumption) (by first | decide | (simp; omega)) ?_)), (by repeat (first | assumption | (refine rg_ne (by first | decide | omega) ?_) | apply rg_eq | refine rg_fr (by assumption) (by first | decide | (simp; omega)) ?_))⟩ _) (by repeat (first | assumption | (refine rg_ne (by first | decide | omega) ?_) | apply rg_eq | refine rg_fr (by assumption) (by first | decide | (simp; omega)) ?_)) rfl rfl rfl ⟨(Nat.le_of_ble_eq_true rfl), (Nat.le_of_ble_eq_true rfl)⟩ (Nat.le_of_ble_eq_true rfl) ⟨(Nat.le_of_ble_eq_true rfl), (Nat.le_of_ble_eq_true rfl)⟩ ?_
    rintro h1 v ⟨rfl, hs1, hfr⟩
    exact a_ireturn dX6_takes_45 rfl rfl (Nat.le_of_ble_eq_true rfl) (Nat.le_of_ble_eq_true rfl) (by rw [lt_0 w_4]; exact ⟨rfl, hs1, fr_trans (fr_set (fr_refl _ _) (by decide)) hfr (fun _ q => q)⟩)
  · refine a_lookup 46 dX6_takes_4 (by decide) (by rw [w_4] <;> rfl) (by decide) ?_
    refine a_aload_n 47 dX6_takes_46 rfl rfl ?_
    refine a_iconst (2) 48 dX6_takes_47 rfl (by decide) ?_
    refine a_put fd_X6_19 cl_X6 rfl 51 dX6_takes_48 rfl (by repeat (first | assumption | (refine rg_ne (by first | decide | omega) ?_) | apply rg_eq | refine rg_fr (by assumption) (by first | decide | (simp; omega)) ?_)) (Nat.le_of_ble_eq_true rfl) rfl rfl rfl ?_
    refine a_aload_n 52 dX6_takes_51 rfl rfl ?_
    refine a_iload_n 53 dX6_takes_52 rfl rfl ?_
    refine a_callV ok_X6_takesDigit ln_X6_40 in_X6_takesDigit rfl 56 dX6_takes_53 rfl (k_X6_takesDigit (s := (2, wh, it, nu, to)) ⟨(by repeat (first | assumption | (refine rg_ne (by first | decide | omega) ?_) | apply rg_eq | refine rg_fr (by assumption) (by first | decide | (simp; omega)) ?_)), (by repeat (first | assumption | (refine rg_ne (by first | decide | omega) ?_) | apply rg_eq | refine rg_fr (by assumption) (by first | decide | (simp; omega)) ?_)), (by repeat (first | assumption | (refine rg_ne (by first | decide | omega) ?_) | apply rg_eq | refine rg_fr (by assumption) (by first | decide | (simp; omega)) ?_))⟩ _) (by repeat (first | assumption | (refine rg_ne (by first | decide | omega) ?_) | apply rg_eq | refine rg_fr (by assumption) (by first | decide | (simp; omega)) ?_)) rfl rfl rfl ⟨(Nat.le_of_ble_eq_true rfl), (Nat.le_of_ble_eq_true rfl)⟩ (Nat.le_of_ble_eq_true rfl) ⟨(Nat.le_of_ble_eq_true rfl), (Nat.le_of_ble_eq_true rfl)⟩ ?_
    rintro h1 v ⟨rfl, hs1, hfr⟩
    exact a_ireturn dX6_takes_56 rfl rfl (Nat.le_of_ble_eq_true rfl) (Nat.le_of_ble_eq_true rfl) (by rw [lt_1 w_4]; exact ⟨rfl, hs1, fr_trans (fr_set (fr_refl _ _) (by decide)) hfr (fun _ q => q)⟩)
  · refine a_lookup (off := 53) 57 dX6_takes_4 (by decide) (by simp only [Op.lookupswitch.offset_cons, Op.lookupswitch.offset]; repeat (first | rfl | omega | split)) (by decide) ?_
    refine a_aload_n 58 dX6_takes_57 rfl rfl ?_
    refine a_iconst (0) 59 dX6_takes_58 rfl (by decide) ?_
    refine a_put fd_X6_19 cl_X6 rfl 62 dX6_takes_59 rfl (by repeat (first | assumption | (refine rg_ne (by first | decide | omega) ?_) | apply rg_eq | refine rg_fr (by assumption) (by first | decide | (simp; omega)) ?_)) (Nat.le_of_ble_eq_true rfl) rfl rfl rfl ?_
    refine a_iload_n 63 dX6_takes_62 rfl rfl ?_
    refine a_bipush (59) 65 dX6_takes_63 rfl (by decide) ?_
    refine a_icmp_ne 81 68 dX6_takes_65 rfl (by decide) (fun c_65 => ?_) (fun c_65 => ?_)
    · refine a_iconst (0) 82 dX6_takes_81 rfl (by decide) ?_
      exact a_ireturn dX6_takes_82 rfl rfl (Nat.le_of_ble_eq_true rfl) (Nat.le_of_ble_eq_true rfl) (by rw [lt_d w_4, if_neg c_65]; exact ⟨rfl, ⟨(by repeat (first | assumption | (refine rg_ne (by first | decide | omega) ?_) | apply rg_eq | refine rg_fr (by assumption) (by first | decide | (simp; omega)) ?_)), (by repeat (first | assumption | (refine rg_ne (by first | decide | omega) ?_) | apply rg_eq | refine rg_fr (by assumption) (by first | decide | (simp; omega)) ?_)), (by repeat (first | assumption | (refine rg_ne (by first | decide | omega) ?_) | apply rg_eq | refine rg_fr (by assumption) (by first | decide | (simp; omega)) ?_))⟩, (by repeat (first | exact fr_refl _ _ | assumption | refine fr_set ?_ (by decide) | refine fr_trans (by assumption) ?_ (by decide)))⟩)
    · refine a_aload_n 69 dX6_takes_68 rfl rfl ?_
      refine a_get fd_X6_26 rfl 72 dX6_takes_69 rfl (by repeat (first | assumption | (refine rg_ne (by first | decide | omega) ?_) | apply rg_eq | refine rg_fr (by assumption) (by first | decide | (simp; omega)) ?_)) rfl ?_
      refine a_bipush (7) 74 dX6_takes_72 rfl (by decide) ?_
      refine a_icmp_ge 81 77 dX6_takes_74 rfl (by decide) (fun c_74 => ?_) (fun c_74 => ?_)
      · refine a_iconst (0) 82 dX6_takes_81 rfl (by decide) ?_
        exact a_ireturn dX6_takes_82 rfl rfl (Nat.le_of_ble_eq_true rfl) (Nat.le_of_ble_eq_true rfl) (by rw [lt_d w_4, if_pos c_65, if_neg (Int32.not_lt.mpr c_74)]; exact ⟨rfl, ⟨(by repeat (first | assumption | (refine rg_ne (by first | decide | omega) ?_) | apply rg_eq | refine rg_fr (by assumption) (by first | decide | (simp; omega)) ?_)), (by repeat (first | assumption | (refine rg_ne (by first | decide | omega) ?_) | apply rg_eq | refine rg_fr (by assumption) (by first | decide | (simp; omega)) ?_)), (by repeat (first | assumption | (refine rg_ne (by first | decide | omega) ?_) | apply rg_eq | refine rg_fr (by assumption) (by first | decide | (simp; omega)) ?_))⟩, (by repeat (first | exact fr_refl _ _ | assumption | refine fr_set ?_ (by decide) | refine fr_trans (by assumption) ?_ (by decide)))⟩)
      · refine a_iconst (1) 78 dX6_takes_77 rfl (by decide) ?_
        refine a_goto 82 dX6_takes_78 (by decide) ?_
        exact a_ireturn dX6_takes_82 rfl rfl (Nat.le_of_ble_eq_true rfl) (Nat.le_of_ble_eq_true rfl) (by rw [lt_d w_4, if_pos c_65, if_pos (Int32.not_le.mp c_74)]; exact ⟨rfl, ⟨(by repeat (first | assumption | (refine rg_ne (by first | decide | omega) ?_) | apply rg_eq | refine rg_fr (by assumption) (by first | decide | (simp; omega)) ?_)), (by repeat (first | assumption | (refine rg_ne (by first | decide | omega) ?_) | apply rg_eq | refine rg_fr (by assumption) (by first | decide | (simp; omega)) ?_)), (by repeat (first | assumption | (refine rg_ne (by first | decide | omega) ?_) | apply rg_eq | refine rg_fr (by assumption) (by first | decide | (simp; omega)) ?_))⟩, (by repeat (first | exact fr_refl _ _ | assumption | refine fr_set ?_ (by decide) | refine fr_trans (by assumption) ?_ (by decide)))⟩)
end TAKES
