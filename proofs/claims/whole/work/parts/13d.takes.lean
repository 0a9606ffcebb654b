section TAKES
variable {l : Launch} {G : rG} {h : rH}
set_option maxRecDepth 100000 in
set_option maxHeartbeats 400000 in
theorem k_X6_numberBy (c : Int32) : rM l G 0 mX6_numberBy 0 0 [.int c] h (rV h (some (.int (numBI c)))) := by
  refine rM_start (by decide) (Nat.le_of_ble_eq_true rfl) ?_
  refine a_iload_n 1 dX6_numberBy_0 rfl rfl ?_
  rcases tab_cases 21 (c).toInt 101 121 (by decide) with w_1 | ⟨k_1, hk_1, e_1⟩
  · refine a_tableOut 115 dX6_numberBy_1 w_1 (by decide) ?_
    refine a_bipush (-9) 117 dX6_numberBy_115 rfl (by decide) ?_
    exact a_ireturn dX6_numberBy_117 rfl rfl (Nat.le_of_ble_eq_true rfl) (Nat.le_of_ble_eq_true rfl) ⟨rfl, by simp [numBI, i_eq, show ¬ c.toInt = 111 by omega, show ¬ c.toInt = 115 by omega, show ¬ c.toInt = 101 by omega, show ¬ c.toInt = 107 by omega, show ¬ c.toInt = 121 by omega, show ¬ c.toInt = 102 by omega, show ¬ c.toInt = 116 by omega]⟩
  · match k_1, hk_1, e_1 with
    | 0, _, e =>
      have w_1 : (c).toInt = 101 := e
      refine a_tableIn 104 dX6_numberBy_1 (by rw [w_1]; decide) (by rw [w_1]; decide) (by rw [w_1]; rfl) (by decide) ?_
      refine a_iconst (2) 105 dX6_numberBy_104 rfl (by decide) ?_
      exact a_ireturn dX6_numberBy_105 rfl rfl (Nat.le_of_ble_eq_true rfl) (Nat.le_of_ble_eq_true rfl) ⟨rfl, by simp [numBI, i_eq, w_1]⟩
    | 1, _, e =>
      have w_1 : (c).toInt = 102 := e
      refine a_tableIn 110 dX6_numberBy_1 (by rw [w_1]; decide) (by rw [w_1]; decide) (by rw [w_1]; rfl) (by decide) ?_
      refine a_iconst (5) 111 dX6_numberBy_110 rfl (by decide) ?_
      exact a_ireturn dX6_numberBy_111 rfl rfl (Nat.le_of_ble_eq_true rfl) (Nat.le_of_ble_eq_true rfl) ⟨rfl, by simp [numBI, i_eq, w_1]⟩
    | 2, _, e =>
      have w_1 : (c).toInt = 103 := e
      refine a_tableIn 115 dX6_numberBy_1 (by rw [w_1]; decide) (by rw [w_1]; decide) (by rw [w_1]; rfl) (by decide) ?_
      refine a_bipush (-9) 117 dX6_numberBy_115 rfl (by decide) ?_
      exact a_ireturn dX6_numberBy_117 rfl rfl (Nat.le_of_ble_eq_true rfl) (Nat.le_of_ble_eq_true rfl) ⟨rfl, by simp [numBI, i_eq, w_1]⟩
    | 3, _, e =>
      have w_1 : (c).toInt = 104 := e
      refine a_tableIn 115 dX6_numberBy_1 (by rw [w_1]; decide) (by rw [w_1]; decide) (by rw [w_1]; rfl) (by decide) ?_
      refine a_bipush (-9) 117 dX6_numberBy_115 rfl (by decide) ?_
      exact a_ireturn dX6_numberBy_117 rfl rfl (Nat.le_of_ble_eq_true rfl) (Nat.le_of_ble_eq_true rfl) ⟨rfl, by simp [numBI, i_eq, w_1]⟩
    | 4, _, e =>
      have w_1 : (c).toInt = 105 := e
      refine a_tableIn 115 dX6_numberBy_1 (by rw [w_1]; decide) (by rw [w_1]; decide) (by rw [w_1]; rfl) (by decide) ?_
      refine a_bipush (-9) 117 dX6_numberBy_115 rfl (by decide) ?_
      exact a_ireturn dX6_numberBy_117 rfl rfl (Nat.le_of_ble_eq_true rfl) (Nat.le_of_ble_eq_true rfl) ⟨rfl, by simp [numBI, i_eq, w_1]⟩
    | 5, _, e =>
      have w_1 : (c).toInt = 106 := e
      refine a_tableIn 115 dX6_numberBy_1 (by rw [w_1]; decide) (by rw [w_1]; decide) (by rw [w_1]; rfl) (by decide) ?_
      refine a_bipush (-9) 117 dX6_numberBy_115 rfl (by decide) ?_
      exact a_ireturn dX6_numberBy_117 rfl rfl (Nat.le_of_ble_eq_true rfl) (Nat.le_of_ble_eq_true rfl) ⟨rfl, by simp [numBI, i_eq, w_1]⟩
    | 6, _, e =>
      have w_1 : (c).toInt = 107 := e
      refine a_tableIn 106 dX6_numberBy_1 (by rw [w_1]; decide) (by rw [w_1]; decide) (by rw [w_1]; rfl) (by decide) ?_
      refine a_iconst (3) 107 dX6_numberBy_106 rfl (by decide) ?_
      exact a_ireturn dX6_numberBy_107 rfl rfl (Nat.le_of_ble_eq_true rfl) (Nat.le_of_ble_eq_true rfl) ⟨rfl, by simp [numBI, i_eq, w_1]⟩
    | 7, _, e =>
      have w_1 : (c).toInt = 108 := e
      refine a_tableIn 115 dX6_numberBy_1 (by rw [w_1]; decide) (by rw [w_1]; decide) (by rw [w_1]; rfl) (by decide) ?_
      refine a_bipush (-9) 117 dX6_numberBy_115 rfl (by decide) ?_
      exact a_ireturn dX6_numberBy_117 rfl rfl (Nat.le_of_ble_eq_true rfl) (Nat.le_of_ble_eq_true rfl) ⟨rfl, by simp [numBI, i_eq, w_1]⟩
    | 8, _, e =>
      have w_1 : (c).toInt = 109 := e
      refine a_tableIn 115 dX6_numberBy_1 (by rw [w_1]; decide) (by rw [w_1]; decide) (by rw [w_1]; rfl) (by decide) ?_
      refine a_bipush (-9) 117 dX6_numberBy_115 rfl (by decide) ?_
      exact a_ireturn dX6_numberBy_117 rfl rfl (Nat.le_of_ble_eq_true rfl) (Nat.le_of_ble_eq_true rfl) ⟨rfl, by simp [numBI, i_eq, w_1]⟩
    | 9, _, e =>
      have w_1 : (c).toInt = 110 := e
      refine a_tableIn 115 dX6_numberBy_1 (by rw [w_1]; decide) (by rw [w_1]; decide) (by rw [w_1]; rfl) (by decide) ?_
      refine a_bipush (-9) 117 dX6_numberBy_115 rfl (by decide) ?_
      exact a_ireturn dX6_numberBy_117 rfl rfl (Nat.le_of_ble_eq_true rfl) (Nat.le_of_ble_eq_true rfl) ⟨rfl, by simp [numBI, i_eq, w_1]⟩
    | 10, _, e =>
      have w_1 : (c).toInt = 111 := e
      refine a_tableIn 100 dX6_numberBy_1 (by rw [w_1]; decide) (by rw [w_1]; decide) (by rw [w_1]; rfl) (by decide) ?_
      refine a_iconst (0) 101 dX6_numberBy_100 rfl (by decide) ?_
      exact a_ireturn dX6_numberBy_101 rfl rfl (Nat.le_of_ble_eq_true rfl) (Nat.le_of_ble_eq_true rfl) ⟨rfl, by simp [numBI, i_eq, w_1]⟩
    | 11, _, e =>
      have w_1 : (c).toInt = 112 := e
      refine a_tableIn 115 dX6_numberBy_1 (by rw [w_1]; decide) (by rw [w_1]; decide) (by rw [w_1]; rfl) (by decide) ?_
      refine a_bipush (-9) 117 dX6_numberBy_115 rfl (by decide) ?_
      exact a_ireturn dX6_numberBy_117 rfl rfl (Nat.le_of_ble_eq_true rfl) (Nat.le_of_ble_eq_true rfl) ⟨rfl, by simp [numBI, i_eq, w_1]⟩
    | 12, _, e =>
      have w_1 : (c).toInt = 113 := e
      refine a_tableIn 115 dX6_numberBy_1 (by rw [w_1]; decide) (by rw [w_1]; decide) (by rw [w_1]; rfl) (by decide) ?_
      refine a_bipush (-9) 117 dX6_numberBy_115 rfl (by decide) ?_
      exact a_ireturn dX6_numberBy_117 rfl rfl (Nat.le_of_ble_eq_true rfl) (Nat.le_of_ble_eq_true rfl) ⟨rfl, by simp [numBI, i_eq, w_1]⟩
    | 13, _, e =>
      have w_1 : (c).toInt = 114 := e
      refine a_tableIn 115 dX6_numberBy_1 (by rw [w_1]; decide) (by rw [w_1]; decide) (by rw [w_1]; rfl) (by decide) ?_
      refine a_bipush (-9) 117 dX6_numberBy_115 rfl (by decide) ?_
      exact a_ireturn dX6_numberBy_117 rfl rfl (Nat.le_of_ble_eq_true rfl) (Nat.le_of_ble_eq_true rfl) ⟨rfl, by simp [numBI, i_eq, w_1]⟩
    | 14, _, e =>
      have w_1 : (c).toInt = 115 := e
      refine a_tableIn 102 dX6_numberBy_1 (by rw [w_1]; decide) (by rw [w_1]; decide) (by rw [w_1]; rfl) (by decide) ?_
      refine a_iconst (1) 103 dX6_numberBy_102 rfl (by decide) ?_
      exact a_ireturn dX6_numberBy_103 rfl rfl (Nat.le_of_ble_eq_true rfl) (Nat.le_of_ble_eq_true rfl) ⟨rfl, by simp [numBI, i_eq, w_1]⟩
    | 15, _, e =>
      have w_1 : (c).toInt = 116 := e
      refine a_tableIn 112 dX6_numberBy_1 (by rw [w_1]; decide) (by rw [w_1]; decide) (by rw [w_1]; rfl) (by decide) ?_
      refine a_bipush (6) 114 dX6_numberBy_112 rfl (by decide) ?_
      exact a_ireturn dX6_numberBy_114 rfl rfl (Nat.le_of_ble_eq_true rfl) (Nat.le_of_ble_eq_true rfl) ⟨rfl, by simp [numBI, i_eq, w_1]⟩
    | 16, _, e =>
      have w_1 : (c).toInt = 117 := e
      refine a_tableIn 115 dX6_numberBy_1 (by rw [w_1]; decide) (by rw [w_1]; decide) (by rw [w_1]; rfl) (by decide) ?_
      refine a_bipush (-9) 117 dX6_numberBy_115 rfl (by decide) ?_
      exact a_ireturn dX6_numberBy_117 rfl rfl (Nat.le_of_ble_eq_true rfl) (Nat.le_of_ble_eq_true rfl) ⟨rfl, by simp [numBI, i_eq, w_1]⟩
    | 17, _, e =>
      have w_1 : (c).toInt = 118 := e
      refine a_tableIn 115 dX6_numberBy_1 (by rw [w_1]; decide) (by rw [w_1]; decide) (by rw [w_1]; rfl) (by decide) ?_
      refine a_bipush (-9) 117 dX6_numberBy_115 rfl (by decide) ?_
      exact a_ireturn dX6_numberBy_117 rfl rfl (Nat.le_of_ble_eq_true rfl) (Nat.le_of_ble_eq_true rfl) ⟨rfl, by simp [numBI, i_eq, w_1]⟩
    | 18, _, e =>
      have w_1 : (c).toInt = 119 := e
      refine a_tableIn 115 dX6_numberBy_1 (by rw [w_1]; decide) (by rw [w_1]; decide) (by rw [w_1]; rfl) (by decide) ?_
      refine a_bipush (-9) 117 dX6_numberBy_115 rfl (by decide) ?_
      exact a_ireturn dX6_numberBy_117 rfl rfl (Nat.le_of_ble_eq_true rfl) (Nat.le_of_ble_eq_true rfl) ⟨rfl, by simp [numBI, i_eq, w_1]⟩
    | 19, _, e =>
      have w_1 : (c).toInt = 120 := e
      refine a_tableIn 115 dX6_numberBy_1 (by rw [w_1]; decide) (by rw [w_1]; decide) (by rw [w_1]; rfl) (by decide) ?_
      refine a_bipush (-9) 117 dX6_numberBy_115 rfl (by decide) ?_
      exact a_ireturn dX6_numberBy_117 rfl rfl (Nat.le_of_ble_eq_true rfl) (Nat.le_of_ble_eq_true rfl) ⟨rfl, by simp [numBI, i_eq, w_1]⟩
    | 20, _, e =>
      have w_1 : (c).toInt = 121 := e
      refine a_tableIn 108 dX6_numberBy_1 (by rw [w_1]; decide) (by rw [w_1]; decide) (by rw [w_1]; rfl) (by decide) ?_
      refine a_iconst (4) 109 dX6_numberBy_108 rfl (by decide) ?_
      exact a_ireturn dX6_numberBy_109 rfl rfl (Nat.le_of_ble_eq_true rfl) (Nat.le_of_ble_eq_true rfl) ⟨rfl, by simp [numBI, i_eq, w_1]⟩
    | k + 21, hk, _ => exact absurd hk (by omega)
end TAKES
