/-! THE CLASS's calls on seats, ones and yawns, on -/
section CONE3
variable {l : Launch} {G : rG} {h : rH} {T : Tn}
theorem T_fa (T : Tn) : setFT T T.fa T.tr = T := rfl
set_option maxRecDepth 100000 in
set_option maxHeartbeats 400000 in
theorem c_ofOne (q : cAll G h T) (o : T.ok) (c d : Int32) : rM l G 12 mX11_ofOne 0 0 [.ref (gN G + 0), .int c, .int d] h (fun h' v => v = some (.int (aOfOne T c d)) ∧ cAll G h' T ∧ kp h h' cL) := by
  have hm := o.m12
  have hy := q.1.1
  rcases oT_cases (n := T.m) (by omega) c with ⟨e, hc⟩ | ⟨x, hx, rfl, e⟩
  · have ea : aOfOne T c d = -1 := by unfold aOfOne; rw [e]
    refine rM_start (by decide) (Nat.le_of_ble_eq_true rfl) ?_
    refine a_aload_n 1 dX11_ofOne_0 rfl rfl ?_
    refine a_iload_n 2 dX11_ofOne_1 rfl rfl ?_
    refine a_callV ok_X11_personAt ln_X11_152 in_X11_personAt rfl 5 dX11_ofOne_2 rfl (c_personN q.1 hc) (by repeat (first | assumption | (refine rg_ne (by first | decide | omega) ?_) | apply rg_eq | refine rg_fr (by assumption) (by first | decide | (simp; omega)) ?_)) rfl rfl rfl ⟨(Nat.le_of_ble_eq_true rfl), (Nat.le_of_ble_eq_true rfl)⟩ (Nat.le_of_ble_eq_true rfl) ⟨(Nat.le_of_ble_eq_true rfl), (Nat.le_of_ble_eq_true rfl)⟩ ?_
    rintro _ _ ⟨rfl, rfl⟩
    refine a_astoreN_n 6 dX11_ofOne_5 rfl (by decide) ?_
    refine a_aloadN_n 7 dX11_ofOne_6 rfl rfl ?_
    refine a_ifnonnullN 10 dX11_ofOne_7 rfl ?_
    refine a_iconst (-1) 11 dX11_ofOne_10 rfl (by decide) ?_
    exact a_ireturn dX11_ofOne_11 rfl rfl (Nat.le_of_ble_eq_true rfl) (Nat.le_of_ble_eq_true rfl) ⟨by rw [ea], q, fun _ _ _ => rfl⟩
  · have ea : aOfOne T (nI x) d = if d.toInt = 0 then nI (T.kd x) else if d.toInt = 1 then nI (T.se x) else if d.toInt = 2 then nI (T.sl x) else if d.toInt = 3 then nI (T.ki x) else if d.toInt = 4 then bsN (fun y => decide (T.sees x y)) T.m else if d.toInt = 5 then bsN (fun y => hearM T.nb (T.se x) (T.se y)) T.m else -2 := by unfold aOfOne; rw [e]
    have hpc := c_at q.1 hx
    have hseen := k_X11_seenBy (l := l) q.1 o hx
    have hheard := k_X11_heardBy (l := l) q.1 o hx
    have hP := c_person (l := l) q.1 o hx
    rcases kd_cases o hx with e2 | e2 | e2
    · rw [e2] at hpc ea
      have hpc2 : h[T.pa x]? = some (pc 7 (nI x) (nI (T.sl x)) (nI (T.ki x)) (nI (T.se x))) := hpc
      refine rM_start (by decide) (Nat.le_of_ble_eq_true rfl) ?_
      refine a_aload_n 1 dX11_ofOne_0 rfl rfl ?_
      refine a_iload_n 2 dX11_ofOne_1 rfl rfl ?_
      refine a_callV ok_X11_personAt ln_X11_152 in_X11_personAt rfl 5 dX11_ofOne_2 rfl (hP) (by repeat (first | assumption | (refine rg_ne (by first | decide | omega) ?_) | apply rg_eq | refine rg_fr (by assumption) (by first | decide | (simp; omega)) ?_)) rfl rfl rfl ⟨(Nat.le_of_ble_eq_true rfl), (Nat.le_of_ble_eq_true rfl)⟩ (Nat.le_of_ble_eq_true rfl) ⟨(Nat.le_of_ble_eq_true rfl), (Nat.le_of_ble_eq_true rfl)⟩ ?_
      rintro _ _ ⟨rfl, rfl⟩
      refine a_astore_n 6 dX11_ofOne_5 rfl (by decide) ?_
      refine a_aload_n 7 dX11_ofOne_6 rfl rfl ?_
      refine a_ifnonnull 12 dX11_ofOne_7 (by decide) ?_
      refine a_iload_n 13 dX11_ofOne_12 rfl rfl ?_
      rcases (show (d).toInt = 0 ∨ (d).toInt = 1 ∨ (d).toInt = 2 ∨ (d).toInt = 3 ∨ (d).toInt = 4 ∨ (d).toInt = 5 ∨ ((d).toInt < 0 ∨ 5 < (d).toInt) by omega) with w_13 | w_13 | w_13 | w_13 | w_13 | w_13 | w_13
      · refine a_tableIn 52 dX11_ofOne_13 (by rw [w_13]; decide) (by rw [w_13]; decide) (by rw [w_13]; rfl) (by decide) ?_
        refine a_aload_n 53 dX11_ofOne_52 rfl rfl ?_
        refine a_callV ok_X7_kind ln_X11_156 in_X7_kind rfl 56 dX11_ofOne_53 rfl (k_X7_kind) (by repeat (first | assumption | (refine rg_ne (by first | decide | omega) ?_) | apply rg_eq | refine rg_fr (by assumption) (by first | decide | (simp; omega)) ?_)) rfl rfl rfl ⟨(Nat.le_of_ble_eq_true rfl), (Nat.le_of_ble_eq_true rfl)⟩ (Nat.le_of_ble_eq_true rfl) ⟨(Nat.le_of_ble_eq_true rfl), (Nat.le_of_ble_eq_true rfl)⟩ ?_
        rintro _ _ ⟨rfl, rfl⟩
        exact a_ireturn dX11_ofOne_56 rfl rfl (Nat.le_of_ble_eq_true rfl) (Nat.le_of_ble_eq_true rfl) ⟨by rw [ea]; repeat (first | rfl | rw [if_pos (by omega)] | rw [if_neg (by omega)]), q, fun _ _ _ => rfl⟩
      · refine a_tableIn 57 dX11_ofOne_13 (by rw [w_13]; decide) (by rw [w_13]; decide) (by rw [w_13]; rfl) (by decide) ?_
        refine a_aload_n 58 dX11_ofOne_57 rfl rfl ?_
        refine a_getP fd_X11_145_X7 fd_X11_145_X3 fd_X11_145_X4 (ciK_P 0) rfl 61 dX11_ofOne_58 rfl (by repeat (first | assumption | (refine rg_ne (by first | decide | omega) ?_) | apply rg_eq | refine rg_fr (by assumption) (by first | decide | (simp; omega)) ?_)) rfl ?_
        exact a_ireturn dX11_ofOne_61 rfl rfl (Nat.le_of_ble_eq_true rfl) (Nat.le_of_ble_eq_true rfl) ⟨by rw [ea]; repeat (first | rfl | rw [if_pos (by omega)] | rw [if_neg (by omega)]), q, fun _ _ _ => rfl⟩
      · refine a_tableIn 62 dX11_ofOne_13 (by rw [w_13]; decide) (by rw [w_13]; decide) (by rw [w_13]; rfl) (by decide) ?_
        refine a_aload_n 63 dX11_ofOne_62 rfl rfl ?_
        refine a_getP fd_X11_160_X7 fd_X11_160_X3 fd_X11_160_X4 (ciK_P 0) rfl 66 dX11_ofOne_63 rfl (by repeat (first | assumption | (refine rg_ne (by first | decide | omega) ?_) | apply rg_eq | refine rg_fr (by assumption) (by first | decide | (simp; omega)) ?_)) rfl ?_
        exact a_ireturn dX11_ofOne_66 rfl rfl (Nat.le_of_ble_eq_true rfl) (Nat.le_of_ble_eq_true rfl) ⟨by rw [ea]; repeat (first | rfl | rw [if_pos (by omega)] | rw [if_neg (by omega)]), q, fun _ _ _ => rfl⟩
      · refine a_tableIn 67 dX11_ofOne_13 (by rw [w_13]; decide) (by rw [w_13]; decide) (by rw [w_13]; rfl) (by decide) ?_
        refine a_aload_n 68 dX11_ofOne_67 rfl rfl ?_
        refine a_getP fd_X11_163_X7 fd_X11_163_X3 fd_X11_163_X4 (ciK_P 0) rfl 71 dX11_ofOne_68 rfl (by repeat (first | assumption | (refine rg_ne (by first | decide | omega) ?_) | apply rg_eq | refine rg_fr (by assumption) (by first | decide | (simp; omega)) ?_)) rfl ?_
        exact a_ireturn dX11_ofOne_71 rfl rfl (Nat.le_of_ble_eq_true rfl) (Nat.le_of_ble_eq_true rfl) ⟨by rw [ea]; repeat (first | rfl | rw [if_pos (by omega)] | rw [if_neg (by omega)]), q, fun _ _ _ => rfl⟩
      · refine a_tableIn 72 dX11_ofOne_13 (by rw [w_13]; decide) (by rw [w_13]; decide) (by rw [w_13]; rfl) (by decide) ?_
        refine a_aload_n 73 dX11_ofOne_72 rfl rfl ?_
        refine a_aload_n 74 dX11_ofOne_73 rfl rfl ?_
        refine a_callV ok_X11_seenBy ln_X11_166 in_X11_seenBy rfl 77 dX11_ofOne_74 rfl (hseen) (by repeat (first | assumption | (refine rg_ne (by first | decide | omega) ?_) | apply rg_eq | refine rg_fr (by assumption) (by first | decide | (simp; omega)) ?_)) rfl rfl rfl ⟨(Nat.le_of_ble_eq_true rfl), (Nat.le_of_ble_eq_true rfl)⟩ (Nat.le_of_ble_eq_true rfl) ⟨(Nat.le_of_ble_eq_true rfl), (Nat.le_of_ble_eq_true rfl)⟩ ?_
        rintro _ _ ⟨rfl, rfl⟩
        exact a_ireturn dX11_ofOne_77 rfl rfl (Nat.le_of_ble_eq_true rfl) (Nat.le_of_ble_eq_true rfl) ⟨by rw [ea]; repeat (first | rfl | rw [if_pos (by omega)] | rw [if_neg (by omega)]), q, fun _ _ _ => rfl⟩
      · refine a_tableIn 78 dX11_ofOne_13 (by rw [w_13]; decide) (by rw [w_13]; decide) (by rw [w_13]; rfl) (by decide) ?_
        refine a_aload_n 79 dX11_ofOne_78 rfl rfl ?_
        refine a_aload_n 80 dX11_ofOne_79 rfl rfl ?_
        refine a_callV ok_X11_heardBy ln_X11_170 in_X11_heardBy rfl 83 dX11_ofOne_80 rfl (hheard) (by repeat (first | assumption | (refine rg_ne (by first | decide | omega) ?_) | apply rg_eq | refine rg_fr (by assumption) (by first | decide | (simp; omega)) ?_)) rfl rfl rfl ⟨(Nat.le_of_ble_eq_true rfl), (Nat.le_of_ble_eq_true rfl)⟩ (Nat.le_of_ble_eq_true rfl) ⟨(Nat.le_of_ble_eq_true rfl), (Nat.le_of_ble_eq_true rfl)⟩ ?_
        rintro _ _ ⟨rfl, rfl⟩
        exact a_ireturn dX11_ofOne_83 rfl rfl (Nat.le_of_ble_eq_true rfl) (Nat.le_of_ble_eq_true rfl) ⟨by rw [ea]; repeat (first | rfl | rw [if_pos (by omega)] | rw [if_neg (by omega)]), q, fun _ _ _ => rfl⟩
      · refine a_tableOut 84 dX11_ofOne_13 w_13 (by decide) ?_
        refine a_bipush (-2) 86 dX11_ofOne_84 rfl (by decide) ?_
        exact a_ireturn dX11_ofOne_86 rfl rfl (Nat.le_of_ble_eq_true rfl) (Nat.le_of_ble_eq_true rfl) ⟨by rw [ea]; repeat (first | rfl | rw [if_pos (by omega)] | rw [if_neg (by omega)]), q, fun _ _ _ => rfl⟩
    · rw [e2] at hpc ea
      have hpc2 : h[T.pa x]? = some (pc 3 (nI x) (nI (T.sl x)) (nI (T.ki x)) (nI (T.se x))) := hpc
      refine rM_start (by decide) (Nat.le_of_ble_eq_true rfl) ?_
      refine a_aload_n 1 dX11_ofOne_0 rfl rfl ?_
      refine a_iload_n 2 dX11_ofOne_1 rfl rfl ?_
      refine a_callV ok_X11_personAt ln_X11_152 in_X11_personAt rfl 5 dX11_ofOne_2 rfl (hP) (by repeat (first | assumption | (refine rg_ne (by first | decide | omega) ?_) | apply rg_eq | refine rg_fr (by assumption) (by first | decide | (simp; omega)) ?_)) rfl rfl rfl ⟨(Nat.le_of_ble_eq_true rfl), (Nat.le_of_ble_eq_true rfl)⟩ (Nat.le_of_ble_eq_true rfl) ⟨(Nat.le_of_ble_eq_true rfl), (Nat.le_of_ble_eq_true rfl)⟩ ?_
      rintro _ _ ⟨rfl, rfl⟩
      refine a_astore_n 6 dX11_ofOne_5 rfl (by decide) ?_
      refine a_aload_n 7 dX11_ofOne_6 rfl rfl ?_
      refine a_ifnonnull 12 dX11_ofOne_7 (by decide) ?_
      refine a_iload_n 13 dX11_ofOne_12 rfl rfl ?_
      rcases (show (d).toInt = 0 ∨ (d).toInt = 1 ∨ (d).toInt = 2 ∨ (d).toInt = 3 ∨ (d).toInt = 4 ∨ (d).toInt = 5 ∨ ((d).toInt < 0 ∨ 5 < (d).toInt) by omega) with w_13 | w_13 | w_13 | w_13 | w_13 | w_13 | w_13
      · refine a_tableIn 52 dX11_ofOne_13 (by rw [w_13]; decide) (by rw [w_13]; decide) (by rw [w_13]; rfl) (by decide) ?_
        refine a_aload_n 53 dX11_ofOne_52 rfl rfl ?_
        refine a_callU ok_X3_kind cu_X11_156_X3 rfl 56 dX11_ofOne_53 rfl (k_X3_kind) (by repeat (first | assumption | (refine rg_ne (by first | decide | omega) ?_) | apply rg_eq | refine rg_fr (by assumption) (by first | decide | (simp; omega)) ?_)) rfl rfl rfl ⟨(Nat.le_of_ble_eq_true rfl), (Nat.le_of_ble_eq_true rfl)⟩ (Nat.le_of_ble_eq_true rfl) ⟨(Nat.le_of_ble_eq_true rfl), (Nat.le_of_ble_eq_true rfl)⟩ ?_
        rintro _ _ ⟨rfl, rfl⟩
        exact a_ireturn dX11_ofOne_56 rfl rfl (Nat.le_of_ble_eq_true rfl) (Nat.le_of_ble_eq_true rfl) ⟨by rw [ea]; repeat (first | rfl | rw [if_pos (by omega)] | rw [if_neg (by omega)]), q, fun _ _ _ => rfl⟩
      · refine a_tableIn 57 dX11_ofOne_13 (by rw [w_13]; decide) (by rw [w_13]; decide) (by rw [w_13]; rfl) (by decide) ?_
        refine a_aload_n 58 dX11_ofOne_57 rfl rfl ?_
        refine a_getP fd_X11_145_X7 fd_X11_145_X3 fd_X11_145_X4 (ciK_P 1) rfl 61 dX11_ofOne_58 rfl (by repeat (first | assumption | (refine rg_ne (by first | decide | omega) ?_) | apply rg_eq | refine rg_fr (by assumption) (by first | decide | (simp; omega)) ?_)) rfl ?_
        exact a_ireturn dX11_ofOne_61 rfl rfl (Nat.le_of_ble_eq_true rfl) (Nat.le_of_ble_eq_true rfl) ⟨by rw [ea]; repeat (first | rfl | rw [if_pos (by omega)] | rw [if_neg (by omega)]), q, fun _ _ _ => rfl⟩
      · refine a_tableIn 62 dX11_ofOne_13 (by rw [w_13]; decide) (by rw [w_13]; decide) (by rw [w_13]; rfl) (by decide) ?_
        refine a_aload_n 63 dX11_ofOne_62 rfl rfl ?_
        refine a_getP fd_X11_160_X7 fd_X11_160_X3 fd_X11_160_X4 (ciK_P 1) rfl 66 dX11_ofOne_63 rfl (by repeat (first | assumption | (refine rg_ne (by first | decide | omega) ?_) | apply rg_eq | refine rg_fr (by assumption) (by first | decide | (simp; omega)) ?_)) rfl ?_
        exact a_ireturn dX11_ofOne_66 rfl rfl (Nat.le_of_ble_eq_true rfl) (Nat.le_of_ble_eq_true rfl) ⟨by rw [ea]; repeat (first | rfl | rw [if_pos (by omega)] | rw [if_neg (by omega)]), q, fun _ _ _ => rfl⟩
      · refine a_tableIn 67 dX11_ofOne_13 (by rw [w_13]; decide) (by rw [w_13]; decide) (by rw [w_13]; rfl) (by decide) ?_
        refine a_aload_n 68 dX11_ofOne_67 rfl rfl ?_
        refine a_getP fd_X11_163_X7 fd_X11_163_X3 fd_X11_163_X4 (ciK_P 1) rfl 71 dX11_ofOne_68 rfl (by repeat (first | assumption | (refine rg_ne (by first | decide | omega) ?_) | apply rg_eq | refine rg_fr (by assumption) (by first | decide | (simp; omega)) ?_)) rfl ?_
        exact a_ireturn dX11_ofOne_71 rfl rfl (Nat.le_of_ble_eq_true rfl) (Nat.le_of_ble_eq_true rfl) ⟨by rw [ea]; repeat (first | rfl | rw [if_pos (by omega)] | rw [if_neg (by omega)]), q, fun _ _ _ => rfl⟩
      · refine a_tableIn 72 dX11_ofOne_13 (by rw [w_13]; decide) (by rw [w_13]; decide) (by rw [w_13]; rfl) (by decide) ?_
        refine a_aload_n 73 dX11_ofOne_72 rfl rfl ?_
        refine a_aload_n 74 dX11_ofOne_73 rfl rfl ?_
        refine a_callV ok_X11_seenBy ln_X11_166 in_X11_seenBy rfl 77 dX11_ofOne_74 rfl (hseen) (by repeat (first | assumption | (refine rg_ne (by first | decide | omega) ?_) | apply rg_eq | refine rg_fr (by assumption) (by first | decide | (simp; omega)) ?_)) rfl rfl rfl ⟨(Nat.le_of_ble_eq_true rfl), (Nat.le_of_ble_eq_true rfl)⟩ (Nat.le_of_ble_eq_true rfl) ⟨(Nat.le_of_ble_eq_true rfl), (Nat.le_of_ble_eq_true rfl)⟩ ?_
        rintro _ _ ⟨rfl, rfl⟩
        exact a_ireturn dX11_ofOne_77 rfl rfl (Nat.le_of_ble_eq_true rfl) (Nat.le_of_ble_eq_true rfl) ⟨by rw [ea]; repeat (first | rfl | rw [if_pos (by omega)] | rw [if_neg (by omega)]), q, fun _ _ _ => rfl⟩
      · refine a_tableIn 78 dX11_ofOne_13 (by rw [w_13]; decide) (by rw [w_13]; decide) (by rw [w_13]; rfl) (by decide) ?_
        refine a_aload_n 79 dX11_ofOne_78 rfl rfl ?_
        refine a_aload_n 80 dX11_ofOne_79 rfl rfl ?_
        refine a_callV ok_X11_heardBy ln_X11_170 in_X11_heardBy rfl 83 dX11_ofOne_80 rfl (hheard) (by repeat (first | assumption | (refine rg_ne (by first | decide | omega) ?_) | apply rg_eq | refine rg_fr (by assumption) (by first | decide | (simp; omega)) ?_)) rfl rfl rfl ⟨(Nat.le_of_ble_eq_true rfl), (Nat.le_of_ble_eq_true rfl)⟩ (Nat.le_of_ble_eq_true rfl) ⟨(Nat.le_of_ble_eq_true rfl), (Nat.le_of_ble_eq_true rfl)⟩ ?_
        rintro _ _ ⟨rfl, rfl⟩
        exact a_ireturn dX11_ofOne_83 rfl rfl (Nat.le_of_ble_eq_true rfl) (Nat.le_of_ble_eq_true rfl) ⟨by rw [ea]; repeat (first | rfl | rw [if_pos (by omega)] | rw [if_neg (by omega)]), q, fun _ _ _ => rfl⟩
      · refine a_tableOut 84 dX11_ofOne_13 w_13 (by decide) ?_
        refine a_bipush (-2) 86 dX11_ofOne_84 rfl (by decide) ?_
        exact a_ireturn dX11_ofOne_86 rfl rfl (Nat.le_of_ble_eq_true rfl) (Nat.le_of_ble_eq_true rfl) ⟨by rw [ea]; repeat (first | rfl | rw [if_pos (by omega)] | rw [if_neg (by omega)]), q, fun _ _ _ => rfl⟩
    · rw [e2] at hpc ea
      have hpc2 : h[T.pa x]? = some (pc 4 (nI x) (nI (T.sl x)) (nI (T.ki x)) (nI (T.se x))) := hpc
      refine rM_start (by decide) (Nat.le_of_ble_eq_true rfl) ?_
      refine a_aload_n 1 dX11_ofOne_0 rfl rfl ?_
      refine a_iload_n 2 dX11_ofOne_1 rfl rfl ?_
      refine a_callV ok_X11_personAt ln_X11_152 in_X11_personAt rfl 5 dX11_ofOne_2 rfl (hP) (by repeat (first | assumption | (refine rg_ne (by first | decide | omega) ?_) | apply rg_eq | refine rg_fr (by assumption) (by first | decide | (simp; omega)) ?_)) rfl rfl rfl ⟨(Nat.le_of_ble_eq_true rfl), (Nat.le_of_ble_eq_true rfl)⟩ (Nat.le_of_ble_eq_true rfl) ⟨(Nat.le_of_ble_eq_true rfl), (Nat.le_of_ble_eq_true rfl)⟩ ?_
      rintro _ _ ⟨rfl, rfl⟩
      refine a_astore_n 6 dX11_ofOne_5 rfl (by decide) ?_
      refine a_aload_n 7 dX11_ofOne_6 rfl rfl ?_
      refine a_ifnonnull 12 dX11_ofOne_7 (by decide) ?_
      refine a_iload_n 13 dX11_ofOne_12 rfl rfl ?_
      rcases (show (d).toInt = 0 ∨ (d).toInt = 1 ∨ (d).toInt = 2 ∨ (d).toInt = 3 ∨ (d).toInt = 4 ∨ (d).toInt = 5 ∨ ((d).toInt < 0 ∨ 5 < (d).toInt) by omega) with w_13 | w_13 | w_13 | w_13 | w_13 | w_13 | w_13
      · refine a_tableIn 52 dX11_ofOne_13 (by rw [w_13]; decide) (by rw [w_13]; decide) (by rw [w_13]; rfl) (by decide) ?_
        refine a_aload_n 53 dX11_ofOne_52 rfl rfl ?_
        refine a_callU ok_X4_kind cu_X11_156_X4 rfl 56 dX11_ofOne_53 rfl (k_X4_kind) (by repeat (first | assumption | (refine rg_ne (by first | decide | omega) ?_) | apply rg_eq | refine rg_fr (by assumption) (by first | decide | (simp; omega)) ?_)) rfl rfl rfl ⟨(Nat.le_of_ble_eq_true rfl), (Nat.le_of_ble_eq_true rfl)⟩ (Nat.le_of_ble_eq_true rfl) ⟨(Nat.le_of_ble_eq_true rfl), (Nat.le_of_ble_eq_true rfl)⟩ ?_
        rintro _ _ ⟨rfl, rfl⟩
        exact a_ireturn dX11_ofOne_56 rfl rfl (Nat.le_of_ble_eq_true rfl) (Nat.le_of_ble_eq_true rfl) ⟨by rw [ea]; repeat (first | rfl | rw [if_pos (by omega)] | rw [if_neg (by omega)]), q, fun _ _ _ => rfl⟩
      · refine a_tableIn 57 dX11_ofOne_13 (by rw [w_13]; decide) (by rw [w_13]; decide) (by rw [w_13]; rfl) (by decide) ?_
        refine a_aload_n 58 dX11_ofOne_57 rfl rfl ?_
        refine a_getP fd_X11_145_X7 fd_X11_145_X3 fd_X11_145_X4 (ciK_P 2) rfl 61 dX11_ofOne_58 rfl (by repeat (first | assumption | (refine rg_ne (by first | decide | omega) ?_) | apply rg_eq | refine rg_fr (by assumption) (by first | decide | (simp; omega)) ?_)) rfl ?_
        exact a_ireturn dX11_ofOne_61 rfl rfl (Nat.le_of_ble_eq_true rfl) (Nat.le_of_ble_eq_true rfl) ⟨by rw [ea]; repeat (first | rfl | rw [if_pos (by omega)] | rw [if_neg (by omega)]), q, fun _ _ _ => rfl⟩
      · refine a_tableIn 62 dX11_ofOne_13 (by rw [w_13]; decide) (by rw [w_13]; decide) (by rw [w_13]; rfl) (by decide) ?_
        refine a_aload_n 63 dX11_ofOne_62 rfl rfl ?_
        refine a_getP fd_X11_160_X7 fd_X11_160_X3 fd_X11_160_X4 (ciK_P 2) rfl 66 dX11_ofOne_63 rfl (by repeat (first | assumption | (refine rg_ne (by first | decide | omega) ?_) | apply rg_eq | refine rg_fr (by assumption) (by first | decide | (simp; omega)) ?_)) rfl ?_
        exact a_ireturn dX11_ofOne_66 rfl rfl (Nat.le_of_ble_eq_true rfl) (Nat.le_of_ble_eq_true rfl) ⟨by rw [ea]; repeat (first | rfl | rw [if_pos (by omega)] | rw [if_neg (by omega)]), q, fun _ _ _ => rfl⟩
      · refine a_tableIn 67 dX11_ofOne_13 (by rw [w_13]; decide) (by rw [w_13]; decide) (by rw [w_13]; rfl) (by decide) ?_
        refine a_aload_n 68 dX11_ofOne_67 rfl rfl ?_
        refine a_getP fd_X11_163_X7 fd_X11_163_X3 fd_X11_163_X4 (ciK_P 2) rfl 71 dX11_ofOne_68 rfl (by repeat (first | assumption | (refine rg_ne (by first | decide | omega) ?_) | apply rg_eq | refine rg_fr (by assumption) (by first | decide | (simp; omega)) ?_)) rfl ?_
        exact a_ireturn dX11_ofOne_71 rfl rfl (Nat.le_of_ble_eq_true rfl) (Nat.le_of_ble_eq_true rfl) ⟨by rw [ea]; repeat (first | rfl | rw [if_pos (by omega)] | rw [if_neg (by omega)]), q, fun _ _ _ => rfl⟩
      · refine a_tableIn 72 dX11_ofOne_13 (by rw [w_13]; decide) (by rw [w_13]; decide) (by rw [w_13]; rfl) (by decide) ?_
        refine a_aload_n 73 dX11_ofOne_72 rfl rfl ?_
        refine a_aload_n 74 dX11_ofOne_73 rfl rfl ?_
        refine a_callV ok_X11_seenBy ln_X11_166 in_X11_seenBy rfl 77 dX11_ofOne_74 rfl (hseen) (by repeat (first | assumption | (refine rg_ne (by first | decide | omega) ?_) | apply rg_eq | refine rg_fr (by assumption) (by first | decide | (simp; omega)) ?_)) rfl rfl rfl ⟨(Nat.le_of_ble_eq_true rfl), (Nat.le_of_ble_eq_true rfl)⟩ (Nat.le_of_ble_eq_true rfl) ⟨(Nat.le_of_ble_eq_true rfl), (Nat.le_of_ble_eq_true rfl)⟩ ?_
        rintro _ _ ⟨rfl, rfl⟩
        exact a_ireturn dX11_ofOne_77 rfl rfl (Nat.le_of_ble_eq_true rfl) (Nat.le_of_ble_eq_true rfl) ⟨by rw [ea]; repeat (first | rfl | rw [if_pos (by omega)] | rw [if_neg (by omega)]), q, fun _ _ _ => rfl⟩
      · refine a_tableIn 78 dX11_ofOne_13 (by rw [w_13]; decide) (by rw [w_13]; decide) (by rw [w_13]; rfl) (by decide) ?_
        refine a_aload_n 79 dX11_ofOne_78 rfl rfl ?_
        refine a_aload_n 80 dX11_ofOne_79 rfl rfl ?_
        refine a_callV ok_X11_heardBy ln_X11_170 in_X11_heardBy rfl 83 dX11_ofOne_80 rfl (hheard) (by repeat (first | assumption | (refine rg_ne (by first | decide | omega) ?_) | apply rg_eq | refine rg_fr (by assumption) (by first | decide | (simp; omega)) ?_)) rfl rfl rfl ⟨(Nat.le_of_ble_eq_true rfl), (Nat.le_of_ble_eq_true rfl)⟩ (Nat.le_of_ble_eq_true rfl) ⟨(Nat.le_of_ble_eq_true rfl), (Nat.le_of_ble_eq_true rfl)⟩ ?_
        rintro _ _ ⟨rfl, rfl⟩
        exact a_ireturn dX11_ofOne_83 rfl rfl (Nat.le_of_ble_eq_true rfl) (Nat.le_of_ble_eq_true rfl) ⟨by rw [ea]; repeat (first | rfl | rw [if_pos (by omega)] | rw [if_neg (by omega)]), q, fun _ _ _ => rfl⟩
      · refine a_tableOut 84 dX11_ofOne_13 w_13 (by decide) ?_
        refine a_bipush (-2) 86 dX11_ofOne_84 rfl (by decide) ?_
        exact a_ireturn dX11_ofOne_86 rfl rfl (Nat.le_of_ble_eq_true rfl) (Nat.le_of_ble_eq_true rfl) ⟨by rw [ea]; repeat (first | rfl | rw [if_pos (by omega)] | rw [if_neg (by omega)]), q, fun _ _ _ => rfl⟩
set_option maxRecDepth 100000 in
set_option maxHeartbeats 400000 in
theorem c_tell (q : cAll G h T) (o : T.ok) (c : Int32) : rM l G 12 mX11_tell 0 0 [.ref (gN G + 0), .int c] h (fun h' v => v = some (.int (aTell T c)) ∧ cAll G h' (setFT T T.fa (tTell T c)) ∧ kp h h' cL) := by
  have hm := o.m12
  have hy := q.1.1
  rcases oT_cases (n := T.m) (by omega) c with ⟨e, hc⟩ | ⟨x, hx, rfl, e⟩
  · have ea : aTell T c = -1 := by unfold aTell; rw [e]
    have et : tTell T c = T.tr := by unfold tTell; rw [e]
    refine rM_start (by decide) (Nat.le_of_ble_eq_true rfl) ?_
    refine a_aload_n 1 dX11_tell_0 rfl rfl ?_
    refine a_iload_n 2 dX11_tell_1 rfl rfl ?_
    refine a_callV ok_X11_personAt ln_X11_152 in_X11_personAt rfl 5 dX11_tell_2 rfl (c_personN q.1 hc) (by repeat (first | assumption | (refine rg_ne (by first | decide | omega) ?_) | apply rg_eq | refine rg_fr (by assumption) (by first | decide | (simp; omega)) ?_)) rfl rfl rfl ⟨(Nat.le_of_ble_eq_true rfl), (Nat.le_of_ble_eq_true rfl)⟩ (Nat.le_of_ble_eq_true rfl) ⟨(Nat.le_of_ble_eq_true rfl), (Nat.le_of_ble_eq_true rfl)⟩ ?_
    rintro _ _ ⟨rfl, rfl⟩
    refine a_astoreN_n 6 dX11_tell_5 rfl (by decide) ?_
    refine a_aloadN_n 7 dX11_tell_6 rfl rfl ?_
    refine a_ifnonnullN 10 dX11_tell_7 rfl ?_
    refine a_iconst (-1) 11 dX11_tell_10 rfl (by decide) ?_
    refine a_goto 19 dX11_tell_11 (by decide) ?_
    exact a_ireturn dX11_tell_19 rfl rfl (Nat.le_of_ble_eq_true rfl) (Nat.le_of_ble_eq_true rfl) ⟨by rw [ea], by rw [et]; exact q, fun _ _ _ => rfl⟩
  · have ea : aTell T (nI x) = if T.kd x = 0 then 9 - nI (T.sl x) else if T.kd x = 1 then 9 - nI (T.sl x) + 100 else 9 - nI (T.sl x) + 100 + (9 - nI (T.sl x)) := by unfold aTell; rw [e]
    have et : tTell T (nI x) = if T.kd x = 0 then 31 * T.tr + 1 else if T.kd x = 1 then 31 * (31 * T.tr + 2) + 1 else 31 * (31 * (31 * (31 * T.tr + 3) + 2) + 1) + 1 := by unfold tTell; rw [e]
    have hpc := c_at q.1 hx
    have h61 := pa_61 q.1 hx
    have hP := c_person (l := l) q.1 o hx
    rcases kd_cases o hx with e2 | e2 | e2
    · rw [e2] at hpc ea et
      have hpc2 : h[T.pa x]? = some (pc 7 (nI x) (nI (T.sl x)) (nI (T.ki x)) (nI (T.se x))) := hpc
      refine rM_start (by decide) (Nat.le_of_ble_eq_true rfl) ?_
      refine a_aload_n 1 dX11_tell_0 rfl rfl ?_
      refine a_iload_n 2 dX11_tell_1 rfl rfl ?_
      refine a_callV ok_X11_personAt ln_X11_152 in_X11_personAt rfl 5 dX11_tell_2 rfl (hP) (by repeat (first | assumption | (refine rg_ne (by first | decide | omega) ?_) | apply rg_eq | refine rg_fr (by assumption) (by first | decide | (simp; omega)) ?_)) rfl rfl rfl ⟨(Nat.le_of_ble_eq_true rfl), (Nat.le_of_ble_eq_true rfl)⟩ (Nat.le_of_ble_eq_true rfl) ⟨(Nat.le_of_ble_eq_true rfl), (Nat.le_of_ble_eq_true rfl)⟩ ?_
      rintro _ _ ⟨rfl, rfl⟩
      refine a_astore_n 6 dX11_tell_5 rfl (by decide) ?_
      refine a_aload_n 7 dX11_tell_6 rfl rfl ?_
      refine a_ifnonnull 14 dX11_tell_7 (by decide) ?_
      refine a_aload_n 15 dX11_tell_14 rfl rfl ?_
      refine a_aload_n 16 dX11_tell_15 rfl rfl ?_
      refine a_callV ok_X7_tells ln_X11_355 in_X7_tells rfl 19 dX11_tell_16 rfl (k_X7_tells hpc2 (by omega) hy) (by repeat (first | assumption | (refine rg_ne (by first | decide | omega) ?_) | apply rg_eq | refine rg_fr (by assumption) (by first | decide | (simp; omega)) ?_)) rfl rfl rfl ⟨(Nat.le_of_ble_eq_true rfl), (Nat.le_of_ble_eq_true rfl)⟩ (Nat.le_of_ble_eq_true rfl) ⟨(Nat.le_of_ble_eq_true rfl), (Nat.le_of_ble_eq_true rfl)⟩ ?_
      rintro h1 _ ⟨rfl, hy1, hf1⟩
      exact a_ireturn dX11_tell_19 rfl rfl (Nat.le_of_ble_eq_true rfl) (Nat.le_of_ble_eq_true rfl) ⟨by rw [ea]; rfl, by rw [et]; exact all_0 q hy1 (kp_fr hf1), kp_mono (kp_fr hf1) (by decide)⟩
    · rw [e2] at hpc ea et
      have hpc2 : h[T.pa x]? = some (pc 3 (nI x) (nI (T.sl x)) (nI (T.ki x)) (nI (T.se x))) := hpc
      refine rM_start (by decide) (Nat.le_of_ble_eq_true rfl) ?_
      refine a_aload_n 1 dX11_tell_0 rfl rfl ?_
      refine a_iload_n 2 dX11_tell_1 rfl rfl ?_
      refine a_callV ok_X11_personAt ln_X11_152 in_X11_personAt rfl 5 dX11_tell_2 rfl (hP) (by repeat (first | assumption | (refine rg_ne (by first | decide | omega) ?_) | apply rg_eq | refine rg_fr (by assumption) (by first | decide | (simp; omega)) ?_)) rfl rfl rfl ⟨(Nat.le_of_ble_eq_true rfl), (Nat.le_of_ble_eq_true rfl)⟩ (Nat.le_of_ble_eq_true rfl) ⟨(Nat.le_of_ble_eq_true rfl), (Nat.le_of_ble_eq_true rfl)⟩ ?_
      rintro _ _ ⟨rfl, rfl⟩
      refine a_astore_n 6 dX11_tell_5 rfl (by decide) ?_
      refine a_aload_n 7 dX11_tell_6 rfl rfl ?_
      refine a_ifnonnull 14 dX11_tell_7 (by decide) ?_
      refine a_aload_n 15 dX11_tell_14 rfl rfl ?_
      refine a_aload_n 16 dX11_tell_15 rfl rfl ?_
      refine a_callU ok_X3_tells cu_X11_355_X3 rfl 19 dX11_tell_16 rfl (k_X3_tells hpc2 (by omega) hy (Or.inl rfl)) (by repeat (first | assumption | (refine rg_ne (by first | decide | omega) ?_) | apply rg_eq | refine rg_fr (by assumption) (by first | decide | (simp; omega)) ?_)) rfl rfl rfl ⟨(Nat.le_of_ble_eq_true rfl), (Nat.le_of_ble_eq_true rfl)⟩ (Nat.le_of_ble_eq_true rfl) ⟨(Nat.le_of_ble_eq_true rfl), (Nat.le_of_ble_eq_true rfl)⟩ ?_
      rintro h1 _ ⟨rfl, hy1, hf1⟩
      exact a_ireturn dX11_tell_19 rfl rfl (Nat.le_of_ble_eq_true rfl) (Nat.le_of_ble_eq_true rfl) ⟨by rw [ea]; rfl, by rw [et]; exact all_0 q hy1 (kp_fr hf1), kp_mono (kp_fr hf1) (by decide)⟩
    · rw [e2] at hpc ea et
      have hpc2 : h[T.pa x]? = some (pc 4 (nI x) (nI (T.sl x)) (nI (T.ki x)) (nI (T.se x))) := hpc
      refine rM_start (by decide) (Nat.le_of_ble_eq_true rfl) ?_
      refine a_aload_n 1 dX11_tell_0 rfl rfl ?_
      refine a_iload_n 2 dX11_tell_1 rfl rfl ?_
      refine a_callV ok_X11_personAt ln_X11_152 in_X11_personAt rfl 5 dX11_tell_2 rfl (hP) (by repeat (first | assumption | (refine rg_ne (by first | decide | omega) ?_) | apply rg_eq | refine rg_fr (by assumption) (by first | decide | (simp; omega)) ?_)) rfl rfl rfl ⟨(Nat.le_of_ble_eq_true rfl), (Nat.le_of_ble_eq_true rfl)⟩ (Nat.le_of_ble_eq_true rfl) ⟨(Nat.le_of_ble_eq_true rfl), (Nat.le_of_ble_eq_true rfl)⟩ ?_
      rintro _ _ ⟨rfl, rfl⟩
      refine a_astore_n 6 dX11_tell_5 rfl (by decide) ?_
      refine a_aload_n 7 dX11_tell_6 rfl rfl ?_
      refine a_ifnonnull 14 dX11_tell_7 (by decide) ?_
      refine a_aload_n 15 dX11_tell_14 rfl rfl ?_
      refine a_aload_n 16 dX11_tell_15 rfl rfl ?_
      refine a_callU ok_X4_tells cu_X11_355_X4 rfl 19 dX11_tell_16 rfl (k_X4_tells hpc2 (by omega) hy) (by repeat (first | assumption | (refine rg_ne (by first | decide | omega) ?_) | apply rg_eq | refine rg_fr (by assumption) (by first | decide | (simp; omega)) ?_)) rfl rfl rfl ⟨(Nat.le_of_ble_eq_true rfl), (Nat.le_of_ble_eq_true rfl)⟩ (Nat.le_of_ble_eq_true rfl) ⟨(Nat.le_of_ble_eq_true rfl), (Nat.le_of_ble_eq_true rfl)⟩ ?_
      rintro h1 _ ⟨rfl, hy1, hf1⟩
      exact a_ireturn dX11_tell_19 rfl rfl (Nat.le_of_ble_eq_true rfl) (Nat.le_of_ble_eq_true rfl) ⟨by rw [ea]; rfl, by rw [et]; exact all_0 q hy1 (kp_fr hf1), kp_mono (kp_fr hf1) (by decide)⟩
set_option maxRecDepth 100000 in
set_option maxHeartbeats 400000 in
theorem c_wake (q : cAll G h T) (o : T.ok) (c : Int32) : rM l G 12 mX11_wake 0 0 [.ref (gN G + 0), .int c] h (fun h' v => v = some (.int (aWake T c)) ∧ cAll G h' (setFT T T.fa (tWake T c)) ∧ kp h h' cL) := by
  have hm := o.m12
  have hy := q.1.1
  rcases oT_cases (n := T.m) (by omega) c with ⟨e, hc⟩ | ⟨x, hx, rfl, e⟩
  · have ea : aWake T c = -1 := by unfold aWake; rw [e]
    have et : tWake T c = T.tr := by unfold tWake; rw [e]
    refine rM_start (by decide) (Nat.le_of_ble_eq_true rfl) ?_
    refine a_aload_n 1 dX11_wake_0 rfl rfl ?_
    refine a_iload_n 2 dX11_wake_1 rfl rfl ?_
    refine a_callV ok_X11_personAt ln_X11_152 in_X11_personAt rfl 5 dX11_wake_2 rfl (c_personN q.1 hc) (by repeat (first | assumption | (refine rg_ne (by first | decide | omega) ?_) | apply rg_eq | refine rg_fr (by assumption) (by first | decide | (simp; omega)) ?_)) rfl rfl rfl ⟨(Nat.le_of_ble_eq_true rfl), (Nat.le_of_ble_eq_true rfl)⟩ (Nat.le_of_ble_eq_true rfl) ⟨(Nat.le_of_ble_eq_true rfl), (Nat.le_of_ble_eq_true rfl)⟩ ?_
    rintro _ _ ⟨rfl, rfl⟩
    refine a_astoreN_n 6 dX11_wake_5 rfl (by decide) ?_
    refine a_aloadN_n 7 dX11_wake_6 rfl rfl ?_
    refine a_ifnonnullN 10 dX11_wake_7 rfl ?_
    refine a_iconst (-1) 11 dX11_wake_10 rfl (by decide) ?_
    refine a_goto 19 dX11_wake_11 (by decide) ?_
    exact a_ireturn dX11_wake_19 rfl rfl (Nat.le_of_ble_eq_true rfl) (Nat.le_of_ble_eq_true rfl) ⟨by rw [ea], by rw [et]; exact q, fun _ _ _ => rfl⟩
  · have ea : aWake T (nI x) = if T.kd x = 2 then 80 else nI x := by unfold aWake; rw [e]
    have et : tWake T (nI x) = if T.kd x = 2 then 31 * T.tr + 5 else 31 * T.tr + 4 := by unfold tWake; rw [e]
    have hpc := c_at q.1 hx
    have h61 := pa_61 q.1 hx
    have hP := c_person (l := l) q.1 o hx
    rcases kd_cases o hx with e2 | e2 | e2
    · rw [e2] at hpc ea et
      have hpc2 : h[T.pa x]? = some (pc 7 (nI x) (nI (T.sl x)) (nI (T.ki x)) (nI (T.se x))) := hpc
      refine rM_start (by decide) (Nat.le_of_ble_eq_true rfl) ?_
      refine a_aload_n 1 dX11_wake_0 rfl rfl ?_
      refine a_iload_n 2 dX11_wake_1 rfl rfl ?_
      refine a_callV ok_X11_personAt ln_X11_152 in_X11_personAt rfl 5 dX11_wake_2 rfl (hP) (by repeat (first | assumption | (refine rg_ne (by first | decide | omega) ?_) | apply rg_eq | refine rg_fr (by assumption) (by first | decide | (simp; omega)) ?_)) rfl rfl rfl ⟨(Nat.le_of_ble_eq_true rfl), (Nat.le_of_ble_eq_true rfl)⟩ (Nat.le_of_ble_eq_true rfl) ⟨(Nat.le_of_ble_eq_true rfl), (Nat.le_of_ble_eq_true rfl)⟩ ?_
      rintro _ _ ⟨rfl, rfl⟩
      refine a_astore_n 6 dX11_wake_5 rfl (by decide) ?_
      refine a_aload_n 7 dX11_wake_6 rfl rfl ?_
      refine a_ifnonnull 14 dX11_wake_7 (by decide) ?_
      refine a_aload_n 15 dX11_wake_14 rfl rfl ?_
      refine a_aload_n 16 dX11_wake_15 rfl rfl ?_
      refine a_callV ok_X7_wakes ln_X11_359 in_X7_wakes rfl 19 dX11_wake_16 rfl (k_X7_wakes_7 hpc2 (by omega) hy) (by repeat (first | assumption | (refine rg_ne (by first | decide | omega) ?_) | apply rg_eq | refine rg_fr (by assumption) (by first | decide | (simp; omega)) ?_)) rfl rfl rfl ⟨(Nat.le_of_ble_eq_true rfl), (Nat.le_of_ble_eq_true rfl)⟩ (Nat.le_of_ble_eq_true rfl) ⟨(Nat.le_of_ble_eq_true rfl), (Nat.le_of_ble_eq_true rfl)⟩ ?_
      rintro h1 _ ⟨rfl, hy1, hf1⟩
      exact a_ireturn dX11_wake_19 rfl rfl (Nat.le_of_ble_eq_true rfl) (Nat.le_of_ble_eq_true rfl) ⟨by rw [ea]; rfl, by rw [et]; exact all_0 q hy1 (kp_fr hf1), kp_mono (kp_fr hf1) (by decide)⟩
    · rw [e2] at hpc ea et
      have hpc2 : h[T.pa x]? = some (pc 3 (nI x) (nI (T.sl x)) (nI (T.ki x)) (nI (T.se x))) := hpc
      refine rM_start (by decide) (Nat.le_of_ble_eq_true rfl) ?_
      refine a_aload_n 1 dX11_wake_0 rfl rfl ?_
      refine a_iload_n 2 dX11_wake_1 rfl rfl ?_
      refine a_callV ok_X11_personAt ln_X11_152 in_X11_personAt rfl 5 dX11_wake_2 rfl (hP) (by repeat (first | assumption | (refine rg_ne (by first | decide | omega) ?_) | apply rg_eq | refine rg_fr (by assumption) (by first | decide | (simp; omega)) ?_)) rfl rfl rfl ⟨(Nat.le_of_ble_eq_true rfl), (Nat.le_of_ble_eq_true rfl)⟩ (Nat.le_of_ble_eq_true rfl) ⟨(Nat.le_of_ble_eq_true rfl), (Nat.le_of_ble_eq_true rfl)⟩ ?_
      rintro _ _ ⟨rfl, rfl⟩
      refine a_astore_n 6 dX11_wake_5 rfl (by decide) ?_
      refine a_aload_n 7 dX11_wake_6 rfl rfl ?_
      refine a_ifnonnull 14 dX11_wake_7 (by decide) ?_
      refine a_aload_n 15 dX11_wake_14 rfl rfl ?_
      refine a_aload_n 16 dX11_wake_15 rfl rfl ?_
      refine a_callV ok_X7_wakes ln_X11_359 in_X3_X7_wakes rfl 19 dX11_wake_16 rfl (k_X7_wakes_3 hpc2 (by omega) hy) (by repeat (first | assumption | (refine rg_ne (by first | decide | omega) ?_) | apply rg_eq | refine rg_fr (by assumption) (by first | decide | (simp; omega)) ?_)) rfl rfl rfl ⟨(Nat.le_of_ble_eq_true rfl), (Nat.le_of_ble_eq_true rfl)⟩ (Nat.le_of_ble_eq_true rfl) ⟨(Nat.le_of_ble_eq_true rfl), (Nat.le_of_ble_eq_true rfl)⟩ ?_
      rintro h1 _ ⟨rfl, hy1, hf1⟩
      exact a_ireturn dX11_wake_19 rfl rfl (Nat.le_of_ble_eq_true rfl) (Nat.le_of_ble_eq_true rfl) ⟨by rw [ea]; rfl, by rw [et]; exact all_0 q hy1 (kp_fr hf1), kp_mono (kp_fr hf1) (by decide)⟩
    · rw [e2] at hpc ea et
      have hpc2 : h[T.pa x]? = some (pc 4 (nI x) (nI (T.sl x)) (nI (T.ki x)) (nI (T.se x))) := hpc
      refine rM_start (by decide) (Nat.le_of_ble_eq_true rfl) ?_
      refine a_aload_n 1 dX11_wake_0 rfl rfl ?_
      refine a_iload_n 2 dX11_wake_1 rfl rfl ?_
      refine a_callV ok_X11_personAt ln_X11_152 in_X11_personAt rfl 5 dX11_wake_2 rfl (hP) (by repeat (first | assumption | (refine rg_ne (by first | decide | omega) ?_) | apply rg_eq | refine rg_fr (by assumption) (by first | decide | (simp; omega)) ?_)) rfl rfl rfl ⟨(Nat.le_of_ble_eq_true rfl), (Nat.le_of_ble_eq_true rfl)⟩ (Nat.le_of_ble_eq_true rfl) ⟨(Nat.le_of_ble_eq_true rfl), (Nat.le_of_ble_eq_true rfl)⟩ ?_
      rintro _ _ ⟨rfl, rfl⟩
      refine a_astore_n 6 dX11_wake_5 rfl (by decide) ?_
      refine a_aload_n 7 dX11_wake_6 rfl rfl ?_
      refine a_ifnonnull 14 dX11_wake_7 (by decide) ?_
      refine a_aload_n 15 dX11_wake_14 rfl rfl ?_
      refine a_aload_n 16 dX11_wake_15 rfl rfl ?_
      refine a_callU ok_X4_wakes cu_X11_359_X4 rfl 19 dX11_wake_16 rfl (k_X4_wakes hy) (by repeat (first | assumption | (refine rg_ne (by first | decide | omega) ?_) | apply rg_eq | refine rg_fr (by assumption) (by first | decide | (simp; omega)) ?_)) rfl rfl rfl ⟨(Nat.le_of_ble_eq_true rfl), (Nat.le_of_ble_eq_true rfl)⟩ (Nat.le_of_ble_eq_true rfl) ⟨(Nat.le_of_ble_eq_true rfl), (Nat.le_of_ble_eq_true rfl)⟩ ?_
      rintro h1 _ ⟨rfl, hy1, hf1⟩
      exact a_ireturn dX11_wake_19 rfl rfl (Nat.le_of_ble_eq_true rfl) (Nat.le_of_ble_eq_true rfl) ⟨by rw [ea]; rfl, by rw [et]; exact all_0 q hy1 (kp_fr hf1), kp_mono (kp_fr hf1) (by decide)⟩
theorem zz_0 {on lc lf mk x : Int32} (hy : h[0]? = some (ytc G on lc lf mk)) : fr h (h.set 0 (ytc G on lc x mk)) [0] := fr_set (fr_refl _ _) (by decide)
set_option maxRecDepth 100000 in
set_option maxHeartbeats 400000 in
theorem c_as (q : cAll G h T) (o : T.ok) (c d : Int32) : rM l G 12 mX11_as 0 0 [.ref (gN G + 0), .int c, .int d] h (fun h' v => v = some (.int (aAs T c d)) ∧ cAll G h' (setFT T (fAs T c d) T.tr) ∧ kp h h' cL) := by
  have hm := o.m12
  have hy := q.1.1
  have q0 : cAll G (h.set 0 (ytc G (nI T.m) (nI T.nl) 0 T.tr)) (setFT T 0 T.tr) := all_0 q (rg_eq hy) (kp_fr (zz_0 hy))
  rcases oT_cases (n := T.m) (by omega) c with ⟨e, hc⟩ | ⟨x, hx, rfl, e⟩
  · have ea : aAs T c d = -1 := by unfold aAs; rw [e]
    have ef : fAs T c d = 0 := by unfold fAs; rw [e]
    refine rM_start (by decide) (Nat.le_of_ble_eq_true rfl) ?_
    refine a_aload_n 1 dX11_as_0 rfl rfl ?_
    refine a_iconst (0) 2 dX11_as_1 rfl (by decide) ?_
    refine a_put fd_X11_268 cl_X11 rfl 5 dX11_as_2 rfl (by repeat (first | assumption | (refine rg_ne (by first | decide | omega) ?_) | apply rg_eq | refine rg_fr (by assumption) (by first | decide | (simp; omega)) ?_)) (Nat.le_of_ble_eq_true rfl) rfl rfl rfl ?_
    refine a_aload_n 6 dX11_as_5 rfl rfl ?_
    refine a_iload_n 7 dX11_as_6 rfl rfl ?_
    refine a_callV ok_X11_personAt ln_X11_152 in_X11_personAt rfl 10 dX11_as_7 rfl (c_personN q0.1 hc) (by repeat (first | assumption | (refine rg_ne (by first | decide | omega) ?_) | apply rg_eq | refine rg_fr (by assumption) (by first | decide | (simp; omega)) ?_)) rfl rfl rfl ⟨(Nat.le_of_ble_eq_true rfl), (Nat.le_of_ble_eq_true rfl)⟩ (Nat.le_of_ble_eq_true rfl) ⟨(Nat.le_of_ble_eq_true rfl), (Nat.le_of_ble_eq_true rfl)⟩ ?_
    rintro _ _ ⟨rfl, rfl⟩
    refine a_astoreN_n 11 dX11_as_10 rfl (by decide) ?_
    refine a_aloadN_n 12 dX11_as_11 rfl rfl ?_
    refine a_ifnonnullN 15 dX11_as_12 rfl ?_
    refine a_iconst (-1) 16 dX11_as_15 rfl (by decide) ?_
    exact a_ireturn dX11_as_16 rfl rfl (Nat.le_of_ble_eq_true rfl) (Nat.le_of_ble_eq_true rfl) ⟨by rw [ea], by rw [ef]; exact q0, kp_mono (kp_fr (zz_0 hy)) (by decide)⟩
  · have ea : aAs T (nI x) d = if 0 ≤ d ∧ d ≤ 2 then (if nI (T.kd x) < d then -12 else 1) else -2 := by unfold aAs; rw [e]
    have ef : fAs T (nI x) d = if 0 ≤ d ∧ d ≤ 2 then (if nI (T.kd x) < d then 2 else 0) else 0 := by unfold fAs; rw [e]
    have hpc := c_at q0.1 hx
    have hP := c_person (l := l) q0.1 (show (setFT T 0 T.tr).ok from o) hx
    have hy0 := q0.1.1
    rcases kd_cases o hx with e2 | e2 | e2
    · rw [show (setFT T 0 T.tr).kd x = 0 from e2] at hpc
      rw [e2, show nI 0 = (0 : Int32) from rfl] at ea ef
      have hpc2 : (h.set 0 (ytc G (nI T.m) (nI T.nl) 0 T.tr))[T.pa x]? = some (pc 7 (nI x) (nI (T.sl x)) (nI (T.ki x)) (nI (T.se x))) := hpc
      refine rM_start (by decide) (Nat.le_of_ble_eq_true rfl) ?_
      refine a_aload_n 1 dX11_as_0 rfl rfl ?_
      refine a_iconst (0) 2 dX11_as_1 rfl (by decide) ?_
      refine a_put fd_X11_268 cl_X11 rfl 5 dX11_as_2 rfl (by repeat (first | assumption | (refine rg_ne (by first | decide | omega) ?_) | apply rg_eq | refine rg_fr (by assumption) (by first | decide | (simp; omega)) ?_)) (Nat.le_of_ble_eq_true rfl) rfl rfl rfl ?_
      refine a_aload_n 6 dX11_as_5 rfl rfl ?_
      refine a_iload_n 7 dX11_as_6 rfl rfl ?_
      refine a_callV ok_X11_personAt ln_X11_152 in_X11_personAt rfl 10 dX11_as_7 rfl (hP) (by repeat (first | assumption | (refine rg_ne (by first | decide | omega) ?_) | apply rg_eq | refine rg_fr (by assumption) (by first | decide | (simp; omega)) ?_)) rfl rfl rfl ⟨(Nat.le_of_ble_eq_true rfl), (Nat.le_of_ble_eq_true rfl)⟩ (Nat.le_of_ble_eq_true rfl) ⟨(Nat.le_of_ble_eq_true rfl), (Nat.le_of_ble_eq_true rfl)⟩ ?_
      rintro _ _ ⟨rfl, rfl⟩
      refine a_astore_n 11 dX11_as_10 rfl (by decide) ?_
      refine a_aload_n 12 dX11_as_11 rfl rfl ?_
      refine a_ifnonnull 17 dX11_as_12 (by decide) ?_
      refine a_iload_n 18 dX11_as_17 rfl rfl ?_
      refine a_callS ok_X11_isKind ln_X11_135 is_X11_isKind rfl 21 dX11_as_18 rfl (k_X11_isKind d) rfl rfl ⟨(Nat.le_of_ble_eq_true rfl), (Nat.le_of_ble_eq_true rfl)⟩ (Nat.le_of_ble_eq_true rfl) ⟨(Nat.le_of_ble_eq_true rfl), (Nat.le_of_ble_eq_true rfl)⟩ ?_
      rintro _ _ ⟨rfl, rfl⟩
      refine a_if_ne 27 24 dX11_as_21 rfl (by decide) (fun c_21 => ?_) (fun c_21 => ?_)
      · refine a_aload_n 28 dX11_as_27 rfl rfl ?_
        refine a_callV ok_X7_kind ln_X11_156 in_X7_kind rfl 31 dX11_as_28 rfl (k_X7_kind) (by repeat (first | assumption | (refine rg_ne (by first | decide | omega) ?_) | apply rg_eq | refine rg_fr (by assumption) (by first | decide | (simp; omega)) ?_)) rfl rfl rfl ⟨(Nat.le_of_ble_eq_true rfl), (Nat.le_of_ble_eq_true rfl)⟩ (Nat.le_of_ble_eq_true rfl) ⟨(Nat.le_of_ble_eq_true rfl), (Nat.le_of_ble_eq_true rfl)⟩ ?_
        rintro _ _ ⟨rfl, rfl⟩
        refine a_iload_n 32 dX11_as_31 rfl rfl ?_
        refine a_icmp_ge 43 35 dX11_as_32 rfl (by decide) (fun c_32 => ?_) (fun c_32 => ?_)
        · refine a_iconst (1) 44 dX11_as_43 rfl (by decide) ?_
          exact a_ireturn dX11_as_44 rfl rfl (Nat.le_of_ble_eq_true rfl) (Nat.le_of_ble_eq_true rfl) ⟨by rw [ea, if_pos (Decidable.not_not.mp (fun z => c_21 (if_neg z))), if_neg (Int32.not_lt.mpr c_32)], by rw [ef, if_pos (Decidable.not_not.mp (fun z => c_21 (if_neg z))), if_neg (Int32.not_lt.mpr c_32)]; exact q0, kp_mono (kp_fr (zz_0 hy)) (by decide)⟩
        · refine a_aload_n 36 dX11_as_35 rfl rfl ?_
          refine a_iconst (2) 37 dX11_as_36 rfl (by decide) ?_
          refine a_callV ok_X11_faulted ln_X11_323 in_X11_faulted rfl 40 dX11_as_37 rfl (k_X11_faulted hy0 2) (by repeat (first | assumption | (refine rg_ne (by first | decide | omega) ?_) | apply rg_eq | refine rg_fr (by assumption) (by first | decide | (simp; omega)) ?_)) rfl rfl rfl ⟨(Nat.le_of_ble_eq_true rfl), (Nat.le_of_ble_eq_true rfl)⟩ (Nat.le_of_ble_eq_true rfl) ⟨(Nat.le_of_ble_eq_true rfl), (Nat.le_of_ble_eq_true rfl)⟩ ?_
          rintro h1 _ ⟨rfl, hy1, hf1⟩
          refine a_goto 44 dX11_as_40 (by decide) ?_
          exact a_ireturn dX11_as_44 rfl rfl (Nat.le_of_ble_eq_true rfl) (Nat.le_of_ble_eq_true rfl) ⟨by rw [ea, if_pos (Decidable.not_not.mp (fun z => c_21 (if_neg z))), if_pos (Int32.not_le.mp c_32)]; rfl, by rw [ef, if_pos (Decidable.not_not.mp (fun z => c_21 (if_neg z))), if_pos (Int32.not_le.mp c_32)]; exact all_0 (T := setFT T 0 T.tr) q0 hy1 (kp_fr hf1), kp_mono (kp_fr (fr_trans (zz_0 hy) hf1 (by decide))) (by decide)⟩
      · refine a_bipush (-2) 26 dX11_as_24 rfl (by decide) ?_
        exact a_ireturn dX11_as_26 rfl rfl (Nat.le_of_ble_eq_true rfl) (Nat.le_of_ble_eq_true rfl) ⟨by rw [ea, if_neg (b_eq0.mp c_21)], by rw [ef, if_neg (b_eq0.mp c_21)]; exact q0, kp_mono (kp_fr (zz_0 hy)) (by decide)⟩
    · rw [show (setFT T 0 T.tr).kd x = 1 from e2] at hpc
      rw [e2, show nI 1 = (1 : Int32) from rfl] at ea ef
      have hpc2 : (h.set 0 (ytc G (nI T.m) (nI T.nl) 0 T.tr))[T.pa x]? = some (pc 3 (nI x) (nI (T.sl x)) (nI (T.ki x)) (nI (T.se x))) := hpc
      refine rM_start (by decide) (Nat.le_of_ble_eq_true rfl) ?_
      refine a_aload_n 1 dX11_as_0 rfl rfl ?_
      refine a_iconst (0) 2 dX11_as_1 rfl (by decide) ?_
      refine a_put fd_X11_268 cl_X11 rfl 5 dX11_as_2 rfl (by repeat (first | assumption | (refine rg_ne (by first | decide | omega) ?_) | apply rg_eq | refine rg_fr (by assumption) (by first | decide | (simp; omega)) ?_)) (Nat.le_of_ble_eq_true rfl) rfl rfl rfl ?_
      refine a_aload_n 6 dX11_as_5 rfl rfl ?_
      refine a_iload_n 7 dX11_as_6 rfl rfl ?_
      refine a_callV ok_X11_personAt ln_X11_152 in_X11_personAt rfl 10 dX11_as_7 rfl (hP) (by repeat (first | assumption | (refine rg_ne (by first | decide | omega) ?_) | apply rg_eq | refine rg_fr (by assumption) (by first | decide | (simp; omega)) ?_)) rfl rfl rfl ⟨(Nat.le_of_ble_eq_true rfl), (Nat.le_of_ble_eq_true rfl)⟩ (Nat.le_of_ble_eq_true rfl) ⟨(Nat.le_of_ble_eq_true rfl), (Nat.le_of_ble_eq_true rfl)⟩ ?_
      rintro _ _ ⟨rfl, rfl⟩
      refine a_astore_n 11 dX11_as_10 rfl (by decide) ?_
      refine a_aload_n 12 dX11_as_11 rfl rfl ?_
      refine a_ifnonnull 17 dX11_as_12 (by decide) ?_
      refine a_iload_n 18 dX11_as_17 rfl rfl ?_
      refine a_callS ok_X11_isKind ln_X11_135 is_X11_isKind rfl 21 dX11_as_18 rfl (k_X11_isKind d) rfl rfl ⟨(Nat.le_of_ble_eq_true rfl), (Nat.le_of_ble_eq_true rfl)⟩ (Nat.le_of_ble_eq_true rfl) ⟨(Nat.le_of_ble_eq_true rfl), (Nat.le_of_ble_eq_true rfl)⟩ ?_
      rintro _ _ ⟨rfl, rfl⟩
      refine a_if_ne 27 24 dX11_as_21 rfl (by decide) (fun c_21 => ?_) (fun c_21 => ?_)
      · refine a_aload_n 28 dX11_as_27 rfl rfl ?_
        refine a_callU ok_X3_kind cu_X11_156_X3 rfl 31 dX11_as_28 rfl (k_X3_kind) (by repeat (first | assumption | (refine rg_ne (by first | decide | omega) ?_) | apply rg_eq | refine rg_fr (by assumption) (by first | decide | (simp; omega)) ?_)) rfl rfl rfl ⟨(Nat.le_of_ble_eq_true rfl), (Nat.le_of_ble_eq_true rfl)⟩ (Nat.le_of_ble_eq_true rfl) ⟨(Nat.le_of_ble_eq_true rfl), (Nat.le_of_ble_eq_true rfl)⟩ ?_
        rintro _ _ ⟨rfl, rfl⟩
        refine a_iload_n 32 dX11_as_31 rfl rfl ?_
        refine a_icmp_ge 43 35 dX11_as_32 rfl (by decide) (fun c_32 => ?_) (fun c_32 => ?_)
        · refine a_iconst (1) 44 dX11_as_43 rfl (by decide) ?_
          exact a_ireturn dX11_as_44 rfl rfl (Nat.le_of_ble_eq_true rfl) (Nat.le_of_ble_eq_true rfl) ⟨by rw [ea, if_pos (Decidable.not_not.mp (fun z => c_21 (if_neg z))), if_neg (Int32.not_lt.mpr c_32)], by rw [ef, if_pos (Decidable.not_not.mp (fun z => c_21 (if_neg z))), if_neg (Int32.not_lt.mpr c_32)]; exact q0, kp_mono (kp_fr (zz_0 hy)) (by decide)⟩
        · refine a_aload_n 36 dX11_as_35 rfl rfl ?_
          refine a_iconst (2) 37 dX11_as_36 rfl (by decide) ?_
          refine a_callV ok_X11_faulted ln_X11_323 in_X11_faulted rfl 40 dX11_as_37 rfl (k_X11_faulted hy0 2) (by repeat (first | assumption | (refine rg_ne (by first | decide | omega) ?_) | apply rg_eq | refine rg_fr (by assumption) (by first | decide | (simp; omega)) ?_)) rfl rfl rfl ⟨(Nat.le_of_ble_eq_true rfl), (Nat.le_of_ble_eq_true rfl)⟩ (Nat.le_of_ble_eq_true rfl) ⟨(Nat.le_of_ble_eq_true rfl), (Nat.le_of_ble_eq_true rfl)⟩ ?_
          rintro h1 _ ⟨rfl, hy1, hf1⟩
          refine a_goto 44 dX11_as_40 (by decide) ?_
          exact a_ireturn dX11_as_44 rfl rfl (Nat.le_of_ble_eq_true rfl) (Nat.le_of_ble_eq_true rfl) ⟨by rw [ea, if_pos (Decidable.not_not.mp (fun z => c_21 (if_neg z))), if_pos (Int32.not_le.mp c_32)]; rfl, by rw [ef, if_pos (Decidable.not_not.mp (fun z => c_21 (if_neg z))), if_pos (Int32.not_le.mp c_32)]; exact all_0 (T := setFT T 0 T.tr) q0 hy1 (kp_fr hf1), kp_mono (kp_fr (fr_trans (zz_0 hy) hf1 (by decide))) (by decide)⟩
      · refine a_bipush (-2) 26 dX11_as_24 rfl (by decide) ?_
        exact a_ireturn dX11_as_26 rfl rfl (Nat.le_of_ble_eq_true rfl) (Nat.le_of_ble_eq_true rfl) ⟨by rw [ea, if_neg (b_eq0.mp c_21)], by rw [ef, if_neg (b_eq0.mp c_21)]; exact q0, kp_mono (kp_fr (zz_0 hy)) (by decide)⟩
    · rw [show (setFT T 0 T.tr).kd x = 2 from e2] at hpc
      rw [e2, show nI 2 = (2 : Int32) from rfl] at ea ef
      have hpc2 : (h.set 0 (ytc G (nI T.m) (nI T.nl) 0 T.tr))[T.pa x]? = some (pc 4 (nI x) (nI (T.sl x)) (nI (T.ki x)) (nI (T.se x))) := hpc
      refine rM_start (by decide) (Nat.le_of_ble_eq_true rfl) ?_
      refine a_aload_n 1 dX11_as_0 rfl rfl ?_
      refine a_iconst (0) 2 dX11_as_1 rfl (by decide) ?_
      refine a_put fd_X11_268 cl_X11 rfl 5 dX11_as_2 rfl (by repeat (first | assumption | (refine rg_ne (by first | decide | omega) ?_) | apply rg_eq | refine rg_fr (by assumption) (by first | decide | (simp; omega)) ?_)) (Nat.le_of_ble_eq_true rfl) rfl rfl rfl ?_
      refine a_aload_n 6 dX11_as_5 rfl rfl ?_
      refine a_iload_n 7 dX11_as_6 rfl rfl ?_
      refine a_callV ok_X11_personAt ln_X11_152 in_X11_personAt rfl 10 dX11_as_7 rfl (hP) (by repeat (first | assumption | (refine rg_ne (by first | decide | omega) ?_) | apply rg_eq | refine rg_fr (by assumption) (by first | decide | (simp; omega)) ?_)) rfl rfl rfl ⟨(Nat.le_of_ble_eq_true rfl), (Nat.le_of_ble_eq_true rfl)⟩ (Nat.le_of_ble_eq_true rfl) ⟨(Nat.le_of_ble_eq_true rfl), (Nat.le_of_ble_eq_true rfl)⟩ ?_
      rintro _ _ ⟨rfl, rfl⟩
      refine a_astore_n 11 dX11_as_10 rfl (by decide) ?_
      refine a_aload_n 12 dX11_as_11 rfl rfl ?_
      refine a_ifnonnull 17 dX11_as_12 (by decide) ?_
      refine a_iload_n 18 dX11_as_17 rfl rfl ?_
      refine a_callS ok_X11_isKind ln_X11_135 is_X11_isKind rfl 21 dX11_as_18 rfl (k_X11_isKind d) rfl rfl ⟨(Nat.le_of_ble_eq_true rfl), (Nat.le_of_ble_eq_true rfl)⟩ (Nat.le_of_ble_eq_true rfl) ⟨(Nat.le_of_ble_eq_true rfl), (Nat.le_of_ble_eq_true rfl)⟩ ?_
      rintro _ _ ⟨rfl, rfl⟩
      refine a_if_ne 27 24 dX11_as_21 rfl (by decide) (fun c_21 => ?_) (fun c_21 => ?_)
      · refine a_aload_n 28 dX11_as_27 rfl rfl ?_
        refine a_callU ok_X4_kind cu_X11_156_X4 rfl 31 dX11_as_28 rfl (k_X4_kind) (by repeat (first | assumption | (refine rg_ne (by first | decide | omega) ?_) | apply rg_eq | refine rg_fr (by assumption) (by first | decide | (simp; omega)) ?_)) rfl rfl rfl ⟨(Nat.le_of_ble_eq_true rfl), (Nat.le_of_ble_eq_true rfl)⟩ (Nat.le_of_ble_eq_true rfl) ⟨(Nat.le_of_ble_eq_true rfl), (Nat.le_of_ble_eq_true rfl)⟩ ?_
        rintro _ _ ⟨rfl, rfl⟩
        refine a_iload_n 32 dX11_as_31 rfl rfl ?_
        refine a_icmp_ge 43 35 dX11_as_32 rfl (by decide) (fun c_32 => ?_) (fun c_32 => ?_)
        · refine a_iconst (1) 44 dX11_as_43 rfl (by decide) ?_
          exact a_ireturn dX11_as_44 rfl rfl (Nat.le_of_ble_eq_true rfl) (Nat.le_of_ble_eq_true rfl) ⟨by rw [ea, if_pos (Decidable.not_not.mp (fun z => c_21 (if_neg z))), if_neg (Int32.not_lt.mpr c_32)], by rw [ef, if_pos (Decidable.not_not.mp (fun z => c_21 (if_neg z))), if_neg (Int32.not_lt.mpr c_32)]; exact q0, kp_mono (kp_fr (zz_0 hy)) (by decide)⟩
        · refine a_aload_n 36 dX11_as_35 rfl rfl ?_
          refine a_iconst (2) 37 dX11_as_36 rfl (by decide) ?_
          refine a_callV ok_X11_faulted ln_X11_323 in_X11_faulted rfl 40 dX11_as_37 rfl (k_X11_faulted hy0 2) (by repeat (first | assumption | (refine rg_ne (by first | decide | omega) ?_) | apply rg_eq | refine rg_fr (by assumption) (by first | decide | (simp; omega)) ?_)) rfl rfl rfl ⟨(Nat.le_of_ble_eq_true rfl), (Nat.le_of_ble_eq_true rfl)⟩ (Nat.le_of_ble_eq_true rfl) ⟨(Nat.le_of_ble_eq_true rfl), (Nat.le_of_ble_eq_true rfl)⟩ ?_
          rintro h1 _ ⟨rfl, hy1, hf1⟩
          refine a_goto 44 dX11_as_40 (by decide) ?_
          exact a_ireturn dX11_as_44 rfl rfl (Nat.le_of_ble_eq_true rfl) (Nat.le_of_ble_eq_true rfl) ⟨by rw [ea, if_pos (Decidable.not_not.mp (fun z => c_21 (if_neg z))), if_pos (Int32.not_le.mp c_32)]; rfl, by rw [ef, if_pos (Decidable.not_not.mp (fun z => c_21 (if_neg z))), if_pos (Int32.not_le.mp c_32)]; exact all_0 (T := setFT T 0 T.tr) q0 hy1 (kp_fr hf1), kp_mono (kp_fr (fr_trans (zz_0 hy) hf1 (by decide))) (by decide)⟩
      · refine a_bipush (-2) 26 dX11_as_24 rfl (by decide) ?_
        exact a_ireturn dX11_as_26 rfl rfl (Nat.le_of_ble_eq_true rfl) (Nat.le_of_ble_eq_true rfl) ⟨by rw [ea, if_neg (b_eq0.mp c_21)], by rw [ef, if_neg (b_eq0.mp c_21)]; exact q0, kp_mono (kp_fr (zz_0 hy)) (by decide)⟩
end CONE3
