abbrev ownI (ci : Nat) (f : Nat → Int32) (sl : Int32) : Int32 := if ci = 7 then f 0 * (9 - sl + 1) else f 0 * (9 - sl + 1) * f 4 / 9
section YTW
variable {l : Launch} {G : rG} {h : rH} {on lc lf mk : Int32} {fl : Nat → Int32} {a ci b0 cb : Nat} {nu sl ki se : Int32}
set_option maxRecDepth 100000 in
set_option maxHeartbeats 400000 in
theorem k_X11_ownMight (hl : lawAtC G h b0 cb fl) (ha : h[a]? = some (pc ci nu sl ki se)) (hy : h[0]? = some (ytc G on lc lf mk)) (pa : isP ci) : rM l G 2 mX11_ownMight 0 0 [.ref (gN G + 0), .ref (gN G + b0), .ref (gN G + a)] h (rV h (some (.int (ownI ci fl sl)))) := by
  obtain ⟨hl1, hl2⟩ := hl
  rcases pa with rfl | rfl | rfl
  · skip
    refine rM_start (by decide) (Nat.le_of_ble_eq_true rfl) ?_
    refine a_aload_n 1 dX11_ownMight_0 rfl rfl ?_
    refine a_ifnonnull 8 dX11_ownMight_1 (by decide) ?_
    refine a_aload_n 9 dX11_ownMight_8 rfl rfl ?_
    refine a_aload_n 10 dX11_ownMight_9 rfl rfl ?_
    refine a_aload_n 11 dX11_ownMight_10 rfl rfl ?_
    refine a_iconst (0) 12 dX11_ownMight_11 rfl (by decide) ?_
    refine a_callV ok_X5_number ln_X11_184 in_X5_number rfl 15 dX11_ownMight_12 rfl (k_X5_num hl1 hl2 0 (by decide)) (by repeat (first | assumption | (refine rg_ne (by first | decide | omega) ?_) | apply rg_eq | refine rg_fr (by assumption) (by first | decide | (simp; omega)) ?_)) rfl rfl rfl ⟨(Nat.le_of_ble_eq_true rfl), (Nat.le_of_ble_eq_true rfl)⟩ (Nat.le_of_ble_eq_true rfl) ⟨(Nat.le_of_ble_eq_true rfl), (Nat.le_of_ble_eq_true rfl)⟩ ?_
    rintro _ _ ⟨rfl, rfl⟩
    refine a_aload_n 16 dX11_ownMight_15 rfl rfl ?_
    refine a_callV ok_X7_tired ln_X11_384 in_X7_tired rfl 19 dX11_ownMight_16 rfl (k_X7_tired_7 ha) (by repeat (first | assumption | (refine rg_ne (by first | decide | omega) ?_) | apply rg_eq | refine rg_fr (by assumption) (by first | decide | (simp; omega)) ?_)) rfl rfl rfl ⟨(Nat.le_of_ble_eq_true rfl), (Nat.le_of_ble_eq_true rfl)⟩ (Nat.le_of_ble_eq_true rfl) ⟨(Nat.le_of_ble_eq_true rfl), (Nat.le_of_ble_eq_true rfl)⟩ ?_
    rintro _ _ ⟨rfl, rfl⟩
    refine a_iconst (1) 20 dX11_ownMight_19 rfl (by decide) ?_
    refine a_iadd 21 dX11_ownMight_20 rfl ?_
    refine a_imul 22 dX11_ownMight_21 rfl ?_
    refine a_callV ok_X7_takesOwn ln_X11_387 in_X7_takesOwn rfl 25 dX11_ownMight_22 rfl (k_X7_takesOwn _) (by repeat (first | assumption | (refine rg_ne (by first | decide | omega) ?_) | apply rg_eq | refine rg_fr (by assumption) (by first | decide | (simp; omega)) ?_)) rfl rfl rfl ⟨(Nat.le_of_ble_eq_true rfl), (Nat.le_of_ble_eq_true rfl)⟩ (Nat.le_of_ble_eq_true rfl) ⟨(Nat.le_of_ble_eq_true rfl), (Nat.le_of_ble_eq_true rfl)⟩ ?_
    rintro _ _ ⟨rfl, rfl⟩
    exact a_ireturn dX11_ownMight_25 rfl rfl (Nat.le_of_ble_eq_true rfl) (Nat.le_of_ble_eq_true rfl) ⟨rfl, rfl⟩
  · skip
    refine rM_start (by decide) (Nat.le_of_ble_eq_true rfl) ?_
    refine a_aload_n 1 dX11_ownMight_0 rfl rfl ?_
    refine a_ifnonnull 8 dX11_ownMight_1 (by decide) ?_
    refine a_aload_n 9 dX11_ownMight_8 rfl rfl ?_
    refine a_aload_n 10 dX11_ownMight_9 rfl rfl ?_
    refine a_aload_n 11 dX11_ownMight_10 rfl rfl ?_
    refine a_iconst (0) 12 dX11_ownMight_11 rfl (by decide) ?_
    refine a_callV ok_X5_number ln_X11_184 in_X5_number rfl 15 dX11_ownMight_12 rfl (k_X5_num hl1 hl2 0 (by decide)) (by repeat (first | assumption | (refine rg_ne (by first | decide | omega) ?_) | apply rg_eq | refine rg_fr (by assumption) (by first | decide | (simp; omega)) ?_)) rfl rfl rfl ⟨(Nat.le_of_ble_eq_true rfl), (Nat.le_of_ble_eq_true rfl)⟩ (Nat.le_of_ble_eq_true rfl) ⟨(Nat.le_of_ble_eq_true rfl), (Nat.le_of_ble_eq_true rfl)⟩ ?_
    rintro _ _ ⟨rfl, rfl⟩
    refine a_aload_n 16 dX11_ownMight_15 rfl rfl ?_
    refine a_callV ok_X7_tired ln_X11_384 in_X3_X7_tired rfl 19 dX11_ownMight_16 rfl (k_X7_tired_3 ha) (by repeat (first | assumption | (refine rg_ne (by first | decide | omega) ?_) | apply rg_eq | refine rg_fr (by assumption) (by first | decide | (simp; omega)) ?_)) rfl rfl rfl ⟨(Nat.le_of_ble_eq_true rfl), (Nat.le_of_ble_eq_true rfl)⟩ (Nat.le_of_ble_eq_true rfl) ⟨(Nat.le_of_ble_eq_true rfl), (Nat.le_of_ble_eq_true rfl)⟩ ?_
    rintro _ _ ⟨rfl, rfl⟩
    refine a_iconst (1) 20 dX11_ownMight_19 rfl (by decide) ?_
    refine a_iadd 21 dX11_ownMight_20 rfl ?_
    refine a_imul 22 dX11_ownMight_21 rfl ?_
    refine a_callU ok_X3_takesOwn cu_X11_387_X3 rfl 25 dX11_ownMight_22 rfl (k_X3_takesOwn 3 _ _ _ rfl ha hl1 hl2 _) (by repeat (first | assumption | (refine rg_ne (by first | decide | omega) ?_) | apply rg_eq | refine rg_fr (by assumption) (by first | decide | (simp; omega)) ?_)) rfl rfl rfl ⟨(Nat.le_of_ble_eq_true rfl), (Nat.le_of_ble_eq_true rfl)⟩ (Nat.le_of_ble_eq_true rfl) ⟨(Nat.le_of_ble_eq_true rfl), (Nat.le_of_ble_eq_true rfl)⟩ ?_
    rintro _ _ ⟨rfl, rfl⟩
    exact a_ireturn dX11_ownMight_25 rfl rfl (Nat.le_of_ble_eq_true rfl) (Nat.le_of_ble_eq_true rfl) ⟨rfl, rfl⟩
  · skip
    refine rM_start (by decide) (Nat.le_of_ble_eq_true rfl) ?_
    refine a_aload_n 1 dX11_ownMight_0 rfl rfl ?_
    refine a_ifnonnull 8 dX11_ownMight_1 (by decide) ?_
    refine a_aload_n 9 dX11_ownMight_8 rfl rfl ?_
    refine a_aload_n 10 dX11_ownMight_9 rfl rfl ?_
    refine a_aload_n 11 dX11_ownMight_10 rfl rfl ?_
    refine a_iconst (0) 12 dX11_ownMight_11 rfl (by decide) ?_
    refine a_callV ok_X5_number ln_X11_184 in_X5_number rfl 15 dX11_ownMight_12 rfl (k_X5_num hl1 hl2 0 (by decide)) (by repeat (first | assumption | (refine rg_ne (by first | decide | omega) ?_) | apply rg_eq | refine rg_fr (by assumption) (by first | decide | (simp; omega)) ?_)) rfl rfl rfl ⟨(Nat.le_of_ble_eq_true rfl), (Nat.le_of_ble_eq_true rfl)⟩ (Nat.le_of_ble_eq_true rfl) ⟨(Nat.le_of_ble_eq_true rfl), (Nat.le_of_ble_eq_true rfl)⟩ ?_
    rintro _ _ ⟨rfl, rfl⟩
    refine a_aload_n 16 dX11_ownMight_15 rfl rfl ?_
    refine a_callV ok_X7_tired ln_X11_384 in_X4_X7_tired rfl 19 dX11_ownMight_16 rfl (k_X7_tired_4 ha) (by repeat (first | assumption | (refine rg_ne (by first | decide | omega) ?_) | apply rg_eq | refine rg_fr (by assumption) (by first | decide | (simp; omega)) ?_)) rfl rfl rfl ⟨(Nat.le_of_ble_eq_true rfl), (Nat.le_of_ble_eq_true rfl)⟩ (Nat.le_of_ble_eq_true rfl) ⟨(Nat.le_of_ble_eq_true rfl), (Nat.le_of_ble_eq_true rfl)⟩ ?_
    rintro _ _ ⟨rfl, rfl⟩
    refine a_iconst (1) 20 dX11_ownMight_19 rfl (by decide) ?_
    refine a_iadd 21 dX11_ownMight_20 rfl ?_
    refine a_imul 22 dX11_ownMight_21 rfl ?_
    refine a_callU ok_X3_takesOwn cu_X11_387_X4 rfl 25 dX11_ownMight_22 rfl (k_X3_takesOwn 4 _ _ _ rfl ha hl1 hl2 _) (by repeat (first | assumption | (refine rg_ne (by first | decide | omega) ?_) | apply rg_eq | refine rg_fr (by assumption) (by first | decide | (simp; omega)) ?_)) rfl rfl rfl ⟨(Nat.le_of_ble_eq_true rfl), (Nat.le_of_ble_eq_true rfl)⟩ (Nat.le_of_ble_eq_true rfl) ⟨(Nat.le_of_ble_eq_true rfl), (Nat.le_of_ble_eq_true rfl)⟩ ?_
    rintro _ _ ⟨rfl, rfl⟩
    exact a_ireturn dX11_ownMight_25 rfl rfl (Nat.le_of_ble_eq_true rfl) (Nat.le_of_ble_eq_true rfl) ⟨rfl, rfl⟩
set_option maxRecDepth 100000 in
set_option maxHeartbeats 400000 in
theorem k_X7_tellsAsPerson (ha : h[a]? = some (pc ci nu sl ki se)) (h0 : a ≠ 0) (hy : h[0]? = some (ytc G on lc lf mk)) (pa : isP ci) : rM l G 1 mX7_tellsAsPerson 0 0 [.ref (gN G + a), .ref (gN G + 0)] h (fun h' v => v = some (.int (9 - sl)) ∧ h'[0]? = some (ytc G on lc lf (31 * mk + 1)) ∧ fr h h' [0]) := by
  have pa0 := pa
  rcases pa with rfl | rfl | rfl
  · skip
    refine rM_start (by decide) (Nat.le_of_ble_eq_true rfl) ?_
    refine a_aload_n 1 dX7_tellsAsPerson_0 rfl rfl ?_
    refine a_iconst (1) 2 dX7_tellsAsPerson_1 rfl (by decide) ?_
    refine a_callV ok_X11_leave ln_X7_23 in_X11_leave rfl 5 dX7_tellsAsPerson_2 rfl (k_X11_leave hy 1) (by repeat (first | assumption | (refine rg_ne (by first | decide | omega) ?_) | apply rg_eq | refine rg_fr (by assumption) (by first | decide | (simp; omega)) ?_)) rfl rfl rfl ⟨(Nat.le_of_ble_eq_true rfl), (Nat.le_of_ble_eq_true rfl)⟩ (Nat.le_of_ble_eq_true rfl) ⟨(Nat.le_of_ble_eq_true rfl), (Nat.le_of_ble_eq_true rfl)⟩ ?_
    rintro h1 v ⟨rfl, hy1, hf1⟩
    have ha1 := rg_fr hf1 (by simpa using h0) ha
    refine a_aload_n 6 dX7_tellsAsPerson_5 rfl rfl ?_
    refine a_callV ok_X7_tired ln_X7_29 in_X7_tired rfl 9 dX7_tellsAsPerson_6 rfl (k_X7_tired_7 ha1) (by repeat (first | assumption | (refine rg_ne (by first | decide | omega) ?_) | apply rg_eq | refine rg_fr (by assumption) (by first | decide | (simp; omega)) ?_)) rfl rfl rfl ⟨(Nat.le_of_ble_eq_true rfl), (Nat.le_of_ble_eq_true rfl)⟩ (Nat.le_of_ble_eq_true rfl) ⟨(Nat.le_of_ble_eq_true rfl), (Nat.le_of_ble_eq_true rfl)⟩ ?_
    rintro _ _ ⟨rfl, rfl⟩
    exact a_ireturn dX7_tellsAsPerson_9 rfl rfl (Nat.le_of_ble_eq_true rfl) (Nat.le_of_ble_eq_true rfl) ⟨rfl, hy1, hf1⟩
  · skip
    refine rM_start (by decide) (Nat.le_of_ble_eq_true rfl) ?_
    refine a_aload_n 1 dX7_tellsAsPerson_0 rfl rfl ?_
    refine a_iconst (1) 2 dX7_tellsAsPerson_1 rfl (by decide) ?_
    refine a_callV ok_X11_leave ln_X7_23 in_X11_leave rfl 5 dX7_tellsAsPerson_2 rfl (k_X11_leave hy 1) (by repeat (first | assumption | (refine rg_ne (by first | decide | omega) ?_) | apply rg_eq | refine rg_fr (by assumption) (by first | decide | (simp; omega)) ?_)) rfl rfl rfl ⟨(Nat.le_of_ble_eq_true rfl), (Nat.le_of_ble_eq_true rfl)⟩ (Nat.le_of_ble_eq_true rfl) ⟨(Nat.le_of_ble_eq_true rfl), (Nat.le_of_ble_eq_true rfl)⟩ ?_
    rintro h1 v ⟨rfl, hy1, hf1⟩
    have ha1 := rg_fr hf1 (by simpa using h0) ha
    refine a_aload_n 6 dX7_tellsAsPerson_5 rfl rfl ?_
    refine a_callV ok_X7_tired ln_X7_29 in_X3_X7_tired rfl 9 dX7_tellsAsPerson_6 rfl (k_X7_tired_3 ha1) (by repeat (first | assumption | (refine rg_ne (by first | decide | omega) ?_) | apply rg_eq | refine rg_fr (by assumption) (by first | decide | (simp; omega)) ?_)) rfl rfl rfl ⟨(Nat.le_of_ble_eq_true rfl), (Nat.le_of_ble_eq_true rfl)⟩ (Nat.le_of_ble_eq_true rfl) ⟨(Nat.le_of_ble_eq_true rfl), (Nat.le_of_ble_eq_true rfl)⟩ ?_
    rintro _ _ ⟨rfl, rfl⟩
    exact a_ireturn dX7_tellsAsPerson_9 rfl rfl (Nat.le_of_ble_eq_true rfl) (Nat.le_of_ble_eq_true rfl) ⟨rfl, hy1, hf1⟩
  · skip
    refine rM_start (by decide) (Nat.le_of_ble_eq_true rfl) ?_
    refine a_aload_n 1 dX7_tellsAsPerson_0 rfl rfl ?_
    refine a_iconst (1) 2 dX7_tellsAsPerson_1 rfl (by decide) ?_
    refine a_callV ok_X11_leave ln_X7_23 in_X11_leave rfl 5 dX7_tellsAsPerson_2 rfl (k_X11_leave hy 1) (by repeat (first | assumption | (refine rg_ne (by first | decide | omega) ?_) | apply rg_eq | refine rg_fr (by assumption) (by first | decide | (simp; omega)) ?_)) rfl rfl rfl ⟨(Nat.le_of_ble_eq_true rfl), (Nat.le_of_ble_eq_true rfl)⟩ (Nat.le_of_ble_eq_true rfl) ⟨(Nat.le_of_ble_eq_true rfl), (Nat.le_of_ble_eq_true rfl)⟩ ?_
    rintro h1 v ⟨rfl, hy1, hf1⟩
    have ha1 := rg_fr hf1 (by simpa using h0) ha
    refine a_aload_n 6 dX7_tellsAsPerson_5 rfl rfl ?_
    refine a_callV ok_X7_tired ln_X7_29 in_X4_X7_tired rfl 9 dX7_tellsAsPerson_6 rfl (k_X7_tired_4 ha1) (by repeat (first | assumption | (refine rg_ne (by first | decide | omega) ?_) | apply rg_eq | refine rg_fr (by assumption) (by first | decide | (simp; omega)) ?_)) rfl rfl rfl ⟨(Nat.le_of_ble_eq_true rfl), (Nat.le_of_ble_eq_true rfl)⟩ (Nat.le_of_ble_eq_true rfl) ⟨(Nat.le_of_ble_eq_true rfl), (Nat.le_of_ble_eq_true rfl)⟩ ?_
    rintro _ _ ⟨rfl, rfl⟩
    exact a_ireturn dX7_tellsAsPerson_9 rfl rfl (Nat.le_of_ble_eq_true rfl) (Nat.le_of_ble_eq_true rfl) ⟨rfl, hy1, hf1⟩
end YTW
