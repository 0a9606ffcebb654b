/-! THE CLASS's carriage: lines drawn, a blind set, a carriage built -/
def isLns (w n m : Int32) (B f L : Nat → Int32) (k : Nat) : Prop := ∀ c, c < k → L c = lineW w n m B (f c) 32 0 (nI c)
section CAR
variable {l : Launch} {G : rG} {h : rH} {w m bc : Int32} {f s L B : Nat → Int32} {n : Nat}
set_option maxRecDepth 100000 in
set_option maxHeartbeats 400000 in
theorem k_X1_drawLines (hc : ccAt G h w (nI n) m bc f s L B) (hn : n ≤ 32) : rM l G 4 mX1_drawLines 0 0 [.ref (gN G + 7)] h (fun h' v => v = none ∧ (∃ L', ccAt G h' w (nI n) m bc f s L' B ∧ isLns w (nI n) m B f L' n) ∧ fr h h' [10]) := by
  obtain ⟨h7, h8, h9, h10, h11⟩ := hc
  refine rM_start (by decide) (Nat.le_of_ble_eq_true rfl) ?_
  have A : ∀ (r k : Nat) (L : Nat → Int32) (h1 : rH) (y : Int32), k + r = n → y = nI k → h1[10]? = some (.inl (gA G 0, 32, .inl L)) → isLns w (nI n) m B f L k → fr h h1 [10] → rW l G (rRm 4 0 0) mX1_drawLines (rZ G (fun h' v => v = none ∧ (∃ L', ccAt G h' w (nI n) m bc f s L' B ∧ isLns w (nI n) m B f L' n) ∧ fr h h' [10]) 0 0) 0 0 2 [some (.ref (gN G + 7)), some (.int y)] [] h1 := by
    intro r
    induction r with
    | zero =>
      intro k L h1 y hk hy hL hx hfr
      subst hy
      have e : k = n := by omega
      subst e
      have g7 := rg_fr hfr (by decide) h7
      refine a_iload_n 3 dX1_drawLines_2 rfl rfl ?_
      refine a_aload_n 4 dX1_drawLines_3 rfl rfl ?_
      refine a_get fd_X1_35 rfl 7 dX1_drawLines_4 rfl (by repeat (first | assumption | (refine rg_ne (by first | decide | omega) ?_) | apply rg_eq | refine rg_fr (by assumption) (by first | decide | (simp; omega)) ?_)) rfl ?_
      refine a_icmp_ge 41 10 dX1_drawLines_7 rfl (by decide) (fun c_7 => ?_) (fun c_7 => absurd (Int32.le_refl _) c_7)
      exact a_return dX1_drawLines_41 rfl (Nat.le_of_ble_eq_true rfl) (Nat.le_of_ble_eq_true rfl) ⟨rfl, ⟨L, ⟨g7, rg_fr hfr (by decide) h8, rg_fr hfr (by decide) h9, hL, rg_fr hfr (by decide) h11⟩, hx⟩, hfr⟩
    | succ r ih =>
      intro k L h1 y hk hy hL hx hfr
      subst hy
      have g7 := rg_fr hfr (by decide) h7
      have g8 := rg_fr hfr (by decide) h8
      have g11 := rg_fr hfr (by decide) h11
      have vk : vp_in (nI k) 32 := vp_in_nI (by omega) (by decide)
      have e1 : (if 0 ≤ nI k ∧ nI k < 32 then f (nI k).toNatClampNeg else 0) = f k := by rw [if_pos ⟨nI_pos' (by omega), nI_lt (b := 32) (by omega) (by decide)⟩, nI_clamp (by omega)]
      refine a_iload_n 3 dX1_drawLines_2 rfl rfl ?_
      refine a_aload_n 4 dX1_drawLines_3 rfl rfl ?_
      refine a_get fd_X1_35 rfl 7 dX1_drawLines_4 rfl (by repeat (first | assumption | (refine rg_ne (by first | decide | omega) ?_) | apply rg_eq | refine rg_fr (by assumption) (by first | decide | (simp; omega)) ?_)) rfl ?_
      refine a_icmp_ge 41 10 dX1_drawLines_7 rfl (by decide) (fun c_7 => absurd c_7 (nI_ge (a := k) (b := n) (by omega) (by omega))) (fun c_7 => ?_)
      refine a_iload_n 11 dX1_drawLines_10 rfl rfl ?_
      refine a_aload_n 12 dX1_drawLines_11 rfl rfl ?_
      refine a_get fd_X1_18 rfl 15 dX1_drawLines_12 rfl (by repeat (first | assumption | (refine rg_ne (by first | decide | omega) ?_) | apply rg_eq | refine rg_fr (by assumption) (by first | decide | (simp; omega)) ?_)) rfl ?_
      refine a_alen_0 16 dX1_drawLines_15 rfl (by repeat (first | assumption | (refine rg_ne (by first | decide | omega) ?_) | apply rg_eq | refine rg_fr (by assumption) (by first | decide | (simp; omega)) ?_)) ?_
      refine a_icmp_ge 41 19 dX1_drawLines_16 rfl (by decide) (fun c_16 => absurd c_16 (nI_ge (a := k) (b := 32) (by omega) (by decide))) (fun c_16 => ?_)
      refine a_aload_n 20 dX1_drawLines_19 rfl rfl ?_
      refine a_get fd_X1_18 rfl 23 dX1_drawLines_20 rfl (by repeat (first | assumption | (refine rg_ne (by first | decide | omega) ?_) | apply rg_eq | refine rg_fr (by assumption) (by first | decide | (simp; omega)) ?_)) rfl ?_
      refine a_iload_n 24 dX1_drawLines_23 rfl rfl ?_
      refine a_aload_n 25 dX1_drawLines_24 rfl rfl ?_
      refine a_iload_n 26 dX1_drawLines_25 rfl rfl ?_
      refine a_aload_n 27 dX1_drawLines_26 rfl rfl ?_
      refine a_iload_n 28 dX1_drawLines_27 rfl rfl ?_
      refine a_callV ok_X1_faceOf ln_X1_66 in_X1_faceOf rfl 31 dX1_drawLines_28 rfl (k_X1_faceOf g7 g8 (nI k)) (by repeat (first | assumption | (refine rg_ne (by first | decide | omega) ?_) | apply rg_eq | refine rg_fr (by assumption) (by first | decide | (simp; omega)) ?_)) rfl rfl rfl ⟨(Nat.le_of_ble_eq_true rfl), (Nat.le_of_ble_eq_true rfl)⟩ (Nat.le_of_ble_eq_true rfl) ⟨(Nat.le_of_ble_eq_true rfl), (Nat.le_of_ble_eq_true rfl)⟩ ?_
      rintro _ _ ⟨rfl, rfl⟩
      rw [e1]
      refine a_callV ok_X1_lineFrom ln_X1_69 in_X1_lineFrom rfl 34 dX1_drawLines_31 rfl (k_X1_lineFrom g7 g11 (nI k) (f k)) (by repeat (first | assumption | (refine rg_ne (by first | decide | omega) ?_) | apply rg_eq | refine rg_fr (by assumption) (by first | decide | (simp; omega)) ?_)) rfl rfl rfl ⟨(Nat.le_of_ble_eq_true rfl), (Nat.le_of_ble_eq_true rfl)⟩ (Nat.le_of_ble_eq_true rfl) ⟨(Nat.le_of_ble_eq_true rfl), (Nat.le_of_ble_eq_true rfl)⟩ ?_
      rintro _ _ ⟨rfl, rfl⟩
      refine a_iastore 35 dX1_drawLines_34 rfl (by repeat (first | assumption | (refine rg_ne (by first | decide | omega) ?_) | apply rg_eq | refine rg_fr (by assumption) (by first | decide | (simp; omega)) ?_)) vk ?_
      refine a_iinc _ 38 dX1_drawLines_35 rfl rfl (by decide) rfl ?_
      refine a_goto 2 dX1_drawLines_38 (by decide) ?_
      exact ih (k + 1) _ _ _ (by omega) (nI_1 k) (by rw [nI_clamp (by omega)]; exact rg_eq hL) (fun c hc => by by_cases e : c = k; (subst e; exact pk_us); (rw [pk_un e]; exact hx c (by omega))) (fr_set hfr (by decide))
  refine a_iconst (0) 1 dX1_drawLines_0 rfl (by decide) ?_
  refine a_istore_n 2 dX1_drawLines_1 rfl (by decide) ?_
  exact A n 0 L _ _ (by omega) rfl h10 (fun c hc => absurd hc (by omega)) (fr_refl _ _)
set_option maxRecDepth 100000 in
set_option maxHeartbeats 400000 in
theorem k_X1_setBlind (hc : ccAt G h w (nI n) m bc f s L B) (hn : n ≤ 32) {g : Nat} (hg : g < 64) {x : Int32} (hx : x = 0 ∨ x = 1) : rM l G 5 mX1_setBlind 0 0 [.ref (gN G + 7), .int (nI g), .int x] h (fun h' v => (B g = x ∧ v = some (.int 0) ∧ h' = h) ∨ (¬ B g = x ∧ v = some (.int 1) ∧ (∃ L', ccAt G h' w (nI n) m (bc + if x = 0 then -1 else 1) f s L' (upd B g x) ∧ isLns w (nI n) m (upd B g x) f L' n) ∧ fr h h' [7, 10, 11])) := by
  obtain ⟨h7, h8, h9, h10, h11⟩ := hc
  have vg : vp_in (nI g) 64 := vp_in_nI hg (by decide)
  have e0 : (nI g).toNatClampNeg = g := nI_clamp (by omega)
  have base : ∀ y, y = bc + (if x = 0 then -1 else 1) → ccAt G ((h.set 11 (.inl (gA G 1, 64, .inl (upd B (nI g).toNatClampNeg (vp_nar .boolean x))))).set 7 (.inr (1, [.ref (gN G + 8), .ref (gN G + 9), .ref (gN G + 10), .ref (gN G + 11), .int w, .int (nI n), .int m, .int y]))) w (nI n) m (bc + if x = 0 then -1 else 1) f s L (upd B g x) := by
    intro y hy
    subst hy
    rw [e0, vn01 hx]
    exact ⟨rg_eq (rg_ne (by decide) h7), rg_ne (by decide) (rg_ne (by decide) h8), rg_ne (by decide) (rg_ne (by decide) h9), rg_ne (by decide) (rg_ne (by decide) h10), rg_ne (by decide) (rg_eq h11)⟩
  refine rM_start (by decide) (Nat.le_of_ble_eq_true rfl) ?_
  refine a_iload_n 1 dX1_setBlind_0 rfl rfl ?_
  refine a_if_lt 23 4 dX1_setBlind_1 rfl (by decide) (fun c_1 => absurd c_1 (nI_pos (by omega))) (fun c_1 => ?_)
  refine a_iload_n 5 dX1_setBlind_4 rfl rfl ?_
  refine a_aload_n 6 dX1_setBlind_5 rfl rfl ?_
  refine a_get fd_X1_21 rfl 9 dX1_setBlind_6 rfl (by repeat (first | assumption | (refine rg_ne (by first | decide | omega) ?_) | apply rg_eq | refine rg_fr (by assumption) (by first | decide | (simp; omega)) ?_)) rfl ?_
  refine a_alen_1 10 dX1_setBlind_9 rfl (by repeat (first | assumption | (refine rg_ne (by first | decide | omega) ?_) | apply rg_eq | refine rg_fr (by assumption) (by first | decide | (simp; omega)) ?_)) ?_
  refine a_icmp_ge 23 13 dX1_setBlind_10 rfl (by decide) (fun c_10 => absurd c_10 (nI_ge (a := g) (b := 64) hg (by decide))) (fun c_10 => ?_)
  refine a_aload_n 14 dX1_setBlind_13 rfl rfl ?_
  refine a_get fd_X1_21 rfl 17 dX1_setBlind_14 rfl (by repeat (first | assumption | (refine rg_ne (by first | decide | omega) ?_) | apply rg_eq | refine rg_fr (by assumption) (by first | decide | (simp; omega)) ?_)) rfl ?_
  refine a_iload_n 18 dX1_setBlind_17 rfl rfl ?_
  refine a_baload 19 dX1_setBlind_18 rfl (by repeat (first | assumption | (refine rg_ne (by first | decide | omega) ?_) | apply rg_eq | refine rg_fr (by assumption) (by first | decide | (simp; omega)) ?_)) vg ?_
  refine a_iload_n 20 dX1_setBlind_19 rfl rfl ?_
  rw [e0]
  refine a_icmp_ne 25 23 dX1_setBlind_20 rfl (by decide) (fun c_20 => ?_) (fun c_20 => ?_)
  · refine a_aload_n 26 dX1_setBlind_25 rfl rfl ?_
    refine a_get fd_X1_21 rfl 29 dX1_setBlind_26 rfl (by repeat (first | assumption | (refine rg_ne (by first | decide | omega) ?_) | apply rg_eq | refine rg_fr (by assumption) (by first | decide | (simp; omega)) ?_)) rfl ?_
    refine a_iload_n 30 dX1_setBlind_29 rfl rfl ?_
    refine a_iload_n 31 dX1_setBlind_30 rfl rfl ?_
    refine a_bastore 32 dX1_setBlind_31 rfl (by repeat (first | assumption | (refine rg_ne (by first | decide | omega) ?_) | apply rg_eq | refine rg_fr (by assumption) (by first | decide | (simp; omega)) ?_)) vg ?_
    refine a_aload_n 33 dX1_setBlind_32 rfl rfl ?_
    refine a_dup 34 dX1_setBlind_33 rfl rfl ?_
    refine a_get fd_X1_45 rfl 37 dX1_setBlind_34 rfl (by repeat (first | assumption | (refine rg_ne (by first | decide | omega) ?_) | apply rg_eq | refine rg_fr (by assumption) (by first | decide | (simp; omega)) ?_)) rfl ?_
    refine a_iload_n 38 dX1_setBlind_37 rfl rfl ?_
    refine a_if_eq 45 41 dX1_setBlind_38 rfl (by decide) (fun c_38 => ?_) (fun c_38 => ?_)
    · refine a_iconst (-1) 46 dX1_setBlind_45 rfl (by decide) ?_
      refine a_iadd 47 dX1_setBlind_46 rfl ?_
      refine a_put fd_X1_45 cl_X1 rfl 50 dX1_setBlind_47 rfl (by repeat (first | assumption | (refine rg_ne (by first | decide | omega) ?_) | apply rg_eq | refine rg_fr (by assumption) (by first | decide | (simp; omega)) ?_)) (Nat.le_of_ble_eq_true rfl) rfl rfl rfl ?_
      refine a_aload_n 51 dX1_setBlind_50 rfl rfl ?_
      refine a_callV ok_X1_drawLines ln_X1_48 in_X1_drawLines rfl 54 dX1_setBlind_51 rfl (k_X1_drawLines (base _ (by rw [if_pos c_38])) hn) (by repeat (first | assumption | (refine rg_ne (by first | decide | omega) ?_) | apply rg_eq | refine rg_fr (by assumption) (by first | decide | (simp; omega)) ?_)) rfl rfl rfl ⟨(Nat.le_of_ble_eq_true rfl), (Nat.le_of_ble_eq_true rfl)⟩ (Nat.le_of_ble_eq_true rfl) ⟨(Nat.le_of_ble_eq_true rfl), (Nat.le_of_ble_eq_true rfl)⟩ ?_
      rintro h2 _ ⟨rfl, ⟨L2, hc2, hx2⟩, hf2⟩
      refine a_iconst (1) 55 dX1_setBlind_54 rfl (by decide) ?_
      exact a_ireturn dX1_setBlind_55 rfl rfl (Nat.le_of_ble_eq_true rfl) (Nat.le_of_ble_eq_true rfl) (Or.inr ⟨c_20, rfl, ⟨L2, hc2, hx2⟩, fr_trans (fr_set (fr_set (fr_refl _ _) (by decide)) (by decide)) hf2 (by decide)⟩)
    · refine a_iconst (1) 42 dX1_setBlind_41 rfl (by decide) ?_
      refine a_goto 46 dX1_setBlind_42 (by decide) ?_
      refine a_iadd 47 dX1_setBlind_46 rfl ?_
      refine a_put fd_X1_45 cl_X1 rfl 50 dX1_setBlind_47 rfl (by repeat (first | assumption | (refine rg_ne (by first | decide | omega) ?_) | apply rg_eq | refine rg_fr (by assumption) (by first | decide | (simp; omega)) ?_)) (Nat.le_of_ble_eq_true rfl) rfl rfl rfl ?_
      refine a_aload_n 51 dX1_setBlind_50 rfl rfl ?_
      refine a_callV ok_X1_drawLines ln_X1_48 in_X1_drawLines rfl 54 dX1_setBlind_51 rfl (k_X1_drawLines (base _ (by rw [if_neg c_38])) hn) (by repeat (first | assumption | (refine rg_ne (by first | decide | omega) ?_) | apply rg_eq | refine rg_fr (by assumption) (by first | decide | (simp; omega)) ?_)) rfl rfl rfl ⟨(Nat.le_of_ble_eq_true rfl), (Nat.le_of_ble_eq_true rfl)⟩ (Nat.le_of_ble_eq_true rfl) ⟨(Nat.le_of_ble_eq_true rfl), (Nat.le_of_ble_eq_true rfl)⟩ ?_
      rintro h2 _ ⟨rfl, ⟨L2, hc2, hx2⟩, hf2⟩
      refine a_iconst (1) 55 dX1_setBlind_54 rfl (by decide) ?_
      exact a_ireturn dX1_setBlind_55 rfl rfl (Nat.le_of_ble_eq_true rfl) (Nat.le_of_ble_eq_true rfl) (Or.inr ⟨c_20, rfl, ⟨L2, hc2, hx2⟩, fr_trans (fr_set (fr_set (fr_refl _ _) (by decide)) (by decide)) hf2 (by decide)⟩)
  · refine a_iconst (0) 24 dX1_setBlind_23 rfl (by decide) ?_
    exact a_ireturn dX1_setBlind_24 rfl rfl (Nat.le_of_ble_eq_true rfl) (Nat.le_of_ble_eq_true rfl) (Or.inl ⟨c_20, rfl, rfl⟩)
end CAR
