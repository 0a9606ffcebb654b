/-- what one of class ci takes of strength s -/
def takenI (ci : Nat) (same : Bool) (s y : Int32) : Int32 := if ci = 7 then s else if ci = 4 ∧ same = false then 0 else s * y / 9
/-- the class's law at b, its numbers f at cb -/
def lawAtC (G : rG) (h : rH) (b cb : Nat) (f : Nat → Int32) : Prop := h[b]? = some (.inr (5, [.ref (gN G + cb)])) ∧ h[cb]? = some (.inl (gA G 0, 7, .inl f))
abbrev tkmI (ci : Nat) (f : Nat → Int32) (ki kj s : Int32) : Int32 := takenI ci (decide (ki = kj)) (if ki = kj then s * f 3 else s) (f 4)
theorem tki_3 {a : Bool} {s y : Int32} : takenI 3 a s y = s * y / 9 := by
  unfold takenI
  rw [if_neg (by decide), if_neg (fun q => absurd q.1 (by decide))]
theorem tki_4t {s y : Int32} : takenI 4 true s y = s * y / 9 := by
  unfold takenI
  rw [if_neg (by decide), if_neg (fun q => absurd q.2 (by decide))]
theorem tki_4f {s y : Int32} : takenI 4 false s y = 0 := by
  unfold takenI
  rw [if_neg (by decide), if_pos ⟨rfl, rfl⟩]
section YTM
variable {l : Launch} {G : rG} {h : rH} {on lc lf mk : Int32} {w n m bc : Int32} {f s L B g fl : Nat → Int32} {a b ci ck b0 cb : Nat} {nu sl ki se nv sm kj sf : Int32}
set_option maxRecDepth 100000 in
set_option maxHeartbeats 400000 in
theorem k_X11_takenMight (hl : lawAtC G h b0 cb fl) (ha : h[a]? = some (pc ci nu sl ki se)) (hb : h[b]? = some (pc ck nv sm kj sf)) (pa : isP ci) (pb : isP ck) (x : Int32) : rM l G 3 mX11_takenMight 0 0 [.ref (gN G + b0), .ref (gN G + a), .ref (gN G + b), .int x] h (rV h (some (.int (tkmI ci fl ki kj x)))) := by
  obtain ⟨hl1, hl2⟩ := hl
  have pa0 := pa
  rcases pa with rfl | rfl | rfl
  · skip
    refine rM_start (by decide) (Nat.le_of_ble_eq_true rfl) ?_
    refine a_aload_n 1 dX11_takenMight_0 rfl rfl ?_
    refine a_getP fd_X11_163_X7 fd_X11_163_X3 fd_X11_163_X4 pa0 rfl 4 dX11_takenMight_1 rfl (by repeat (first | assumption | (refine rg_ne (by first | decide | omega) ?_) | apply rg_eq | refine rg_fr (by assumption) (by first | decide | (simp; omega)) ?_)) rfl ?_
    refine a_aload_n 5 dX11_takenMight_4 rfl rfl ?_
    refine a_getP fd_X11_163_X7 fd_X11_163_X3 fd_X11_163_X4 pb rfl 8 dX11_takenMight_5 rfl (by repeat (first | assumption | (refine rg_ne (by first | decide | omega) ?_) | apply rg_eq | refine rg_fr (by assumption) (by first | decide | (simp; omega)) ?_)) rfl ?_
    refine a_icmp_ne 15 11 dX11_takenMight_8 rfl (by decide) (fun c_8 => ?_) (fun c_8 => ?_)
    · refine a_iconst (0) 16 dX11_takenMight_15 rfl (by decide) ?_
      refine a_istore 18 dX11_takenMight_16 rfl (by decide) ?_
      refine a_aload_n 19 dX11_takenMight_18 rfl rfl ?_
      refine a_aload_n 20 dX11_takenMight_19 rfl rfl ?_
      refine a_iload 22 dX11_takenMight_20 rfl rfl ?_
      refine a_if_eq 35 25 dX11_takenMight_22 rfl (by decide) (fun c_22 => ?_) (fun c_22 => absurd rfl c_22)
      refine a_iload_n 36 dX11_takenMight_35 rfl rfl ?_
      refine a_iload 38 dX11_takenMight_36 rfl rfl ?_
      refine a_callV ok_X7_takes ln_X11_397 in_X7_takes rfl 41 dX11_takenMight_38 rfl (k_X7_takes .null _ _) (by repeat (first | assumption | (refine rg_ne (by first | decide | omega) ?_) | apply rg_eq | refine rg_fr (by assumption) (by first | decide | (simp; omega)) ?_)) rfl rfl rfl ⟨(Nat.le_of_ble_eq_true rfl), (Nat.le_of_ble_eq_true rfl)⟩ (Nat.le_of_ble_eq_true rfl) ⟨(Nat.le_of_ble_eq_true rfl), (Nat.le_of_ble_eq_true rfl)⟩ ?_
      rintro _ _ ⟨rfl, rfl⟩
      exact a_ireturn dX11_takenMight_41 rfl rfl (Nat.le_of_ble_eq_true rfl) (Nat.le_of_ble_eq_true rfl) ⟨rfl, by rw [tkmI, takenI, if_pos rfl, if_neg c_8]⟩
    · refine a_iconst (1) 12 dX11_takenMight_11 rfl (by decide) ?_
      refine a_goto 16 dX11_takenMight_12 (by decide) ?_
      refine a_istore 18 dX11_takenMight_16 rfl (by decide) ?_
      refine a_aload_n 19 dX11_takenMight_18 rfl rfl ?_
      refine a_aload_n 20 dX11_takenMight_19 rfl rfl ?_
      refine a_iload 22 dX11_takenMight_20 rfl rfl ?_
      refine a_if_eq 35 25 dX11_takenMight_22 rfl (by decide) (fun c_22 => absurd c_22 (by decide)) (fun c_22 => ?_)
      refine a_iload_n 26 dX11_takenMight_25 rfl rfl ?_
      refine a_aload_n 27 dX11_takenMight_26 rfl rfl ?_
      refine a_iconst (3) 28 dX11_takenMight_27 rfl (by decide) ?_
      refine a_callV ok_X5_number ln_X11_184 in_X5_number rfl 31 dX11_takenMight_28 rfl (k_X5_num hl1 hl2 3 (by decide)) (by repeat (first | assumption | (refine rg_ne (by first | decide | omega) ?_) | apply rg_eq | refine rg_fr (by assumption) (by first | decide | (simp; omega)) ?_)) rfl rfl rfl ⟨(Nat.le_of_ble_eq_true rfl), (Nat.le_of_ble_eq_true rfl)⟩ (Nat.le_of_ble_eq_true rfl) ⟨(Nat.le_of_ble_eq_true rfl), (Nat.le_of_ble_eq_true rfl)⟩ ?_
      rintro _ _ ⟨rfl, rfl⟩
      refine a_imul 32 dX11_takenMight_31 rfl ?_
      refine a_goto 36 dX11_takenMight_32 (by decide) ?_
      refine a_iload 38 dX11_takenMight_36 rfl rfl ?_
      refine a_callV ok_X7_takes ln_X11_397 in_X7_takes rfl 41 dX11_takenMight_38 rfl (k_X7_takes .null _ _) (by repeat (first | assumption | (refine rg_ne (by first | decide | omega) ?_) | apply rg_eq | refine rg_fr (by assumption) (by first | decide | (simp; omega)) ?_)) rfl rfl rfl ⟨(Nat.le_of_ble_eq_true rfl), (Nat.le_of_ble_eq_true rfl)⟩ (Nat.le_of_ble_eq_true rfl) ⟨(Nat.le_of_ble_eq_true rfl), (Nat.le_of_ble_eq_true rfl)⟩ ?_
      rintro _ _ ⟨rfl, rfl⟩
      exact a_ireturn dX11_takenMight_41 rfl rfl (Nat.le_of_ble_eq_true rfl) (Nat.le_of_ble_eq_true rfl) ⟨rfl, by rw [tkmI, takenI, if_pos rfl, if_pos c_8]⟩
  · skip
    refine rM_start (by decide) (Nat.le_of_ble_eq_true rfl) ?_
    refine a_aload_n 1 dX11_takenMight_0 rfl rfl ?_
    refine a_getP fd_X11_163_X7 fd_X11_163_X3 fd_X11_163_X4 pa0 rfl 4 dX11_takenMight_1 rfl (by repeat (first | assumption | (refine rg_ne (by first | decide | omega) ?_) | apply rg_eq | refine rg_fr (by assumption) (by first | decide | (simp; omega)) ?_)) rfl ?_
    refine a_aload_n 5 dX11_takenMight_4 rfl rfl ?_
    refine a_getP fd_X11_163_X7 fd_X11_163_X3 fd_X11_163_X4 pb rfl 8 dX11_takenMight_5 rfl (by repeat (first | assumption | (refine rg_ne (by first | decide | omega) ?_) | apply rg_eq | refine rg_fr (by assumption) (by first | decide | (simp; omega)) ?_)) rfl ?_
    refine a_icmp_ne 15 11 dX11_takenMight_8 rfl (by decide) (fun c_8 => ?_) (fun c_8 => ?_)
    · refine a_iconst (0) 16 dX11_takenMight_15 rfl (by decide) ?_
      refine a_istore 18 dX11_takenMight_16 rfl (by decide) ?_
      refine a_aload_n 19 dX11_takenMight_18 rfl rfl ?_
      refine a_aload_n 20 dX11_takenMight_19 rfl rfl ?_
      refine a_iload 22 dX11_takenMight_20 rfl rfl ?_
      refine a_if_eq 35 25 dX11_takenMight_22 rfl (by decide) (fun c_22 => ?_) (fun c_22 => absurd rfl c_22)
      refine a_iload_n 36 dX11_takenMight_35 rfl rfl ?_
      refine a_iload 38 dX11_takenMight_36 rfl rfl ?_
      refine a_callU ok_X3_takes cu_X11_397_X3 rfl 41 dX11_takenMight_38 rfl (k_X3_takes 3 _ _ _ rfl ha hl1 hl2 _ _) (by repeat (first | assumption | (refine rg_ne (by first | decide | omega) ?_) | apply rg_eq | refine rg_fr (by assumption) (by first | decide | (simp; omega)) ?_)) rfl rfl rfl ⟨(Nat.le_of_ble_eq_true rfl), (Nat.le_of_ble_eq_true rfl)⟩ (Nat.le_of_ble_eq_true rfl) ⟨(Nat.le_of_ble_eq_true rfl), (Nat.le_of_ble_eq_true rfl)⟩ ?_
      rintro _ _ ⟨rfl, rfl⟩
      exact a_ireturn dX11_takenMight_41 rfl rfl (Nat.le_of_ble_eq_true rfl) (Nat.le_of_ble_eq_true rfl) ⟨rfl, by rw [tkmI, tki_3, if_neg c_8]⟩
    · refine a_iconst (1) 12 dX11_takenMight_11 rfl (by decide) ?_
      refine a_goto 16 dX11_takenMight_12 (by decide) ?_
      refine a_istore 18 dX11_takenMight_16 rfl (by decide) ?_
      refine a_aload_n 19 dX11_takenMight_18 rfl rfl ?_
      refine a_aload_n 20 dX11_takenMight_19 rfl rfl ?_
      refine a_iload 22 dX11_takenMight_20 rfl rfl ?_
      refine a_if_eq 35 25 dX11_takenMight_22 rfl (by decide) (fun c_22 => absurd c_22 (by decide)) (fun c_22 => ?_)
      refine a_iload_n 26 dX11_takenMight_25 rfl rfl ?_
      refine a_aload_n 27 dX11_takenMight_26 rfl rfl ?_
      refine a_iconst (3) 28 dX11_takenMight_27 rfl (by decide) ?_
      refine a_callV ok_X5_number ln_X11_184 in_X5_number rfl 31 dX11_takenMight_28 rfl (k_X5_num hl1 hl2 3 (by decide)) (by repeat (first | assumption | (refine rg_ne (by first | decide | omega) ?_) | apply rg_eq | refine rg_fr (by assumption) (by first | decide | (simp; omega)) ?_)) rfl rfl rfl ⟨(Nat.le_of_ble_eq_true rfl), (Nat.le_of_ble_eq_true rfl)⟩ (Nat.le_of_ble_eq_true rfl) ⟨(Nat.le_of_ble_eq_true rfl), (Nat.le_of_ble_eq_true rfl)⟩ ?_
      rintro _ _ ⟨rfl, rfl⟩
      refine a_imul 32 dX11_takenMight_31 rfl ?_
      refine a_goto 36 dX11_takenMight_32 (by decide) ?_
      refine a_iload 38 dX11_takenMight_36 rfl rfl ?_
      refine a_callU ok_X3_takes cu_X11_397_X3 rfl 41 dX11_takenMight_38 rfl (k_X3_takes 3 _ _ _ rfl ha hl1 hl2 _ _) (by repeat (first | assumption | (refine rg_ne (by first | decide | omega) ?_) | apply rg_eq | refine rg_fr (by assumption) (by first | decide | (simp; omega)) ?_)) rfl rfl rfl ⟨(Nat.le_of_ble_eq_true rfl), (Nat.le_of_ble_eq_true rfl)⟩ (Nat.le_of_ble_eq_true rfl) ⟨(Nat.le_of_ble_eq_true rfl), (Nat.le_of_ble_eq_true rfl)⟩ ?_
      rintro _ _ ⟨rfl, rfl⟩
      exact a_ireturn dX11_takenMight_41 rfl rfl (Nat.le_of_ble_eq_true rfl) (Nat.le_of_ble_eq_true rfl) ⟨rfl, by rw [tkmI, tki_3, if_pos c_8]⟩
  · skip
    refine rM_start (by decide) (Nat.le_of_ble_eq_true rfl) ?_
    refine a_aload_n 1 dX11_takenMight_0 rfl rfl ?_
    refine a_getP fd_X11_163_X7 fd_X11_163_X3 fd_X11_163_X4 pa0 rfl 4 dX11_takenMight_1 rfl (by repeat (first | assumption | (refine rg_ne (by first | decide | omega) ?_) | apply rg_eq | refine rg_fr (by assumption) (by first | decide | (simp; omega)) ?_)) rfl ?_
    refine a_aload_n 5 dX11_takenMight_4 rfl rfl ?_
    refine a_getP fd_X11_163_X7 fd_X11_163_X3 fd_X11_163_X4 pb rfl 8 dX11_takenMight_5 rfl (by repeat (first | assumption | (refine rg_ne (by first | decide | omega) ?_) | apply rg_eq | refine rg_fr (by assumption) (by first | decide | (simp; omega)) ?_)) rfl ?_
    refine a_icmp_ne 15 11 dX11_takenMight_8 rfl (by decide) (fun c_8 => ?_) (fun c_8 => ?_)
    · refine a_iconst (0) 16 dX11_takenMight_15 rfl (by decide) ?_
      refine a_istore 18 dX11_takenMight_16 rfl (by decide) ?_
      refine a_aload_n 19 dX11_takenMight_18 rfl rfl ?_
      refine a_aload_n 20 dX11_takenMight_19 rfl rfl ?_
      refine a_iload 22 dX11_takenMight_20 rfl rfl ?_
      refine a_if_eq 35 25 dX11_takenMight_22 rfl (by decide) (fun c_22 => ?_) (fun c_22 => absurd rfl c_22)
      refine a_iload_n 36 dX11_takenMight_35 rfl rfl ?_
      refine a_iload 38 dX11_takenMight_36 rfl rfl ?_
      refine a_callU ok_X4_takes cu_X11_397_X4 rfl 41 dX11_takenMight_38 rfl (k_X4_takes ha hl1 hl2 _ _) (by repeat (first | assumption | (refine rg_ne (by first | decide | omega) ?_) | apply rg_eq | refine rg_fr (by assumption) (by first | decide | (simp; omega)) ?_)) rfl rfl rfl ⟨(Nat.le_of_ble_eq_true rfl), (Nat.le_of_ble_eq_true rfl)⟩ (Nat.le_of_ble_eq_true rfl) ⟨(Nat.le_of_ble_eq_true rfl), (Nat.le_of_ble_eq_true rfl)⟩ ?_
      rintro _ _ ⟨rfl, rfl⟩
      exact a_ireturn dX11_takenMight_41 rfl rfl (Nat.le_of_ble_eq_true rfl) (Nat.le_of_ble_eq_true rfl) ⟨rfl, by rw [tkmI, decide_eq_false c_8, tki_4f]; rfl⟩
    · refine a_iconst (1) 12 dX11_takenMight_11 rfl (by decide) ?_
      refine a_goto 16 dX11_takenMight_12 (by decide) ?_
      refine a_istore 18 dX11_takenMight_16 rfl (by decide) ?_
      refine a_aload_n 19 dX11_takenMight_18 rfl rfl ?_
      refine a_aload_n 20 dX11_takenMight_19 rfl rfl ?_
      refine a_iload 22 dX11_takenMight_20 rfl rfl ?_
      refine a_if_eq 35 25 dX11_takenMight_22 rfl (by decide) (fun c_22 => absurd c_22 (by decide)) (fun c_22 => ?_)
      refine a_iload_n 26 dX11_takenMight_25 rfl rfl ?_
      refine a_aload_n 27 dX11_takenMight_26 rfl rfl ?_
      refine a_iconst (3) 28 dX11_takenMight_27 rfl (by decide) ?_
      refine a_callV ok_X5_number ln_X11_184 in_X5_number rfl 31 dX11_takenMight_28 rfl (k_X5_num hl1 hl2 3 (by decide)) (by repeat (first | assumption | (refine rg_ne (by first | decide | omega) ?_) | apply rg_eq | refine rg_fr (by assumption) (by first | decide | (simp; omega)) ?_)) rfl rfl rfl ⟨(Nat.le_of_ble_eq_true rfl), (Nat.le_of_ble_eq_true rfl)⟩ (Nat.le_of_ble_eq_true rfl) ⟨(Nat.le_of_ble_eq_true rfl), (Nat.le_of_ble_eq_true rfl)⟩ ?_
      rintro _ _ ⟨rfl, rfl⟩
      refine a_imul 32 dX11_takenMight_31 rfl ?_
      refine a_goto 36 dX11_takenMight_32 (by decide) ?_
      refine a_iload 38 dX11_takenMight_36 rfl rfl ?_
      refine a_callU ok_X4_takes cu_X11_397_X4 rfl 41 dX11_takenMight_38 rfl (k_X4_takes ha hl1 hl2 _ _) (by repeat (first | assumption | (refine rg_ne (by first | decide | omega) ?_) | apply rg_eq | refine rg_fr (by assumption) (by first | decide | (simp; omega)) ?_)) rfl rfl rfl ⟨(Nat.le_of_ble_eq_true rfl), (Nat.le_of_ble_eq_true rfl)⟩ (Nat.le_of_ble_eq_true rfl) ⟨(Nat.le_of_ble_eq_true rfl), (Nat.le_of_ble_eq_true rfl)⟩ ?_
      rintro _ _ ⟨rfl, rfl⟩
      exact a_ireturn dX11_takenMight_41 rfl rfl (Nat.le_of_ble_eq_true rfl) (Nat.le_of_ble_eq_true rfl) ⟨rfl, by rw [tkmI, decide_eq_true c_8, tki_4t, if_pos c_8]; rfl⟩
set_option maxRecDepth 100000 in
set_option maxHeartbeats 400000 in
theorem k_X11_unseenStrength (hy : h[0]? = some (ytc G on lc lf mk)) (hc : ccAt G h w n m bc f s L B) (hl : lawAtC G h b0 cb fl) (ha : h[a]? = some (pc ci nu sl ki se)) (hb : h[b]? = some (pc ck nv sm kj sf)) (pa : isP ci) (pb : isP ck) : rM l G 3 mX11_unseenStrength 0 0 [.ref (gN G + 0), .ref (gN G + b0), .ref (gN G + a), .ref (gN G + b)] h (rV h (some (.int (if 0 ≤ gapW w n se sf then fl 2 else 0)))) := by
  obtain ⟨hl1, hl2⟩ := hl
  refine rM_start (by decide) (Nat.le_of_ble_eq_true rfl) ?_
  refine a_aload_n 1 dX11_unseenStrength_0 rfl rfl ?_
  refine a_aload_n 2 dX11_unseenStrength_1 rfl rfl ?_
  refine a_aload_n 3 dX11_unseenStrength_2 rfl rfl ?_
  refine a_callV ok_X11_hears ln_X11_381 in_X11_hears rfl 6 dX11_unseenStrength_3 rfl (k_X11_hears hy hc ha hb pa pb) (by repeat (first | assumption | (refine rg_ne (by first | decide | omega) ?_) | apply rg_eq | refine rg_fr (by assumption) (by first | decide | (simp; omega)) ?_)) rfl rfl rfl ⟨(Nat.le_of_ble_eq_true rfl), (Nat.le_of_ble_eq_true rfl)⟩ (Nat.le_of_ble_eq_true rfl) ⟨(Nat.le_of_ble_eq_true rfl), (Nat.le_of_ble_eq_true rfl)⟩ ?_
  rintro _ _ ⟨rfl, rfl⟩
  refine a_if_eq 17 9 dX11_unseenStrength_6 rfl (by decide) (fun c_6 => ?_) (fun c_6 => ?_)
  · refine a_iconst (0) 18 dX11_unseenStrength_17 rfl (by decide) ?_
    exact a_ireturn dX11_unseenStrength_18 rfl rfl (Nat.le_of_ble_eq_true rfl) (Nat.le_of_ble_eq_true rfl) ⟨rfl, by rw [if_neg (b_eq0.mp c_6)]⟩
  · refine a_aload_n 10 dX11_unseenStrength_9 rfl rfl ?_
    refine a_iconst (2) 11 dX11_unseenStrength_10 rfl (by decide) ?_
    refine a_callV ok_X5_number ln_X11_184 in_X5_number rfl 14 dX11_unseenStrength_11 rfl (k_X5_num hl1 hl2 2 (by decide)) (by repeat (first | assumption | (refine rg_ne (by first | decide | omega) ?_) | apply rg_eq | refine rg_fr (by assumption) (by first | decide | (simp; omega)) ?_)) rfl rfl rfl ⟨(Nat.le_of_ble_eq_true rfl), (Nat.le_of_ble_eq_true rfl)⟩ (Nat.le_of_ble_eq_true rfl) ⟨(Nat.le_of_ble_eq_true rfl), (Nat.le_of_ble_eq_true rfl)⟩ ?_
    rintro _ _ ⟨rfl, rfl⟩
    refine a_goto 18 dX11_unseenStrength_14 (by decide) ?_
    exact a_ireturn dX11_unseenStrength_18 rfl rfl (Nat.le_of_ble_eq_true rfl) (Nat.le_of_ble_eq_true rfl) ⟨rfl, by rw [if_pos (Decidable.not_not.mp (fun q => c_6 (if_neg q)))]⟩
set_option maxRecDepth 100000 in
set_option maxHeartbeats 400000 in
theorem k_X11_catchMight (hy : h[0]? = some (ytc G on lc lf mk)) (hc : ccAt G h w n m bc f s L B) (hl : lawAtC G h b0 cb fl) (ha : h[a]? = some (pc ci nu sl ki se)) (hb : h[b]? = some (pc ck nv sm kj sf)) (pa : isP ci) (pb : isP ck) : rM l G 4 mX11_catchMight 0 0 [.ref (gN G + 0), .ref (gN G + b0), .ref (gN G + a), .ref (gN G + b)] h (rV h (some (.int (tkmI ci fl ki kj (if a ≠ b ∧ onL L se sf then fl 1 else if 0 ≤ gapW w n se sf then fl 2 else 0))))) := by
  have hl0 := hl
  obtain ⟨hl1, hl2⟩ := hl
  refine rM_start (by decide) (Nat.le_of_ble_eq_true rfl) ?_
  refine a_aload_n 1 dX11_catchMight_0 rfl rfl ?_
  refine a_aload_n 2 dX11_catchMight_1 rfl rfl ?_
  refine a_aload_n 3 dX11_catchMight_2 rfl rfl ?_
  refine a_callV ok_X11_sees ln_X11_377 in_X11_sees rfl 6 dX11_catchMight_3 rfl (k_X11_sees hy hc ha hb pa pb) (by repeat (first | assumption | (refine rg_ne (by first | decide | omega) ?_) | apply rg_eq | refine rg_fr (by assumption) (by first | decide | (simp; omega)) ?_)) rfl rfl rfl ⟨(Nat.le_of_ble_eq_true rfl), (Nat.le_of_ble_eq_true rfl)⟩ (Nat.le_of_ble_eq_true rfl) ⟨(Nat.le_of_ble_eq_true rfl), (Nat.le_of_ble_eq_true rfl)⟩ ?_
  rintro _ _ ⟨rfl, rfl⟩
  refine a_if_eq 17 9 dX11_catchMight_6 rfl (by decide) (fun c_6 => ?_) (fun c_6 => ?_)
  · refine a_aload_n 18 dX11_catchMight_17 rfl rfl ?_
    refine a_aload_n 19 dX11_catchMight_18 rfl rfl ?_
    refine a_aload_n 20 dX11_catchMight_19 rfl rfl ?_
    refine a_aload_n 21 dX11_catchMight_20 rfl rfl ?_
    refine a_callV ok_X11_unseenStrength ln_X11_390 in_X11_unseenStrength rfl 24 dX11_catchMight_21 rfl (k_X11_unseenStrength hy hc hl0 ha hb pa pb) (by repeat (first | assumption | (refine rg_ne (by first | decide | omega) ?_) | apply rg_eq | refine rg_fr (by assumption) (by first | decide | (simp; omega)) ?_)) rfl rfl rfl ⟨(Nat.le_of_ble_eq_true rfl), (Nat.le_of_ble_eq_true rfl)⟩ (Nat.le_of_ble_eq_true rfl) ⟨(Nat.le_of_ble_eq_true rfl), (Nat.le_of_ble_eq_true rfl)⟩ ?_
    rintro _ _ ⟨rfl, rfl⟩
    refine a_istore 26 dX11_catchMight_24 rfl (by decide) ?_
    refine a_aload_n 27 dX11_catchMight_26 rfl rfl ?_
    refine a_aload_n 28 dX11_catchMight_27 rfl rfl ?_
    refine a_aload_n 29 dX11_catchMight_28 rfl rfl ?_
    refine a_iload 31 dX11_catchMight_29 rfl rfl ?_
    refine a_callS ok_X11_takenMight ln_X11_393 is_X11_takenMight rfl 34 dX11_catchMight_31 rfl (k_X11_takenMight hl0 ha hb pa pb _) rfl rfl ⟨(Nat.le_of_ble_eq_true rfl), (Nat.le_of_ble_eq_true rfl)⟩ (Nat.le_of_ble_eq_true rfl) ⟨(Nat.le_of_ble_eq_true rfl), (Nat.le_of_ble_eq_true rfl)⟩ ?_
    rintro _ _ ⟨rfl, rfl⟩
    exact a_ireturn dX11_catchMight_34 rfl rfl (Nat.le_of_ble_eq_true rfl) (Nat.le_of_ble_eq_true rfl) ⟨rfl, by rw [if_neg (b_eq0.mp c_6)]⟩
  · refine a_aload_n 10 dX11_catchMight_9 rfl rfl ?_
    refine a_iconst (1) 11 dX11_catchMight_10 rfl (by decide) ?_
    refine a_callV ok_X5_number ln_X11_184 in_X5_number rfl 14 dX11_catchMight_11 rfl (k_X5_num hl1 hl2 1 (by decide)) (by repeat (first | assumption | (refine rg_ne (by first | decide | omega) ?_) | apply rg_eq | refine rg_fr (by assumption) (by first | decide | (simp; omega)) ?_)) rfl rfl rfl ⟨(Nat.le_of_ble_eq_true rfl), (Nat.le_of_ble_eq_true rfl)⟩ (Nat.le_of_ble_eq_true rfl) ⟨(Nat.le_of_ble_eq_true rfl), (Nat.le_of_ble_eq_true rfl)⟩ ?_
    rintro _ _ ⟨rfl, rfl⟩
    refine a_goto 24 dX11_catchMight_14 (by decide) ?_
    refine a_istore 26 dX11_catchMight_24 rfl (by decide) ?_
    refine a_aload_n 27 dX11_catchMight_26 rfl rfl ?_
    refine a_aload_n 28 dX11_catchMight_27 rfl rfl ?_
    refine a_aload_n 29 dX11_catchMight_28 rfl rfl ?_
    refine a_iload 31 dX11_catchMight_29 rfl rfl ?_
    refine a_callS ok_X11_takenMight ln_X11_393 is_X11_takenMight rfl 34 dX11_catchMight_31 rfl (k_X11_takenMight hl0 ha hb pa pb _) rfl rfl ⟨(Nat.le_of_ble_eq_true rfl), (Nat.le_of_ble_eq_true rfl)⟩ (Nat.le_of_ble_eq_true rfl) ⟨(Nat.le_of_ble_eq_true rfl), (Nat.le_of_ble_eq_true rfl)⟩ ?_
    rintro _ _ ⟨rfl, rfl⟩
    exact a_ireturn dX11_catchMight_34 rfl rfl (Nat.le_of_ble_eq_true rfl) (Nat.le_of_ble_eq_true rfl) ⟨rfl, by rw [if_pos (Decidable.not_not.mp (fun q => c_6 (if_neg q)))]⟩
set_option maxRecDepth 100000 in
set_option maxHeartbeats 400000 in
theorem k_X11_filmMight (hl : lawAtC G h b0 cb fl) (ha : h[a]? = some (pc ci nu sl ki se)) (hb : h[b]? = some (pc ck nv sm kj sf)) (pa : isP ci) (pb : isP ck) : rM l G 4 mX11_filmMight 0 0 [.ref (gN G + b0), .ref (gN G + a), .ref (gN G + b)] h (rV h (some (.int (tkmI ci fl ki kj (fl 1))))) := by
  have hl0 := hl
  obtain ⟨hl1, hl2⟩ := hl
  refine rM_start (by decide) (Nat.le_of_ble_eq_true rfl) ?_
  refine a_aload_n 1 dX11_filmMight_0 rfl rfl ?_
  refine a_aload_n 2 dX11_filmMight_1 rfl rfl ?_
  refine a_aload_n 3 dX11_filmMight_2 rfl rfl ?_
  refine a_aload_n 4 dX11_filmMight_3 rfl rfl ?_
  refine a_iconst (1) 5 dX11_filmMight_4 rfl (by decide) ?_
  refine a_callV ok_X5_number ln_X11_184 in_X5_number rfl 8 dX11_filmMight_5 rfl (k_X5_num hl1 hl2 1 (by decide)) (by repeat (first | assumption | (refine rg_ne (by first | decide | omega) ?_) | apply rg_eq | refine rg_fr (by assumption) (by first | decide | (simp; omega)) ?_)) rfl rfl rfl ⟨(Nat.le_of_ble_eq_true rfl), (Nat.le_of_ble_eq_true rfl)⟩ (Nat.le_of_ble_eq_true rfl) ⟨(Nat.le_of_ble_eq_true rfl), (Nat.le_of_ble_eq_true rfl)⟩ ?_
  rintro _ _ ⟨rfl, rfl⟩
  refine a_callS ok_X11_takenMight ln_X11_393 is_X11_takenMight rfl 11 dX11_filmMight_8 rfl (k_X11_takenMight hl0 ha hb pa pb _) rfl rfl ⟨(Nat.le_of_ble_eq_true rfl), (Nat.le_of_ble_eq_true rfl)⟩ (Nat.le_of_ble_eq_true rfl) ⟨(Nat.le_of_ble_eq_true rfl), (Nat.le_of_ble_eq_true rfl)⟩ ?_
  rintro _ _ ⟨rfl, rfl⟩
  exact a_ireturn dX11_filmMight_11 rfl rfl (Nat.le_of_ble_eq_true rfl) (Nat.le_of_ble_eq_true rfl) ⟨rfl, rfl⟩
end YTM
