/-! THE CLASS's ones: who sees, who hears -/
def isP (ci : Nat) : Prop := ci = 7 ∨ ci = 3 ∨ ci = 4
theorem a_getP {l : Launch} {G : rG} {R : Room} {μ : rMth} {Z : rZt} {k n pc : Nat} {ls : List (Option Value)} {st : List Value} {h : rH} {own : String} {idx ci j a : Nat} {fs : List Value} {v : Value} (x7 : rFld own idx 7 j RX7 TX7 4) (x3 : rFld own idx 3 j RX3 TX3 4) (x4 : rFld own idx 4 j RX4 TX4 4) (hci : isP ci) (ho : μ.1.cls = own) (q : Nat) (d : decode μ.2.1 pc = .ok (.getfield idx, 3)) (hq : pc + 3 = q) (hc : h[a]? = some (.inr (ci, fs))) (hv : fs[j]? = some v) (kk : rW l G R μ Z k n q ls (v :: st) h) : rW l G R μ Z k n pc ls (.ref (gN G + a) :: st) h := by
  rcases hci with rfl | rfl | rfl
  · exact a_get x7 ho q d hq hc hv kk
  · exact a_get x3 ho q d hq hc hv kk
  · exact a_get x4 ho q d hq hc hv kk
/-- d is on the line that L tells of c -/
abbrev onL (L : Nat → Int32) (c d : Int32) : Prop := (((if 0 ≤ c ∧ c < 32 then L c.toNatClampNeg else 0).toUInt32 >>> (d.toUInt32 &&& Int32.toUInt32 31)).toInt32 &&& 1) = 1
/-- the class's carriage: its numbers and arrays -/
def ccAt (G : rG) (h : rH) (w n m bc : Int32) (f s L B : Nat → Int32) : Prop :=
  h[7]? = some (.inr (1, [.ref (gN G + 8), .ref (gN G + 9), .ref (gN G + 10), .ref (gN G + 11), .int w, .int n, .int m, .int bc])) ∧ h[8]? = some (.inl (gA G 0, 32, .inl f)) ∧ h[9]? = some (.inl (gA G 0, 32, .inl s)) ∧ h[10]? = some (.inl (gA G 0, 32, .inl L)) ∧ h[11]? = some (.inl (gA G 1, 64, .inl B))
section YTO
variable {l : Launch} {G : rG} {h : rH} {on lc lf mk : Int32} {w n m bc : Int32} {f s L B g : Nat → Int32} {a b ci ck : Nat} {nu sl ki se nv sm kj sf : Int32}
set_option maxRecDepth 100000 in
set_option maxHeartbeats 400000 in
theorem k_X11_weighed (hy : h[0]? = some (ytc G on lc lf mk)) (hf : h[26]? = some (.inl (gA G 0, 144, .inl g))) (x y : Int32) : rM l G 0 mX11_weighed 0 0 [.ref (gN G + 0), .int x, .int y] h (rV h (some (.int (if 0 ≤ x * 12 + y ∧ x * 12 + y < 144 then g (x * 12 + y).toNatClampNeg else 0)))) := by
  refine rM_start (by decide) (Nat.le_of_ble_eq_true rfl) ?_
  refine a_iload_n 1 dX11_weighed_0 rfl rfl ?_
  refine a_bipush (12) 3 dX11_weighed_1 rfl (by decide) ?_
  refine a_imul 4 dX11_weighed_3 rfl ?_
  refine a_iload_n 5 dX11_weighed_4 rfl rfl ?_
  refine a_iadd 6 dX11_weighed_5 rfl ?_
  refine a_istore_n 7 dX11_weighed_6 rfl (by decide) ?_
  refine a_iload_n 8 dX11_weighed_7 rfl rfl ?_
  refine a_if_lt 29 11 dX11_weighed_8 rfl (by decide) (fun c_8 => ?_) (fun c_8 => ?_)
  · refine a_iconst (0) 30 dX11_weighed_29 rfl (by decide) ?_
    exact a_ireturn dX11_weighed_30 rfl rfl (Nat.le_of_ble_eq_true rfl) (Nat.le_of_ble_eq_true rfl) ⟨rfl, by simp only [i_lt, i_le, Int32.reduceToInt, Int32.reduceOfNat] at *; first | rw [if_pos (by omega)] | rw [if_neg (by omega)]⟩
  · refine a_iload_n 12 dX11_weighed_11 rfl rfl ?_
    refine a_aload_n 13 dX11_weighed_12 rfl rfl ?_
    refine a_get fd_X11_68 rfl 16 dX11_weighed_13 rfl (by repeat (first | assumption | (refine rg_ne (by first | decide | omega) ?_) | apply rg_eq | refine rg_fr (by assumption) (by first | decide | (simp; omega)) ?_)) rfl ?_
    refine a_alen_0 17 dX11_weighed_16 rfl (by repeat (first | assumption | (refine rg_ne (by first | decide | omega) ?_) | apply rg_eq | refine rg_fr (by assumption) (by first | decide | (simp; omega)) ?_)) ?_
    refine a_icmp_ge 29 20 dX11_weighed_17 rfl (by decide) (fun c_17 => ?_) (fun c_17 => ?_)
    · refine a_iconst (0) 30 dX11_weighed_29 rfl (by decide) ?_
      exact a_ireturn dX11_weighed_30 rfl rfl (Nat.le_of_ble_eq_true rfl) (Nat.le_of_ble_eq_true rfl) ⟨rfl, by simp only [i_lt, i_le, Int32.reduceToInt, Int32.reduceOfNat] at *; first | rw [if_pos (by omega)] | rw [if_neg (by omega)]⟩
    · refine a_aload_n 21 dX11_weighed_20 rfl rfl ?_
      refine a_get fd_X11_68 rfl 24 dX11_weighed_21 rfl (by repeat (first | assumption | (refine rg_ne (by first | decide | omega) ?_) | apply rg_eq | refine rg_fr (by assumption) (by first | decide | (simp; omega)) ?_)) rfl ?_
      refine a_iload_n 25 dX11_weighed_24 rfl rfl ?_
      refine a_iaload 26 dX11_weighed_25 rfl (by repeat (first | assumption | (refine rg_ne (by first | decide | omega) ?_) | apply rg_eq | refine rg_fr (by assumption) (by first | decide | (simp; omega)) ?_)) (vin_ge c_8 c_17 (by decide)) ?_
      refine a_goto 30 dX11_weighed_26 (by decide) ?_
      exact a_ireturn dX11_weighed_30 rfl rfl (Nat.le_of_ble_eq_true rfl) (Nat.le_of_ble_eq_true rfl) ⟨rfl, by simp only [i_lt, i_le, Int32.reduceToInt, Int32.reduceOfNat] at *; first | rw [if_pos (by omega)] | rw [if_neg (by omega)]⟩
set_option maxRecDepth 100000 in
set_option maxHeartbeats 400000 in
theorem k_X11_sees (hy : h[0]? = some (ytc G on lc lf mk)) (hc : ccAt G h w n m bc f s L B) (ha : h[a]? = some (pc ci nu sl ki se)) (hb : h[b]? = some (pc ck nv sm kj sf)) (pa : isP ci) (pb : isP ck) : rM l G 2 mX11_sees 0 0 [.ref (gN G + 0), .ref (gN G + a), .ref (gN G + b)] h (rV h (some (.int (if a ≠ b ∧ onL L se sf then 1 else 0)))) := by
  obtain ⟨hc1, hc2, hc3, hc4, hc5⟩ := hc
  refine rM_start (by decide) (Nat.le_of_ble_eq_true rfl) ?_
  refine a_aload_n 1 dX11_sees_0 rfl rfl ?_
  refine a_aload_n 2 dX11_sees_1 rfl rfl ?_
  refine a_acmp_eq 27 5 dX11_sees_2 rfl (by decide) (fun c_2 => ?_) (fun c_2 => ?_)
  · refine a_iconst (0) 28 dX11_sees_27 rfl (by decide) ?_
    exact a_ireturn dX11_sees_28 rfl rfl (Nat.le_of_ble_eq_true rfl) (Nat.le_of_ble_eq_true rfl) ⟨rfl, by rw [if_neg (fun q => q.1 (by omega))]⟩
  · refine a_aload_n 6 dX11_sees_5 rfl rfl ?_
    refine a_get fd_X11_34 rfl 9 dX11_sees_6 rfl (by repeat (first | assumption | (refine rg_ne (by first | decide | omega) ?_) | apply rg_eq | refine rg_fr (by assumption) (by first | decide | (simp; omega)) ?_)) rfl ?_
    refine a_aload_n 10 dX11_sees_9 rfl rfl ?_
    refine a_getP fd_X11_145_X7 fd_X11_145_X3 fd_X11_145_X4 pa rfl 13 dX11_sees_10 rfl (by repeat (first | assumption | (refine rg_ne (by first | decide | omega) ?_) | apply rg_eq | refine rg_fr (by assumption) (by first | decide | (simp; omega)) ?_)) rfl ?_
    refine a_aload_n 14 dX11_sees_13 rfl rfl ?_
    refine a_getP fd_X11_145_X7 fd_X11_145_X3 fd_X11_145_X4 pb rfl 17 dX11_sees_14 rfl (by repeat (first | assumption | (refine rg_ne (by first | decide | omega) ?_) | apply rg_eq | refine rg_fr (by assumption) (by first | decide | (simp; omega)) ?_)) rfl ?_
    refine a_callV ok_X1_isOnLine ln_X11_123 in_X1_isOnLine rfl 20 dX11_sees_17 rfl (k_X1_isOnLine hc1 hc4 _ _) (by repeat (first | assumption | (refine rg_ne (by first | decide | omega) ?_) | apply rg_eq | refine rg_fr (by assumption) (by first | decide | (simp; omega)) ?_)) rfl rfl rfl ⟨(Nat.le_of_ble_eq_true rfl), (Nat.le_of_ble_eq_true rfl)⟩ (Nat.le_of_ble_eq_true rfl) ⟨(Nat.le_of_ble_eq_true rfl), (Nat.le_of_ble_eq_true rfl)⟩ ?_
    rintro _ _ ⟨rfl, rfl⟩
    refine a_if_eq 27 23 dX11_sees_20 rfl (by decide) (fun c_20 => ?_) (fun c_20 => ?_)
    · refine a_iconst (0) 28 dX11_sees_27 rfl (by decide) ?_
      exact a_ireturn dX11_sees_28 rfl rfl (Nat.le_of_ble_eq_true rfl) (Nat.le_of_ble_eq_true rfl) ⟨rfl, by rw [if_neg (fun q => b_eq0.mp c_20 q.2)]⟩
    · refine a_iconst (1) 24 dX11_sees_23 rfl (by decide) ?_
      refine a_goto 28 dX11_sees_24 (by decide) ?_
      exact a_ireturn dX11_sees_28 rfl rfl (Nat.le_of_ble_eq_true rfl) (Nat.le_of_ble_eq_true rfl) ⟨rfl, by rw [if_pos ⟨fun q => c_2 (by rw [q]), Decidable.not_not.mp (fun q => c_20 (if_neg q))⟩]⟩
set_option maxRecDepth 100000 in
set_option maxHeartbeats 400000 in
theorem k_X11_hears (hy : h[0]? = some (ytc G on lc lf mk)) (hc : ccAt G h w n m bc f s L B) (ha : h[a]? = some (pc ci nu sl ki se)) (hb : h[b]? = some (pc ck nv sm kj sf)) (pa : isP ci) (pb : isP ck) : rM l G 2 mX11_hears 0 0 [.ref (gN G + 0), .ref (gN G + a), .ref (gN G + b)] h (rV h (some (.int (if 0 ≤ gapW w n se sf then 1 else 0)))) := by
  obtain ⟨hc1, hc2, hc3, hc4, hc5⟩ := hc
  refine rM_start (by decide) (Nat.le_of_ble_eq_true rfl) ?_
  refine a_aload_n 1 dX11_hears_0 rfl rfl ?_
  refine a_get fd_X11_34 rfl 4 dX11_hears_1 rfl (by repeat (first | assumption | (refine rg_ne (by first | decide | omega) ?_) | apply rg_eq | refine rg_fr (by assumption) (by first | decide | (simp; omega)) ?_)) rfl ?_
  refine a_aload_n 5 dX11_hears_4 rfl rfl ?_
  refine a_getP fd_X11_145_X7 fd_X11_145_X3 fd_X11_145_X4 pa rfl 8 dX11_hears_5 rfl (by repeat (first | assumption | (refine rg_ne (by first | decide | omega) ?_) | apply rg_eq | refine rg_fr (by assumption) (by first | decide | (simp; omega)) ?_)) rfl ?_
  refine a_aload_n 9 dX11_hears_8 rfl rfl ?_
  refine a_getP fd_X11_145_X7 fd_X11_145_X3 fd_X11_145_X4 pb rfl 12 dX11_hears_9 rfl (by repeat (first | assumption | (refine rg_ne (by first | decide | omega) ?_) | apply rg_eq | refine rg_fr (by assumption) (by first | decide | (simp; omega)) ?_)) rfl ?_
  refine a_callV ok_X1_gapBetween ln_X11_127 in_X1_gapBetween rfl 15 dX11_hears_12 rfl (k_X1_gapBetween hc1 _ _) (by repeat (first | assumption | (refine rg_ne (by first | decide | omega) ?_) | apply rg_eq | refine rg_fr (by assumption) (by first | decide | (simp; omega)) ?_)) rfl rfl rfl ⟨(Nat.le_of_ble_eq_true rfl), (Nat.le_of_ble_eq_true rfl)⟩ (Nat.le_of_ble_eq_true rfl) ⟨(Nat.le_of_ble_eq_true rfl), (Nat.le_of_ble_eq_true rfl)⟩ ?_
  rintro _ _ ⟨rfl, rfl⟩
  refine a_if_lt 22 18 dX11_hears_15 rfl (by decide) (fun c_15 => ?_) (fun c_15 => ?_)
  · refine a_iconst (0) 23 dX11_hears_22 rfl (by decide) ?_
    exact a_ireturn dX11_hears_23 rfl rfl (Nat.le_of_ble_eq_true rfl) (Nat.le_of_ble_eq_true rfl) ⟨rfl, by rw [if_neg (Int32.not_le.mpr c_15)]⟩
  · refine a_iconst (1) 19 dX11_hears_18 rfl (by decide) ?_
    refine a_goto 23 dX11_hears_19 (by decide) ?_
    exact a_ireturn dX11_hears_23 rfl rfl (Nat.le_of_ble_eq_true rfl) (Nat.le_of_ble_eq_true rfl) ⟨rfl, by rw [if_pos (Int32.not_lt.mp c_15)]⟩
end YTO
