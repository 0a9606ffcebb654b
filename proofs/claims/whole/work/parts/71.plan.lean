/-! THE CLASS's plan of blinds, its small methods -/
def plAt (G : rG) (h : rH) (fr tk sv : Int32) (ga pl li al bo pa ch : Nat → Int32) : Prop := h[17]? = some (.inr (0, [.ref (gN G + 18), .ref (gN G + 19), .ref (gN G + 20), .ref (gN G + 21), .ref (gN G + 22), .ref (gN G + 23), .ref (gN G + 24), .int fr, .int tk, .int sv])) ∧ h[18]? = some (.inl (gA G 0, 52, .inl ga)) ∧ h[19]? = some (.inl (gA G 0, 64, .inl pl)) ∧ h[20]? = some (.inl (gA G 0, 52, .inl li)) ∧ h[21]? = some (.inl (gA G 0, 52, .inl al)) ∧ h[22]? = some (.inl (gA G 0, 2704, .inl bo)) ∧ h[23]? = some (.inl (gA G 0, 32, .inl pa)) ∧ h[24]? = some (.inl (gA G 0, 3, .inl ch))
theorem ix_52 (x y : Nat) : nI x * 52 + nI y = nI (x * 52 + y) := by
  rw [show (52 : Int32) = nI 52 from rfl, pk_mul, nI_add]
/-- the best set yet: what it saves, how many (0: none), which -/
abbrev offS : Type := Int32 × Int32 × (Nat → Int32)
def offF (s : offS) (w a b c : Int32) : offS := if s.2.1 ≠ 0 ∧ w ≤ s.1 then s else (w, (if b = -9 then 1 else if c = -9 then 2 else 3), upd (upd (upd s.2.2 0 a) 1 b) 2 c)
section PLAN
variable {l : Launch} {G : rG} {h : rH} {fr1 tk sv : Int32} {ga pl li al bo pa ch : Nat → Int32}
set_option maxRecDepth 100000 in
set_option maxHeartbeats 400000 in
theorem k_X0_addAlone (hp : plAt G h fr1 tk sv ga pl li al bo pa ch) {x : Nat} (hx : x < 52) (v : Int32) : rM l G 0 mX0_addAlone 0 0 [.ref (gN G + 17), .int (nI x), .int v] h (fun h' w => w = none ∧ plAt G h' fr1 tk sv ga pl li (upd al x (al x + v)) bo pa ch ∧ fr h h' [21]) := by
  obtain ⟨p1, p2, p3, p4, p5, p6, p7, p8⟩ := hp
  have vx : vp_in (nI x) 52 := vp_in_nI hx (by decide)
  have e0 : (nI x).toNatClampNeg = x := nI_clamp (by omega)
  refine rM_start (by decide) (Nat.le_of_ble_eq_true rfl) ?_
  refine a_iload_n 1 dX0_addAlone_0 rfl rfl ?_
  refine a_if_lt 23 4 dX0_addAlone_1 rfl (by decide) (fun c_1 => absurd c_1 (nI_pos (by omega))) (fun c_1 => ?_)
  refine a_iload_n 5 dX0_addAlone_4 rfl rfl ?_
  refine a_aload_n 6 dX0_addAlone_5 rfl rfl ?_
  refine a_get fd_X0_21 rfl 9 dX0_addAlone_6 rfl (by repeat (first | assumption | (refine rg_ne (by first | decide | omega) ?_) | apply rg_eq | refine rg_fr (by assumption) (by first | decide | (simp; omega)) ?_)) rfl ?_
  refine a_alen_0 10 dX0_addAlone_9 rfl (by repeat (first | assumption | (refine rg_ne (by first | decide | omega) ?_) | apply rg_eq | refine rg_fr (by assumption) (by first | decide | (simp; omega)) ?_)) ?_
  refine a_icmp_ge 23 13 dX0_addAlone_10 rfl (by decide) (fun c_10 => absurd c_10 (nI_ge (a := x) (b := 52) (by omega) (by decide))) (fun c_10 => ?_)
  refine a_aload_n 14 dX0_addAlone_13 rfl rfl ?_
  refine a_get fd_X0_21 rfl 17 dX0_addAlone_14 rfl (by repeat (first | assumption | (refine rg_ne (by first | decide | omega) ?_) | apply rg_eq | refine rg_fr (by assumption) (by first | decide | (simp; omega)) ?_)) rfl ?_
  refine a_iload_n 18 dX0_addAlone_17 rfl rfl ?_
  refine a_dup2 19 dX0_addAlone_18 rfl rfl rfl ?_
  refine a_iaload 20 dX0_addAlone_19 rfl (by repeat (first | assumption | (refine rg_ne (by first | decide | omega) ?_) | apply rg_eq | refine rg_fr (by assumption) (by first | decide | (simp; omega)) ?_)) vx ?_
  refine a_iload_n 21 dX0_addAlone_20 rfl rfl ?_
  refine a_iadd 22 dX0_addAlone_21 rfl ?_
  refine a_iastore 23 dX0_addAlone_22 rfl (by repeat (first | assumption | (refine rg_ne (by first | decide | omega) ?_) | apply rg_eq | refine rg_fr (by assumption) (by first | decide | (simp; omega)) ?_)) vx ?_
  exact a_return dX0_addAlone_23 rfl (Nat.le_of_ble_eq_true rfl) (Nat.le_of_ble_eq_true rfl) ⟨rfl, by rw [e0]; exact ⟨rg_ne (by decide) p1, rg_ne (by decide) p2, rg_ne (by decide) p3, rg_ne (by decide) p4, rg_eq p5, rg_ne (by decide) p6, rg_ne (by decide) p7, rg_ne (by decide) p8⟩, fr_set (fr_refl _ _) (by decide)⟩
set_option maxRecDepth 100000 in
set_option maxHeartbeats 400000 in
theorem k_X0_addBoth (hp : plAt G h fr1 tk sv ga pl li al bo pa ch) {x y : Nat} (hx : x < 52) (hy : y < 52) (v : Int32) : rM l G 0 mX0_addBoth 0 0 [.ref (gN G + 17), .int (nI x), .int (nI y), .int v] h (fun h' w => w = none ∧ plAt G h' fr1 tk sv ga pl li al (upd bo (x * 52 + y) (bo (x * 52 + y) + v)) pa ch ∧ fr h h' [22]) := by
  obtain ⟨p1, p2, p3, p4, p5, p6, p7, p8⟩ := hp
  have vx : vp_in (nI (x * 52 + y)) 2704 := vp_in_nI (by omega) (by decide)
  have e0 : (nI (x * 52 + y)).toNatClampNeg = x * 52 + y := nI_clamp (by omega)
  refine rM_start (by decide) (Nat.le_of_ble_eq_true rfl) ?_
  refine a_iload_n 1 dX0_addBoth_0 rfl rfl ?_
  refine a_bipush (52) 3 dX0_addBoth_1 rfl (by decide) ?_
  refine a_imul 4 dX0_addBoth_3 rfl ?_
  refine a_iload_n 5 dX0_addBoth_4 rfl rfl ?_
  refine a_iadd 6 dX0_addBoth_5 rfl ?_
  rw [ix_52]
  refine a_istore 8 dX0_addBoth_6 rfl (by decide) ?_
  refine a_iload 10 dX0_addBoth_8 rfl rfl ?_
  refine a_if_lt 34 13 dX0_addBoth_10 rfl (by decide) (fun c_10 => absurd c_10 (nI_pos (by omega))) (fun c_10 => ?_)
  refine a_iload 15 dX0_addBoth_13 rfl rfl ?_
  refine a_aload_n 16 dX0_addBoth_15 rfl rfl ?_
  refine a_get fd_X0_24 rfl 19 dX0_addBoth_16 rfl (by repeat (first | assumption | (refine rg_ne (by first | decide | omega) ?_) | apply rg_eq | refine rg_fr (by assumption) (by first | decide | (simp; omega)) ?_)) rfl ?_
  refine a_alen_0 20 dX0_addBoth_19 rfl (by repeat (first | assumption | (refine rg_ne (by first | decide | omega) ?_) | apply rg_eq | refine rg_fr (by assumption) (by first | decide | (simp; omega)) ?_)) ?_
  refine a_icmp_ge 34 23 dX0_addBoth_20 rfl (by decide) (fun c_20 => absurd c_20 (nI_ge (a := x * 52 + y) (b := 2704) (by omega) (by decide))) (fun c_20 => ?_)
  refine a_aload_n 24 dX0_addBoth_23 rfl rfl ?_
  refine a_get fd_X0_24 rfl 27 dX0_addBoth_24 rfl (by repeat (first | assumption | (refine rg_ne (by first | decide | omega) ?_) | apply rg_eq | refine rg_fr (by assumption) (by first | decide | (simp; omega)) ?_)) rfl ?_
  refine a_iload 29 dX0_addBoth_27 rfl rfl ?_
  refine a_dup2 30 dX0_addBoth_29 rfl rfl rfl ?_
  refine a_iaload 31 dX0_addBoth_30 rfl (by repeat (first | assumption | (refine rg_ne (by first | decide | omega) ?_) | apply rg_eq | refine rg_fr (by assumption) (by first | decide | (simp; omega)) ?_)) vx ?_
  refine a_iload_n 32 dX0_addBoth_31 rfl rfl ?_
  refine a_iadd 33 dX0_addBoth_32 rfl ?_
  refine a_iastore 34 dX0_addBoth_33 rfl (by repeat (first | assumption | (refine rg_ne (by first | decide | omega) ?_) | apply rg_eq | refine rg_fr (by assumption) (by first | decide | (simp; omega)) ?_)) vx ?_
  exact a_return dX0_addBoth_34 rfl (Nat.le_of_ble_eq_true rfl) (Nat.le_of_ble_eq_true rfl) ⟨rfl, by rw [e0]; exact ⟨rg_ne (by decide) p1, rg_ne (by decide) p2, rg_ne (by decide) p3, rg_ne (by decide) p4, rg_ne (by decide) p5, rg_eq p6, rg_ne (by decide) p7, rg_ne (by decide) p8⟩, fr_set (fr_refl _ _) (by decide)⟩
set_option maxRecDepth 100000 in
set_option maxHeartbeats 400000 in
theorem k_X0_savedAlone (hp : plAt G h fr1 tk sv ga pl li al bo pa ch) {x : Nat} (hx : x < 52) : rM l G 0 mX0_savedAlone 0 0 [.ref (gN G + 17), .int (nI x)] h (rV h (some (.int (al x)))) := by
  obtain ⟨p1, p2, p3, p4, p5, p6, p7, p8⟩ := hp
  have vx : vp_in (nI x) 52 := vp_in_nI hx (by decide)
  have e0 : (nI x).toNatClampNeg = x := nI_clamp (by omega)
  refine rM_start (by decide) (Nat.le_of_ble_eq_true rfl) ?_
  refine a_iload_n 1 dX0_savedAlone_0 rfl rfl ?_
  refine a_if_lt 22 4 dX0_savedAlone_1 rfl (by decide) (fun c_1 => absurd c_1 (nI_pos (by omega))) (fun c_1 => ?_)
  refine a_iload_n 5 dX0_savedAlone_4 rfl rfl ?_
  refine a_aload_n 6 dX0_savedAlone_5 rfl rfl ?_
  refine a_get fd_X0_21 rfl 9 dX0_savedAlone_6 rfl (by repeat (first | assumption | (refine rg_ne (by first | decide | omega) ?_) | apply rg_eq | refine rg_fr (by assumption) (by first | decide | (simp; omega)) ?_)) rfl ?_
  refine a_alen_0 10 dX0_savedAlone_9 rfl (by repeat (first | assumption | (refine rg_ne (by first | decide | omega) ?_) | apply rg_eq | refine rg_fr (by assumption) (by first | decide | (simp; omega)) ?_)) ?_
  refine a_icmp_ge 22 13 dX0_savedAlone_10 rfl (by decide) (fun c_10 => absurd c_10 (nI_ge (a := x) (b := 52) (by omega) (by decide))) (fun c_10 => ?_)
  refine a_aload_n 14 dX0_savedAlone_13 rfl rfl ?_
  refine a_get fd_X0_21 rfl 17 dX0_savedAlone_14 rfl (by repeat (first | assumption | (refine rg_ne (by first | decide | omega) ?_) | apply rg_eq | refine rg_fr (by assumption) (by first | decide | (simp; omega)) ?_)) rfl ?_
  refine a_iload_n 18 dX0_savedAlone_17 rfl rfl ?_
  refine a_iaload 19 dX0_savedAlone_18 rfl (by repeat (first | assumption | (refine rg_ne (by first | decide | omega) ?_) | apply rg_eq | refine rg_fr (by assumption) (by first | decide | (simp; omega)) ?_)) vx ?_
  refine a_goto 23 dX0_savedAlone_19 (by decide) ?_
  exact a_ireturn dX0_savedAlone_23 rfl rfl (Nat.le_of_ble_eq_true rfl) (Nat.le_of_ble_eq_true rfl) ⟨rfl, by rw [e0]⟩
set_option maxRecDepth 100000 in
set_option maxHeartbeats 400000 in
theorem k_X0_savedBoth (hp : plAt G h fr1 tk sv ga pl li al bo pa ch) {x y : Nat} (hx : x < 52) (hy : y < 52) : rM l G 0 mX0_savedBoth 0 0 [.ref (gN G + 17), .int (nI x), .int (nI y)] h (rV h (some (.int (bo (x * 52 + y))))) := by
  obtain ⟨p1, p2, p3, p4, p5, p6, p7, p8⟩ := hp
  have vx : vp_in (nI (x * 52 + y)) 2704 := vp_in_nI (by omega) (by decide)
  have e0 : (nI (x * 52 + y)).toNatClampNeg = x * 52 + y := nI_clamp (by omega)
  refine rM_start (by decide) (Nat.le_of_ble_eq_true rfl) ?_
  refine a_iload_n 1 dX0_savedBoth_0 rfl rfl ?_
  refine a_bipush (52) 3 dX0_savedBoth_1 rfl (by decide) ?_
  refine a_imul 4 dX0_savedBoth_3 rfl ?_
  refine a_iload_n 5 dX0_savedBoth_4 rfl rfl ?_
  refine a_iadd 6 dX0_savedBoth_5 rfl ?_
  rw [ix_52]
  refine a_istore_n 7 dX0_savedBoth_6 rfl (by decide) ?_
  refine a_iload_n 8 dX0_savedBoth_7 rfl rfl ?_
  refine a_if_lt 29 11 dX0_savedBoth_8 rfl (by decide) (fun c_8 => absurd c_8 (nI_pos (by omega))) (fun c_8 => ?_)
  refine a_iload_n 12 dX0_savedBoth_11 rfl rfl ?_
  refine a_aload_n 13 dX0_savedBoth_12 rfl rfl ?_
  refine a_get fd_X0_24 rfl 16 dX0_savedBoth_13 rfl (by repeat (first | assumption | (refine rg_ne (by first | decide | omega) ?_) | apply rg_eq | refine rg_fr (by assumption) (by first | decide | (simp; omega)) ?_)) rfl ?_
  refine a_alen_0 17 dX0_savedBoth_16 rfl (by repeat (first | assumption | (refine rg_ne (by first | decide | omega) ?_) | apply rg_eq | refine rg_fr (by assumption) (by first | decide | (simp; omega)) ?_)) ?_
  refine a_icmp_ge 29 20 dX0_savedBoth_17 rfl (by decide) (fun c_17 => absurd c_17 (nI_ge (a := x * 52 + y) (b := 2704) (by omega) (by decide))) (fun c_17 => ?_)
  refine a_aload_n 21 dX0_savedBoth_20 rfl rfl ?_
  refine a_get fd_X0_24 rfl 24 dX0_savedBoth_21 rfl (by repeat (first | assumption | (refine rg_ne (by first | decide | omega) ?_) | apply rg_eq | refine rg_fr (by assumption) (by first | decide | (simp; omega)) ?_)) rfl ?_
  refine a_iload_n 25 dX0_savedBoth_24 rfl rfl ?_
  refine a_iaload 26 dX0_savedBoth_25 rfl (by repeat (first | assumption | (refine rg_ne (by first | decide | omega) ?_) | apply rg_eq | refine rg_fr (by assumption) (by first | decide | (simp; omega)) ?_)) vx ?_
  refine a_goto 30 dX0_savedBoth_26 (by decide) ?_
  exact a_ireturn dX0_savedBoth_30 rfl rfl (Nat.le_of_ble_eq_true rfl) (Nat.le_of_ble_eq_true rfl) ⟨rfl, by rw [e0]⟩
set_option maxRecDepth 100000 in
set_option maxHeartbeats 400000 in
theorem k_X0_isOneLine (hp : plAt G h fr1 tk sv ga pl li al bo pa ch) {x y : Nat} (hx : x < 52) (hy : y < 52) : rM l G 0 mX0_isOneLine 0 0 [.ref (gN G + 17), .int (nI x), .int (nI y)] h (rV h (some (.int (if li x = li y then 1 else 0)))) := by
  obtain ⟨p1, p2, p3, p4, p5, p6, p7, p8⟩ := hp
  have vx : vp_in (nI x) 52 := vp_in_nI hx (by decide)
  have vy : vp_in (nI y) 52 := vp_in_nI hy (by decide)
  have e0 : (nI x).toNatClampNeg = x := nI_clamp (by omega)
  have e1 : (nI y).toNatClampNeg = y := nI_clamp (by omega)
  refine rM_start (by decide) (Nat.le_of_ble_eq_true rfl) ?_
  refine a_iload_n 1 dX0_isOneLine_0 rfl rfl ?_
  refine a_if_lt 45 4 dX0_isOneLine_1 rfl (by decide) (fun c_1 => absurd c_1 (nI_pos (by omega))) (fun c_1 => ?_)
  refine a_iload_n 5 dX0_isOneLine_4 rfl rfl ?_
  refine a_aload_n 6 dX0_isOneLine_5 rfl rfl ?_
  refine a_get fd_X0_18 rfl 9 dX0_isOneLine_6 rfl (by repeat (first | assumption | (refine rg_ne (by first | decide | omega) ?_) | apply rg_eq | refine rg_fr (by assumption) (by first | decide | (simp; omega)) ?_)) rfl ?_
  refine a_alen_0 10 dX0_isOneLine_9 rfl (by repeat (first | assumption | (refine rg_ne (by first | decide | omega) ?_) | apply rg_eq | refine rg_fr (by assumption) (by first | decide | (simp; omega)) ?_)) ?_
  refine a_icmp_ge 45 13 dX0_isOneLine_10 rfl (by decide) (fun c_10 => absurd c_10 (nI_ge (a := x) (b := 52) (by omega) (by decide))) (fun c_10 => ?_)
  refine a_iload_n 14 dX0_isOneLine_13 rfl rfl ?_
  refine a_if_lt 45 17 dX0_isOneLine_14 rfl (by decide) (fun c_14 => absurd c_14 (nI_pos (by omega))) (fun c_14 => ?_)
  refine a_iload_n 18 dX0_isOneLine_17 rfl rfl ?_
  refine a_aload_n 19 dX0_isOneLine_18 rfl rfl ?_
  refine a_get fd_X0_18 rfl 22 dX0_isOneLine_19 rfl (by repeat (first | assumption | (refine rg_ne (by first | decide | omega) ?_) | apply rg_eq | refine rg_fr (by assumption) (by first | decide | (simp; omega)) ?_)) rfl ?_
  refine a_alen_0 23 dX0_isOneLine_22 rfl (by repeat (first | assumption | (refine rg_ne (by first | decide | omega) ?_) | apply rg_eq | refine rg_fr (by assumption) (by first | decide | (simp; omega)) ?_)) ?_
  refine a_icmp_ge 45 26 dX0_isOneLine_23 rfl (by decide) (fun c_23 => absurd c_23 (nI_ge (a := y) (b := 52) (by omega) (by decide))) (fun c_23 => ?_)
  refine a_aload_n 27 dX0_isOneLine_26 rfl rfl ?_
  refine a_get fd_X0_18 rfl 30 dX0_isOneLine_27 rfl (by repeat (first | assumption | (refine rg_ne (by first | decide | omega) ?_) | apply rg_eq | refine rg_fr (by assumption) (by first | decide | (simp; omega)) ?_)) rfl ?_
  refine a_iload_n 31 dX0_isOneLine_30 rfl rfl ?_
  refine a_iaload 32 dX0_isOneLine_31 rfl (by repeat (first | assumption | (refine rg_ne (by first | decide | omega) ?_) | apply rg_eq | refine rg_fr (by assumption) (by first | decide | (simp; omega)) ?_)) vx ?_
  refine a_aload_n 33 dX0_isOneLine_32 rfl rfl ?_
  refine a_get fd_X0_18 rfl 36 dX0_isOneLine_33 rfl (by repeat (first | assumption | (refine rg_ne (by first | decide | omega) ?_) | apply rg_eq | refine rg_fr (by assumption) (by first | decide | (simp; omega)) ?_)) rfl ?_
  refine a_iload_n 37 dX0_isOneLine_36 rfl rfl ?_
  refine a_iaload 38 dX0_isOneLine_37 rfl (by repeat (first | assumption | (refine rg_ne (by first | decide | omega) ?_) | apply rg_eq | refine rg_fr (by assumption) (by first | decide | (simp; omega)) ?_)) vy ?_
  rw [e0, e1]
  refine a_icmp_ne 45 41 dX0_isOneLine_38 rfl (by decide) (fun c_38 => ?_) (fun c_38 => ?_)
  · refine a_iconst (0) 46 dX0_isOneLine_45 rfl (by decide) ?_
    exact a_ireturn dX0_isOneLine_46 rfl rfl (Nat.le_of_ble_eq_true rfl) (Nat.le_of_ble_eq_true rfl) ⟨rfl, by rw [if_neg c_38]⟩
  · refine a_iconst (1) 42 dX0_isOneLine_41 rfl (by decide) ?_
    refine a_goto 46 dX0_isOneLine_42 (by decide) ?_
    exact a_ireturn dX0_isOneLine_46 rfl rfl (Nat.le_of_ble_eq_true rfl) (Nat.le_of_ble_eq_true rfl) ⟨rfl, by rw [if_pos c_38]⟩
set_option maxRecDepth 100000 in
set_option maxHeartbeats 400000 in
theorem k_X0_offer (hp : plAt G h fr1 tk sv ga pl li al bo pa ch) (w a b c : Int32) : rM l G 0 mX0_offer 0 0 [.ref (gN G + 17), .int w, .int a, .int b, .int c] h (fun h' v => v = none ∧ plAt G h' fr1 (offF (sv, tk, ch) w a b c).2.1 (offF (sv, tk, ch) w a b c).1 ga pl li al bo pa (offF (sv, tk, ch) w a b c).2.2 ∧ fr h h' [17, 24]) := by
  have hp0 := hp
  obtain ⟨p1, p2, p3, p4, p5, p6, p7, p8⟩ := hp
  have v0 : vp_in (0 : Int32) 3 := vp_in_nI (n := 0) (by decide) (by decide)
  have v1 : vp_in (1 : Int32) 3 := vp_in_nI (n := 1) (by decide) (by decide)
  have v2 : vp_in (2 : Int32) 3 := vp_in_nI (n := 2) (by decide) (by decide)
  have E : ∀ (t : Int32) (N : ¬ (tk ≠ 0 ∧ w ≤ sv)), t = (if b = -9 then 1 else if c = -9 then 2 else 3) → ∀ h', h'[17]? = some (.inr (0, [.ref (gN G + 18), .ref (gN G + 19), .ref (gN G + 20), .ref (gN G + 21), .ref (gN G + 22), .ref (gN G + 23), .ref (gN G + 24), .int fr1, .int t, .int w])) → h'[24]? = some (.inl (gA G 0, 3, .inl (upd (upd (upd ch 0 a) 1 b) 2 c))) → fr h h' [17, 24] → (plAt G h' fr1 (offF (sv, tk, ch) w a b c).2.1 (offF (sv, tk, ch) w a b c).1 ga pl li al bo pa (offF (sv, tk, ch) w a b c).2.2 ∧ fr h h' [17, 24]) := by
    intro t N ht h' g17 g24 hf
    have eo : offF (sv, tk, ch) w a b c = (w, (if b = -9 then 1 else if c = -9 then 2 else 3), upd (upd (upd ch 0 a) 1 b) 2 c) := if_neg N
    rw [eo, ← ht]
    exact ⟨⟨g17, rg_fr hf (by decide) p2, rg_fr hf (by decide) p3, rg_fr hf (by decide) p4, rg_fr hf (by decide) p5, rg_fr hf (by decide) p6, rg_fr hf (by decide) p7, g24⟩, hf⟩
  refine rM_start (by decide) (Nat.le_of_ble_eq_true rfl) ?_
  refine a_aload_n 1 dX0_offer_0 rfl rfl ?_
  refine a_get fd_X0_84 rfl 4 dX0_offer_1 rfl (by repeat (first | assumption | (refine rg_ne (by first | decide | omega) ?_) | apply rg_eq | refine rg_fr (by assumption) (by first | decide | (simp; omega)) ?_)) rfl ?_
  refine a_if_eq 16 7 dX0_offer_4 rfl (by decide) (fun c_4 => ?_) (fun c_4 => ?_)
  · refine a_aload_n 17 dX0_offer_16 rfl rfl ?_
    refine a_iload_n 18 dX0_offer_17 rfl rfl ?_
    refine a_put fd_X0_107 cl_X0 rfl 21 dX0_offer_18 rfl (by repeat (first | assumption | (refine rg_ne (by first | decide | omega) ?_) | apply rg_eq | refine rg_fr (by assumption) (by first | decide | (simp; omega)) ?_)) (Nat.le_of_ble_eq_true rfl) rfl rfl rfl ?_
    refine a_aload_n 22 dX0_offer_21 rfl rfl ?_
    refine a_get fd_X0_30 rfl 25 dX0_offer_22 rfl (by repeat (first | assumption | (refine rg_ne (by first | decide | omega) ?_) | apply rg_eq | refine rg_fr (by assumption) (by first | decide | (simp; omega)) ?_)) rfl ?_
    refine a_alen_0 26 dX0_offer_25 rfl (by repeat (first | assumption | (refine rg_ne (by first | decide | omega) ?_) | apply rg_eq | refine rg_fr (by assumption) (by first | decide | (simp; omega)) ?_)) ?_
    refine a_iconst (3) 27 dX0_offer_26 rfl (by decide) ?_
    refine a_icmp_lt 52 30 dX0_offer_27 rfl (by decide) (fun c_27 => absurd c_27 (by decide)) (fun c_27 => ?_)
    refine a_aload_n 31 dX0_offer_30 rfl rfl ?_
    refine a_get fd_X0_30 rfl 34 dX0_offer_31 rfl (by repeat (first | assumption | (refine rg_ne (by first | decide | omega) ?_) | apply rg_eq | refine rg_fr (by assumption) (by first | decide | (simp; omega)) ?_)) rfl ?_
    refine a_iconst (0) 35 dX0_offer_34 rfl (by decide) ?_
    refine a_iload_n 36 dX0_offer_35 rfl rfl ?_
    refine a_iastore 37 dX0_offer_36 rfl (by repeat (first | assumption | (refine rg_ne (by first | decide | omega) ?_) | apply rg_eq | refine rg_fr (by assumption) (by first | decide | (simp; omega)) ?_)) v0 ?_
    refine a_aload_n 38 dX0_offer_37 rfl rfl ?_
    refine a_get fd_X0_30 rfl 41 dX0_offer_38 rfl (by repeat (first | assumption | (refine rg_ne (by first | decide | omega) ?_) | apply rg_eq | refine rg_fr (by assumption) (by first | decide | (simp; omega)) ?_)) rfl ?_
    refine a_iconst (1) 42 dX0_offer_41 rfl (by decide) ?_
    refine a_iload_n 43 dX0_offer_42 rfl rfl ?_
    refine a_iastore 44 dX0_offer_43 rfl (by repeat (first | assumption | (refine rg_ne (by first | decide | omega) ?_) | apply rg_eq | refine rg_fr (by assumption) (by first | decide | (simp; omega)) ?_)) v1 ?_
    refine a_aload_n 45 dX0_offer_44 rfl rfl ?_
    refine a_get fd_X0_30 rfl 48 dX0_offer_45 rfl (by repeat (first | assumption | (refine rg_ne (by first | decide | omega) ?_) | apply rg_eq | refine rg_fr (by assumption) (by first | decide | (simp; omega)) ?_)) rfl ?_
    refine a_iconst (2) 49 dX0_offer_48 rfl (by decide) ?_
    refine a_iload 51 dX0_offer_49 rfl rfl ?_
    refine a_iastore 52 dX0_offer_51 rfl (by repeat (first | assumption | (refine rg_ne (by first | decide | omega) ?_) | apply rg_eq | refine rg_fr (by assumption) (by first | decide | (simp; omega)) ?_)) v2 ?_
    refine a_aload_n 53 dX0_offer_52 rfl rfl ?_
    refine a_iload_n 54 dX0_offer_53 rfl rfl ?_
    refine a_bipush (-9) 56 dX0_offer_54 rfl (by decide) ?_
    refine a_icmp_ne 63 59 dX0_offer_56 rfl (by decide) (fun c_56 => ?_) (fun c_56 => ?_)
    · refine a_iload 65 dX0_offer_63 rfl rfl ?_
      refine a_bipush (-9) 67 dX0_offer_65 rfl (by decide) ?_
      refine a_icmp_ne 74 70 dX0_offer_67 rfl (by decide) (fun c_67 => ?_) (fun c_67 => ?_)
      · refine a_iconst (3) 75 dX0_offer_74 rfl (by decide) ?_
        refine a_put fd_X0_84 cl_X0 rfl 78 dX0_offer_75 rfl (by repeat (first | assumption | (refine rg_ne (by first | decide | omega) ?_) | apply rg_eq | refine rg_fr (by assumption) (by first | decide | (simp; omega)) ?_)) (Nat.le_of_ble_eq_true rfl) rfl rfl rfl ?_
        exact a_return dX0_offer_78 rfl (Nat.le_of_ble_eq_true rfl) (Nat.le_of_ble_eq_true rfl) ⟨rfl, E _ (fun z => z.1 c_4) (by rw [if_neg c_56, if_neg c_67]) _ (by exact rg_eq (rg_ne (by decide) (rg_ne (by decide) (rg_ne (by decide) (rg_eq p1))))) (by exact rg_ne (by decide) (rg_eq (rg_eq (rg_eq (rg_ne (by decide) p8))))) (fr_set (fr_set (fr_set (fr_set (fr_set (fr_refl _ _) (by decide)) (by decide)) (by decide)) (by decide)) (by decide))⟩
      · refine a_iconst (2) 71 dX0_offer_70 rfl (by decide) ?_
        refine a_goto 75 dX0_offer_71 (by decide) ?_
        refine a_put fd_X0_84 cl_X0 rfl 78 dX0_offer_75 rfl (by repeat (first | assumption | (refine rg_ne (by first | decide | omega) ?_) | apply rg_eq | refine rg_fr (by assumption) (by first | decide | (simp; omega)) ?_)) (Nat.le_of_ble_eq_true rfl) rfl rfl rfl ?_
        exact a_return dX0_offer_78 rfl (Nat.le_of_ble_eq_true rfl) (Nat.le_of_ble_eq_true rfl) ⟨rfl, E _ (fun z => z.1 c_4) (by rw [if_neg c_56, if_pos c_67]) _ (by exact rg_eq (rg_ne (by decide) (rg_ne (by decide) (rg_ne (by decide) (rg_eq p1))))) (by exact rg_ne (by decide) (rg_eq (rg_eq (rg_eq (rg_ne (by decide) p8))))) (fr_set (fr_set (fr_set (fr_set (fr_set (fr_refl _ _) (by decide)) (by decide)) (by decide)) (by decide)) (by decide))⟩
    · refine a_iconst (1) 60 dX0_offer_59 rfl (by decide) ?_
      refine a_goto 75 dX0_offer_60 (by decide) ?_
      refine a_put fd_X0_84 cl_X0 rfl 78 dX0_offer_75 rfl (by repeat (first | assumption | (refine rg_ne (by first | decide | omega) ?_) | apply rg_eq | refine rg_fr (by assumption) (by first | decide | (simp; omega)) ?_)) (Nat.le_of_ble_eq_true rfl) rfl rfl rfl ?_
      exact a_return dX0_offer_78 rfl (Nat.le_of_ble_eq_true rfl) (Nat.le_of_ble_eq_true rfl) ⟨rfl, E _ (fun z => z.1 c_4) (by rw [if_pos c_56]) _ (by exact rg_eq (rg_ne (by decide) (rg_ne (by decide) (rg_ne (by decide) (rg_eq p1))))) (by exact rg_ne (by decide) (rg_eq (rg_eq (rg_eq (rg_ne (by decide) p8))))) (fr_set (fr_set (fr_set (fr_set (fr_set (fr_refl _ _) (by decide)) (by decide)) (by decide)) (by decide)) (by decide))⟩
  · refine a_iload_n 8 dX0_offer_7 rfl rfl ?_
    refine a_aload_n 9 dX0_offer_8 rfl rfl ?_
    refine a_get fd_X0_107 rfl 12 dX0_offer_9 rfl (by repeat (first | assumption | (refine rg_ne (by first | decide | omega) ?_) | apply rg_eq | refine rg_fr (by assumption) (by first | decide | (simp; omega)) ?_)) rfl ?_
    refine a_icmp_gt 16 15 dX0_offer_12 rfl (by decide) (fun c_12 => ?_) (fun c_12 => ?_)
    · refine a_aload_n 17 dX0_offer_16 rfl rfl ?_
      refine a_iload_n 18 dX0_offer_17 rfl rfl ?_
      refine a_put fd_X0_107 cl_X0 rfl 21 dX0_offer_18 rfl (by repeat (first | assumption | (refine rg_ne (by first | decide | omega) ?_) | apply rg_eq | refine rg_fr (by assumption) (by first | decide | (simp; omega)) ?_)) (Nat.le_of_ble_eq_true rfl) rfl rfl rfl ?_
      refine a_aload_n 22 dX0_offer_21 rfl rfl ?_
      refine a_get fd_X0_30 rfl 25 dX0_offer_22 rfl (by repeat (first | assumption | (refine rg_ne (by first | decide | omega) ?_) | apply rg_eq | refine rg_fr (by assumption) (by first | decide | (simp; omega)) ?_)) rfl ?_
      refine a_alen_0 26 dX0_offer_25 rfl (by repeat (first | assumption | (refine rg_ne (by first | decide | omega) ?_) | apply rg_eq | refine rg_fr (by assumption) (by first | decide | (simp; omega)) ?_)) ?_
      refine a_iconst (3) 27 dX0_offer_26 rfl (by decide) ?_
      refine a_icmp_lt 52 30 dX0_offer_27 rfl (by decide) (fun c_27 => absurd c_27 (by decide)) (fun c_27 => ?_)
      refine a_aload_n 31 dX0_offer_30 rfl rfl ?_
      refine a_get fd_X0_30 rfl 34 dX0_offer_31 rfl (by repeat (first | assumption | (refine rg_ne (by first | decide | omega) ?_) | apply rg_eq | refine rg_fr (by assumption) (by first | decide | (simp; omega)) ?_)) rfl ?_
      refine a_iconst (0) 35 dX0_offer_34 rfl (by decide) ?_
      refine a_iload_n 36 dX0_offer_35 rfl rfl ?_
      refine a_iastore 37 dX0_offer_36 rfl (by repeat (first | assumption | (refine rg_ne (by first | decide | omega) ?_) | apply rg_eq | refine rg_fr (by assumption) (by first | decide | (simp; omega)) ?_)) v0 ?_
      refine a_aload_n 38 dX0_offer_37 rfl rfl ?_
      refine a_get fd_X0_30 rfl 41 dX0_offer_38 rfl (by repeat (first | assumption | (refine rg_ne (by first | decide | omega) ?_) | apply rg_eq | refine rg_fr (by assumption) (by first | decide | (simp; omega)) ?_)) rfl ?_
      refine a_iconst (1) 42 dX0_offer_41 rfl (by decide) ?_
      refine a_iload_n 43 dX0_offer_42 rfl rfl ?_
      refine a_iastore 44 dX0_offer_43 rfl (by repeat (first | assumption | (refine rg_ne (by first | decide | omega) ?_) | apply rg_eq | refine rg_fr (by assumption) (by first | decide | (simp; omega)) ?_)) v1 ?_
      refine a_aload_n 45 dX0_offer_44 rfl rfl ?_
      refine a_get fd_X0_30 rfl 48 dX0_offer_45 rfl (by repeat (first | assumption | (refine rg_ne (by first | decide | omega) ?_) | apply rg_eq | refine rg_fr (by assumption) (by first | decide | (simp; omega)) ?_)) rfl ?_
      refine a_iconst (2) 49 dX0_offer_48 rfl (by decide) ?_
      refine a_iload 51 dX0_offer_49 rfl rfl ?_
      refine a_iastore 52 dX0_offer_51 rfl (by repeat (first | assumption | (refine rg_ne (by first | decide | omega) ?_) | apply rg_eq | refine rg_fr (by assumption) (by first | decide | (simp; omega)) ?_)) v2 ?_
      refine a_aload_n 53 dX0_offer_52 rfl rfl ?_
      refine a_iload_n 54 dX0_offer_53 rfl rfl ?_
      refine a_bipush (-9) 56 dX0_offer_54 rfl (by decide) ?_
      refine a_icmp_ne 63 59 dX0_offer_56 rfl (by decide) (fun c_56 => ?_) (fun c_56 => ?_)
      · refine a_iload 65 dX0_offer_63 rfl rfl ?_
        refine a_bipush (-9) 67 dX0_offer_65 rfl (by decide) ?_
        refine a_icmp_ne 74 70 dX0_offer_67 rfl (by decide) (fun c_67 => ?_) (fun c_67 => ?_)
        · refine a_iconst (3) 75 dX0_offer_74 rfl (by decide) ?_
          refine a_put fd_X0_84 cl_X0 rfl 78 dX0_offer_75 rfl (by repeat (first | assumption | (refine rg_ne (by first | decide | omega) ?_) | apply rg_eq | refine rg_fr (by assumption) (by first | decide | (simp; omega)) ?_)) (Nat.le_of_ble_eq_true rfl) rfl rfl rfl ?_
          exact a_return dX0_offer_78 rfl (Nat.le_of_ble_eq_true rfl) (Nat.le_of_ble_eq_true rfl) ⟨rfl, E _ (fun z => (Int32.not_lt.mpr z.2) c_12) (by rw [if_neg c_56, if_neg c_67]) _ (by exact rg_eq (rg_ne (by decide) (rg_ne (by decide) (rg_ne (by decide) (rg_eq p1))))) (by exact rg_ne (by decide) (rg_eq (rg_eq (rg_eq (rg_ne (by decide) p8))))) (fr_set (fr_set (fr_set (fr_set (fr_set (fr_refl _ _) (by decide)) (by decide)) (by decide)) (by decide)) (by decide))⟩
        · refine a_iconst (2) 71 dX0_offer_70 rfl (by decide) ?_
          refine a_goto 75 dX0_offer_71 (by decide) ?_
          refine a_put fd_X0_84 cl_X0 rfl 78 dX0_offer_75 rfl (by repeat (first | assumption | (refine rg_ne (by first | decide | omega) ?_) | apply rg_eq | refine rg_fr (by assumption) (by first | decide | (simp; omega)) ?_)) (Nat.le_of_ble_eq_true rfl) rfl rfl rfl ?_
          exact a_return dX0_offer_78 rfl (Nat.le_of_ble_eq_true rfl) (Nat.le_of_ble_eq_true rfl) ⟨rfl, E _ (fun z => (Int32.not_lt.mpr z.2) c_12) (by rw [if_neg c_56, if_pos c_67]) _ (by exact rg_eq (rg_ne (by decide) (rg_ne (by decide) (rg_ne (by decide) (rg_eq p1))))) (by exact rg_ne (by decide) (rg_eq (rg_eq (rg_eq (rg_ne (by decide) p8))))) (fr_set (fr_set (fr_set (fr_set (fr_set (fr_refl _ _) (by decide)) (by decide)) (by decide)) (by decide)) (by decide))⟩
      · refine a_iconst (1) 60 dX0_offer_59 rfl (by decide) ?_
        refine a_goto 75 dX0_offer_60 (by decide) ?_
        refine a_put fd_X0_84 cl_X0 rfl 78 dX0_offer_75 rfl (by repeat (first | assumption | (refine rg_ne (by first | decide | omega) ?_) | apply rg_eq | refine rg_fr (by assumption) (by first | decide | (simp; omega)) ?_)) (Nat.le_of_ble_eq_true rfl) rfl rfl rfl ?_
        exact a_return dX0_offer_78 rfl (Nat.le_of_ble_eq_true rfl) (Nat.le_of_ble_eq_true rfl) ⟨rfl, E _ (fun z => (Int32.not_lt.mpr z.2) c_12) (by rw [if_pos c_56]) _ (by exact rg_eq (rg_ne (by decide) (rg_ne (by decide) (rg_ne (by decide) (rg_eq p1))))) (by exact rg_ne (by decide) (rg_eq (rg_eq (rg_eq (rg_ne (by decide) p8))))) (fr_set (fr_set (fr_set (fr_set (fr_set (fr_refl _ _) (by decide)) (by decide)) (by decide)) (by decide)) (by decide))⟩
    · exact a_return dX0_offer_15 rfl (Nat.le_of_ble_eq_true rfl) (Nat.le_of_ble_eq_true rfl) ⟨rfl, by rw [show offF (sv, tk, ch) w a b c = (sv, tk, ch) from if_pos ⟨c_4, Int32.not_lt.mp c_12⟩]; exact ⟨hp0, fr_refl _ _⟩⟩
end PLAN
