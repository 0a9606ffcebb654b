/-! THE CLASS: a carriage built; carriage, blind -/
abbrev ccAt2 (G : rG) (h : rH) (w n m bc : Int32) (f s L B : Nat → Int32) : Prop := ccAt G h w n m bc f s L B
abbrev zB (B : Nat → Int32) (k : Nat) : Nat → Int32 := fun g => if g < k then 0 else B g
theorem zB_s {B : Nat → Int32} {k : Nat} : upd (zB B k) k (vp_nar .boolean 0) = zB B (k + 1) := by
  funext g
  show (if g = k then vp_nar .boolean 0 else if g < k then 0 else B g) = if g < k + 1 then 0 else B g
  by_cases e : g = k
  · rw [if_pos e, if_pos (by omega)]; rfl
  · rw [if_neg e]
    by_cases e2 : g < k
    · rw [if_pos e2, if_pos (by omega)]
    · rw [if_neg e2, if_neg (by omega)]
theorem nb_bI (b : Bool) : narrow .boolean (.int (bI b)) = .int (bI b) := by cases b <;> rfl
theorem fb_bI (b : Bool) : fits .boolean (.int (bI b)) = true := by cases b <;> rfl
section CAR2
variable {l : Launch} {G : rG} {h : rH} {w m bc st ro : Int32} {f s L B fb : Nat → Int32} {n n0 wi : Nat} {mir : Bool}
set_option maxRecDepth 100000 in
set_option maxHeartbeats 400000 in
theorem k_X1_build {n1 : Int32} (hc : ccAt G h w n1 m bc f s L B) (ht : ctAt G h (st, ro, nI wi, bI mir, nI n, fb)) (hn : n ≤ 32) : rM l G 5 mX1_build 0 0 [.ref (gN G + 7), .ref (gN G + 2)] h (fun h' v => v = none ∧ (∃ f' s' L', ccAt G h' (nI wi) (nI n) (bI mir) 0 f' s' L' (zB B 64) ∧ (∀ c, c < 32 → f' c = fb c ∧ s' c = -9) ∧ isLns (nI wi) (nI n) (bI mir) (zB B 64) f' L' n) ∧ fr h h' [7, 8, 9, 10, 11]) := by
  obtain ⟨h7, h8, h9, h10, h11⟩ := hc
  obtain ⟨t2, t3⟩ := ht
  refine rM_start (by decide) (Nat.le_of_ble_eq_true rfl) ?_
  have A3 : ∀ (r k : Nat) (f' s' : Nat → Int32) (h1 : rH) (y : Int32), k + r = 64 → y = nI k → ccAt G h1 (nI wi) (nI n) (bI mir) bc f' s' L (zB B k) → (∀ c, c < 32 → f' c = fb c ∧ s' c = -9) → fr h h1 [7, 8, 9, 10, 11] → rW l G (rRm 5 0 0) mX1_build (rZ G (fun h' v => v = none ∧ (∃ f' s' L', ccAt G h' (nI wi) (nI n) (bI mir) 0 f' s' L' (zB B 64) ∧ (∀ c, c < 32 → f' c = fb c ∧ s' c = -9) ∧ isLns (nI wi) (nI n) (bI mir) (zB B 64) f' L' n) ∧ fr h h' [7, 8, 9, 10, 11]) 0 0) 0 0 79 [some (.ref (gN G + 7)), some (.ref (gN G + 2)), some (.int y)] [] h1 := by
    intro r
    induction r with
    | zero =>
      intro k f' s' h1 y hk hy hc1 hx hfr
      subst hy
      have e : k = 64 := by omega
      subst e
      obtain ⟨g7, g8, g9, g10, g11⟩ := hc1
      have hc2 : ccAt G (h1.set 7 (.inr (1, [.ref (gN G + 8), .ref (gN G + 9), .ref (gN G + 10), .ref (gN G + 11), .int (nI wi), .int (nI n), .int (bI mir), .int 0]))) (nI wi) (nI n) (bI mir) 0 f' s' L (zB B 64) := ⟨rg_eq g7, rg_ne (by decide) g8, rg_ne (by decide) g9, rg_ne (by decide) g10, rg_ne (by decide) g11⟩
      refine a_iload_n 80 dX1_build_79 rfl rfl ?_
      refine a_aload_n 81 dX1_build_80 rfl rfl ?_
      refine a_get fd_X1_21 rfl 84 dX1_build_81 rfl (by repeat (first | assumption | (refine rg_ne (by first | decide | omega) ?_) | apply rg_eq | refine rg_fr (by assumption) (by first | decide | (simp; omega)) ?_)) rfl ?_
      refine a_alen_1 85 dX1_build_84 rfl (by repeat (first | assumption | (refine rg_ne (by first | decide | omega) ?_) | apply rg_eq | refine rg_fr (by assumption) (by first | decide | (simp; omega)) ?_)) ?_
      refine a_icmp_ge 101 88 dX1_build_85 rfl (by decide) (fun c_85 => ?_) (fun c_85 => absurd (by decide) c_85)
      refine a_aload_n 102 dX1_build_101 rfl rfl ?_
      refine a_iconst (0) 103 dX1_build_102 rfl (by decide) ?_
      refine a_put fd_X1_45 cl_X1 rfl 106 dX1_build_103 rfl (by repeat (first | assumption | (refine rg_ne (by first | decide | omega) ?_) | apply rg_eq | refine rg_fr (by assumption) (by first | decide | (simp; omega)) ?_)) (Nat.le_of_ble_eq_true rfl) rfl rfl rfl ?_
      refine a_aload_n 107 dX1_build_106 rfl rfl ?_
      refine a_callV ok_X1_drawLines ln_X1_48 in_X1_drawLines rfl 110 dX1_build_107 rfl (k_X1_drawLines hc2 hn) (by repeat (first | assumption | (refine rg_ne (by first | decide | omega) ?_) | apply rg_eq | refine rg_fr (by assumption) (by first | decide | (simp; omega)) ?_)) rfl rfl rfl ⟨(Nat.le_of_ble_eq_true rfl), (Nat.le_of_ble_eq_true rfl)⟩ (Nat.le_of_ble_eq_true rfl) ⟨(Nat.le_of_ble_eq_true rfl), (Nat.le_of_ble_eq_true rfl)⟩ ?_
      rintro h2 _ ⟨rfl, ⟨L2, hc3, hx3⟩, hf3⟩
      exact a_return dX1_build_110 rfl (Nat.le_of_ble_eq_true rfl) (Nat.le_of_ble_eq_true rfl) ⟨rfl, ⟨f', s', L2, hc3, hx, hx3⟩, fr_trans (fr_set hfr (by decide)) hf3 (by decide)⟩
    | succ r ih =>
      intro k f' s' h1 y hk hy hc1 hx hfr
      subst hy
      obtain ⟨g7, g8, g9, g10, g11⟩ := hc1
      have vk : vp_in (nI k) 64 := vp_in_nI (by omega) (by decide)
      refine a_iload_n 80 dX1_build_79 rfl rfl ?_
      refine a_aload_n 81 dX1_build_80 rfl rfl ?_
      refine a_get fd_X1_21 rfl 84 dX1_build_81 rfl (by repeat (first | assumption | (refine rg_ne (by first | decide | omega) ?_) | apply rg_eq | refine rg_fr (by assumption) (by first | decide | (simp; omega)) ?_)) rfl ?_
      refine a_alen_1 85 dX1_build_84 rfl (by repeat (first | assumption | (refine rg_ne (by first | decide | omega) ?_) | apply rg_eq | refine rg_fr (by assumption) (by first | decide | (simp; omega)) ?_)) ?_
      refine a_icmp_ge 101 88 dX1_build_85 rfl (by decide) (fun c_85 => absurd c_85 (nI_ge (a := k) (b := 64) (by omega) (by decide))) (fun c_85 => ?_)
      refine a_aload_n 89 dX1_build_88 rfl rfl ?_
      refine a_get fd_X1_21 rfl 92 dX1_build_89 rfl (by repeat (first | assumption | (refine rg_ne (by first | decide | omega) ?_) | apply rg_eq | refine rg_fr (by assumption) (by first | decide | (simp; omega)) ?_)) rfl ?_
      refine a_iload_n 93 dX1_build_92 rfl rfl ?_
      refine a_iconst (0) 94 dX1_build_93 rfl (by decide) ?_
      refine a_bastore 95 dX1_build_94 rfl (by repeat (first | assumption | (refine rg_ne (by first | decide | omega) ?_) | apply rg_eq | refine rg_fr (by assumption) (by first | decide | (simp; omega)) ?_)) vk ?_
      refine a_iinc _ 98 dX1_build_95 rfl rfl (by decide) rfl ?_
      refine a_goto 79 dX1_build_98 (by decide) ?_
      exact ih (k + 1) f' s' _ _ (by omega) (nI_1 k) ⟨rg_ne (by decide) g7, rg_ne (by decide) g8, rg_ne (by decide) g9, rg_ne (by decide) g10, by rw [nI_clamp (by omega), zB_s]; exact rg_eq g11⟩ hx (fr_set hfr (by decide))
  have A2 : ∀ (r k : Nat) (f' s' : Nat → Int32) (h1 : rH) (y : Int32), k + r = 32 → y = nI k → ccAt G h1 (nI wi) (nI n) (bI mir) bc f' s' L B → (∀ c, c < 32 → f' c = fb c) → (∀ c, c < k → s' c = -9) → fr h h1 [7, 8, 9, 10, 11] → rW l G (rRm 5 0 0) mX1_build (rZ G (fun h' v => v = none ∧ (∃ f' s' L', ccAt G h' (nI wi) (nI n) (bI mir) 0 f' s' L' (zB B 64) ∧ (∀ c, c < 32 → f' c = fb c ∧ s' c = -9) ∧ isLns (nI wi) (nI n) (bI mir) (zB B 64) f' L' n) ∧ fr h h' [7, 8, 9, 10, 11]) 0 0) 0 0 54 [some (.ref (gN G + 7)), some (.ref (gN G + 2)), some (.int y)] [] h1 := by
    intro r
    induction r with
    | zero =>
      intro k f' s' h1 y hk hy hc1 hx hs hfr
      subst hy
      have e : k = 32 := by omega
      subst e
      have hc0 := hc1
      obtain ⟨g7, g8, g9, g10, g11⟩ := hc1
      refine a_iload_n 55 dX1_build_54 rfl rfl ?_
      refine a_aload_n 56 dX1_build_55 rfl rfl ?_
      refine a_get fd_X1_15 rfl 59 dX1_build_56 rfl (by repeat (first | assumption | (refine rg_ne (by first | decide | omega) ?_) | apply rg_eq | refine rg_fr (by assumption) (by first | decide | (simp; omega)) ?_)) rfl ?_
      refine a_alen_0 60 dX1_build_59 rfl (by repeat (first | assumption | (refine rg_ne (by first | decide | omega) ?_) | apply rg_eq | refine rg_fr (by assumption) (by first | decide | (simp; omega)) ?_)) ?_
      refine a_icmp_ge 77 63 dX1_build_60 rfl (by decide) (fun c_60 => ?_) (fun c_60 => absurd (by decide) c_60)
      refine a_iconst (0) 78 dX1_build_77 rfl (by decide) ?_
      refine a_istore_n 79 dX1_build_78 rfl (by decide) ?_
      exact A3 64 0 f' s' _ _ (by omega) rfl (by rw [show zB B 0 = B from funext (fun g => if_neg (Nat.not_lt_zero g))]; exact hc0) (fun c hc => ⟨hx c hc, hs c hc⟩) hfr
    | succ r ih =>
      intro k f' s' h1 y hk hy hc1 hx hs hfr
      subst hy
      obtain ⟨g7, g8, g9, g10, g11⟩ := hc1
      have vk : vp_in (nI k) 32 := vp_in_nI (by omega) (by decide)
      refine a_iload_n 55 dX1_build_54 rfl rfl ?_
      refine a_aload_n 56 dX1_build_55 rfl rfl ?_
      refine a_get fd_X1_15 rfl 59 dX1_build_56 rfl (by repeat (first | assumption | (refine rg_ne (by first | decide | omega) ?_) | apply rg_eq | refine rg_fr (by assumption) (by first | decide | (simp; omega)) ?_)) rfl ?_
      refine a_alen_0 60 dX1_build_59 rfl (by repeat (first | assumption | (refine rg_ne (by first | decide | omega) ?_) | apply rg_eq | refine rg_fr (by assumption) (by first | decide | (simp; omega)) ?_)) ?_
      refine a_icmp_ge 77 63 dX1_build_60 rfl (by decide) (fun c_60 => absurd c_60 (nI_ge (a := k) (b := 32) (by omega) (by decide))) (fun c_60 => ?_)
      refine a_aload_n 64 dX1_build_63 rfl rfl ?_
      refine a_get fd_X1_15 rfl 67 dX1_build_64 rfl (by repeat (first | assumption | (refine rg_ne (by first | decide | omega) ?_) | apply rg_eq | refine rg_fr (by assumption) (by first | decide | (simp; omega)) ?_)) rfl ?_
      refine a_iload_n 68 dX1_build_67 rfl rfl ?_
      refine a_bipush (-9) 70 dX1_build_68 rfl (by decide) ?_
      refine a_iastore 71 dX1_build_70 rfl (by repeat (first | assumption | (refine rg_ne (by first | decide | omega) ?_) | apply rg_eq | refine rg_fr (by assumption) (by first | decide | (simp; omega)) ?_)) vk ?_
      refine a_iinc _ 74 dX1_build_71 rfl rfl (by decide) rfl ?_
      refine a_goto 54 dX1_build_74 (by decide) ?_
      exact ih (k + 1) f' _ _ _ (by omega) (nI_1 k) ⟨rg_ne (by decide) g7, rg_ne (by decide) g8, rg_eq g9, rg_ne (by decide) g10, rg_ne (by decide) g11⟩ hx (fun c hc => by rw [nI_clamp (by omega)]; by_cases e : c = k; (subst e; exact pk_us); (rw [pk_un e]; exact hs c (by omega))) (fr_set hfr (by decide))
  have A1 : ∀ (r k : Nat) (f' : Nat → Int32) (h1 : rH) (y : Int32), k + r = 32 → y = nI k → ccAt G h1 (nI wi) (nI n) (bI mir) bc f' s L B → (∀ c, c < k → f' c = fb c) → fr h h1 [7, 8, 9, 10, 11] → rW l G (rRm 5 0 0) mX1_build (rZ G (fun h' v => v = none ∧ (∃ f' s' L', ccAt G h' (nI wi) (nI n) (bI mir) 0 f' s' L' (zB B 64) ∧ (∀ c, c < 32 → f' c = fb c ∧ s' c = -9) ∧ isLns (nI wi) (nI n) (bI mir) (zB B 64) f' L' n) ∧ fr h h' [7, 8, 9, 10, 11]) 0 0) 0 0 26 [some (.ref (gN G + 7)), some (.ref (gN G + 2)), some (.int y)] [] h1 := by
    intro r
    induction r with
    | zero =>
      intro k f' h1 y hk hy hc1 hx hfr
      subst hy
      have e : k = 32 := by omega
      subst e
      have hc0 := hc1
      obtain ⟨g7, g8, g9, g10, g11⟩ := hc1
      refine a_iload_n 27 dX1_build_26 rfl rfl ?_
      refine a_aload_n 28 dX1_build_27 rfl rfl ?_
      refine a_get fd_X1_9 rfl 31 dX1_build_28 rfl (by repeat (first | assumption | (refine rg_ne (by first | decide | omega) ?_) | apply rg_eq | refine rg_fr (by assumption) (by first | decide | (simp; omega)) ?_)) rfl ?_
      refine a_alen_0 32 dX1_build_31 rfl (by repeat (first | assumption | (refine rg_ne (by first | decide | omega) ?_) | apply rg_eq | refine rg_fr (by assumption) (by first | decide | (simp; omega)) ?_)) ?_
      refine a_icmp_ge 52 35 dX1_build_32 rfl (by decide) (fun c_32 => ?_) (fun c_32 => absurd (by decide) c_32)
      refine a_iconst (0) 53 dX1_build_52 rfl (by decide) ?_
      refine a_istore_n 54 dX1_build_53 rfl (by decide) ?_
      exact A2 32 0 f' s _ _ (by omega) rfl hc0 hx (fun c hc => absurd hc (by omega)) hfr
    | succ r ih =>
      intro k f' h1 y hk hy hc1 hx hfr
      subst hy
      obtain ⟨g7, g8, g9, g10, g11⟩ := hc1
      have vk : vp_in (nI k) 32 := vp_in_nI (by omega) (by decide)
      have u2 := rg_fr hfr (by decide) t2
      have u3 := rg_fr hfr (by decide) t3
      have e1 : (if 0 ≤ nI k ∧ nI k < 32 then fb (nI k).toNatClampNeg else 0) = fb k := by rw [if_pos ⟨nI_pos' (by omega), nI_lt (b := 32) (by omega) (by decide)⟩, nI_clamp (by omega)]
      refine a_iload_n 27 dX1_build_26 rfl rfl ?_
      refine a_aload_n 28 dX1_build_27 rfl rfl ?_
      refine a_get fd_X1_9 rfl 31 dX1_build_28 rfl (by repeat (first | assumption | (refine rg_ne (by first | decide | omega) ?_) | apply rg_eq | refine rg_fr (by assumption) (by first | decide | (simp; omega)) ?_)) rfl ?_
      refine a_alen_0 32 dX1_build_31 rfl (by repeat (first | assumption | (refine rg_ne (by first | decide | omega) ?_) | apply rg_eq | refine rg_fr (by assumption) (by first | decide | (simp; omega)) ?_)) ?_
      refine a_icmp_ge 52 35 dX1_build_32 rfl (by decide) (fun c_32 => absurd c_32 (nI_ge (a := k) (b := 32) (by omega) (by decide))) (fun c_32 => ?_)
      refine a_aload_n 36 dX1_build_35 rfl rfl ?_
      refine a_get fd_X1_9 rfl 39 dX1_build_36 rfl (by repeat (first | assumption | (refine rg_ne (by first | decide | omega) ?_) | apply rg_eq | refine rg_fr (by assumption) (by first | decide | (simp; omega)) ?_)) rfl ?_
      refine a_iload_n 40 dX1_build_39 rfl rfl ?_
      refine a_aload_n 41 dX1_build_40 rfl rfl ?_
      refine a_iload_n 42 dX1_build_41 rfl rfl ?_
      refine a_callV ok_X2_faceAt ln_X1_41 in_X2_faceAt rfl 45 dX1_build_42 rfl (k_X2_faceAt ⟨u2, u3⟩ (nI k)) (by repeat (first | assumption | (refine rg_ne (by first | decide | omega) ?_) | apply rg_eq | refine rg_fr (by assumption) (by first | decide | (simp; omega)) ?_)) rfl rfl rfl ⟨(Nat.le_of_ble_eq_true rfl), (Nat.le_of_ble_eq_true rfl)⟩ (Nat.le_of_ble_eq_true rfl) ⟨(Nat.le_of_ble_eq_true rfl), (Nat.le_of_ble_eq_true rfl)⟩ ?_
      rintro _ _ ⟨rfl, rfl⟩
      rw [show (if 0 ≤ nI k ∧ nI k < 32 then (st, ro, nI wi, bI mir, nI n, fb).2.2.2.2.2 (nI k).toNatClampNeg else 0) = fb k from e1]
      refine a_iastore 46 dX1_build_45 rfl (by repeat (first | assumption | (refine rg_ne (by first | decide | omega) ?_) | apply rg_eq | refine rg_fr (by assumption) (by first | decide | (simp; omega)) ?_)) vk ?_
      refine a_iinc _ 49 dX1_build_46 rfl rfl (by decide) rfl ?_
      refine a_goto 26 dX1_build_49 (by decide) ?_
      exact ih (k + 1) _ _ _ (by omega) (nI_1 k) ⟨rg_ne (by decide) g7, rg_eq g8, rg_ne (by decide) g9, rg_ne (by decide) g10, rg_ne (by decide) g11⟩ (fun c hc => by rw [nI_clamp (by omega)]; by_cases e : c = k; (subst e; exact pk_us); (rw [pk_un e]; exact hx c (by omega))) (fr_set hfr (by decide))
  refine a_aload_n 1 dX1_build_0 rfl rfl ?_
  refine a_aload_n 2 dX1_build_1 rfl rfl ?_
  refine a_get fd_X1_25 rfl 5 dX1_build_2 rfl (by repeat (first | assumption | (refine rg_ne (by first | decide | omega) ?_) | apply rg_eq | refine rg_fr (by assumption) (by first | decide | (simp; omega)) ?_)) rfl ?_
  refine a_put fd_X1_31 cl_X1 rfl 8 dX1_build_5 rfl (by repeat (first | assumption | (refine rg_ne (by first | decide | omega) ?_) | apply rg_eq | refine rg_fr (by assumption) (by first | decide | (simp; omega)) ?_)) (Nat.le_of_ble_eq_true rfl) rfl rfl rfl ?_
  refine a_aload_n 9 dX1_build_8 rfl rfl ?_
  refine a_aload_n 10 dX1_build_9 rfl rfl ?_
  refine a_get fd_X1_32 rfl 13 dX1_build_10 rfl (by repeat (first | assumption | (refine rg_ne (by first | decide | omega) ?_) | apply rg_eq | refine rg_fr (by assumption) (by first | decide | (simp; omega)) ?_)) rfl ?_
  refine a_put fd_X1_35 cl_X1 rfl 16 dX1_build_13 rfl (by repeat (first | assumption | (refine rg_ne (by first | decide | omega) ?_) | apply rg_eq | refine rg_fr (by assumption) (by first | decide | (simp; omega)) ?_)) (Nat.le_of_ble_eq_true rfl) rfl rfl rfl ?_
  refine a_aload_n 17 dX1_build_16 rfl rfl ?_
  refine a_aload_n 18 dX1_build_17 rfl rfl ?_
  refine a_get fd_X1_36 rfl 21 dX1_build_18 rfl (by repeat (first | assumption | (refine rg_ne (by first | decide | omega) ?_) | apply rg_eq | refine rg_fr (by assumption) (by first | decide | (simp; omega)) ?_)) rfl ?_
  refine a_put fd_X1_40 cl_X1 rfl 24 dX1_build_21 rfl (by repeat (first | assumption | (refine rg_ne (by first | decide | omega) ?_) | apply rg_eq | refine rg_fr (by assumption) (by first | decide | (simp; omega)) ?_)) (Nat.le_of_ble_eq_true rfl) rfl (nb_bI mir) (fb_bI mir) ?_
  refine a_iconst (0) 25 dX1_build_24 rfl (by decide) ?_
  refine a_istore_n 26 dX1_build_25 rfl (by decide) ?_
  exact A1 32 0 f _ _ (by omega) rfl ⟨rg_eq (rg_eq (rg_eq h7)), rg_ne (by decide) (rg_ne (by decide) (rg_ne (by decide) h8)), rg_ne (by decide) (rg_ne (by decide) (rg_ne (by decide) h9)), rg_ne (by decide) (rg_ne (by decide) (rg_ne (by decide) h10)), rg_ne (by decide) (rg_ne (by decide) (rg_ne (by decide) h11))⟩ (fun c hc => absurd hc (by omega)) (fr_set (fr_set (fr_set (fr_refl _ _) (by decide)) (by decide)) (by decide))
end CAR2
