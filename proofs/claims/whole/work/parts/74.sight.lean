/-! THE CLASS's plan: begun; the gaps of a sight -/
theorem cntB_tail {P : Nat → Bool} {a : Nat} : ∀ {b : Nat}, a ≤ b → (∀ j, a ≤ j → j < b → P j = false) → cntB P b = cntB P a
  | 0, h, _ => by rw [show a = 0 by omega]
  | b + 1, h, hz => by
    by_cases e : a = b + 1
    · rw [e]
    · rw [cntB, hz b (by omega) (by omega), cntB_tail (b := b) (by omega) (fun j h1 h2 => hz j h1 (by omega))]
      rfl
theorem frP_out {C : CarT} {j : Nat} (h : 2 * (C.2.2.2.1 * C.2.2.1) ≤ j) : frP C j = false := by
  unfold frP gapOk
  rw [decide_eq_false (by omega : ¬ j / 2 < C.2.2.2.1 * C.2.2.1)]
  rfl
theorem plI_64 {C : CarT} (o : okC C) {ga pl li : Nat → Int32} (h : plI C (2 * (C.2.2.2.1 * C.2.2.1)) ga pl li) : plI C 64 ga pl li ∧ rkP C 64 = rkP C (2 * (C.2.2.2.1 * C.2.2.1)) := by
  have hn := okC_n o
  refine ⟨fun j hj hp => h j ?_ hp, cntB_tail (by omega) (fun j h1 h2 => frP_out h1)⟩
  rcases Nat.lt_or_ge j (2 * (C.2.2.2.1 * C.2.2.1)) with e | e
  · exact e
  · rw [frP_out e] at hp; cases hp
/-- the gaps passed from a seat to another one (none: to the end), r steps at most -/
def psN (C : CarT) (w : Nat) (to : Option Nat) : Nat → Nat → Option (List Nat)
  | 0, _ => none
  | r + 1, k => if to = some k then some [] else match C.1 k w with
    | none => if to = none then some [] else none
    | some d => (psN C w to r d).map (gpN C.2.2.1 k d :: ·)
abbrev psA (x : Option (List Nat)) : Int32 := match x with
  | some l => nI l.length
  | none => -9
theorem pa_step {pa1 pl : Nat → Int32} {p : List Nat} {i g : Nat} {v : Int32} (hpl : p.length = i) (h : ∀ j, j < i → pa1 j = pl (p.getD j 0)) (hv : v = pl g) : ∀ j, j < i + 1 → upd pa1 i v j = pl ((p ++ [g]).getD j 0) := by
  intro j hj
  by_cases e : j = i
  · subst e
    rw [pk_us, hv]
    congr 1
    subst hpl
    simp
  · rw [pk_un e, h j (by omega)]
    congr 1
    simp only [List.getD_eq_getElem?_getD]
    rw [List.getElem?_append_left (by omega)]
section SIGHT
variable {l : Launch} {G : rG} {h : rH} {C : CarT} {fr1 tk sv bc : Int32} {ga pl li al bo pa ch f s L : Nat → Int32}
set_option maxRecDepth 100000 in
set_option maxHeartbeats 400000 in
theorem k_X0_begin (o : okC C) (hp : plAt G h fr1 tk sv ga pl li al bo pa ch) (hcc : ccAt G h (nI C.2.2.1) (nI (C.2.2.2.1 * C.2.2.1)) (bI C.2.2.2.2.1) bc f s L C.2.1) : rM l G 4 mX0_begin 0 0 [.ref (gN G + 17), .ref (gN G + 7)] h (fun h' v => v = none ∧ (∃ ga pl li al bo, plAt G h' (nI (rkP C 64)) tk sv ga pl li al bo pa ch ∧ plI C 64 ga pl li ∧ (∀ k, k < 52 → al k = 0) ∧ ∀ k, k < 2704 → bo k = 0) ∧ fr h h' [17, 18, 19, 20, 21, 22]) := by
  have hn32 := okC_n o
  have A3 : ∀ (al2 bo2 : Nat → Int32), (∀ k, k < 52 → al2 k = 0) → (∀ k, k < 2704 → bo2 k = 0) → ∀ (r c : Nat) (ga1 pl1 li1 : Nat → Int32) (h1 : rH) (y : Int32), c + r = C.2.2.2.1 * C.2.2.1 → y = nI c → plAt G h1 (nI (rkP C (2 * c))) tk sv ga1 pl1 li1 al2 bo2 pa ch → plI C (2 * c) ga1 pl1 li1 → fr h h1 [17, 18, 19, 20, 21, 22] → rW l G (rRm 4 0 0) mX0_begin (rZ G (fun h' v => v = none ∧ (∃ ga pl li al bo, plAt G h' (nI (rkP C 64)) tk sv ga pl li al bo pa ch ∧ plI C 64 ga pl li ∧ (∀ k, k < 52 → al k = 0) ∧ ∀ k, k < 2704 → bo k = 0) ∧ fr h h' [17, 18, 19, 20, 21, 22]) 0 0) 0 0 55 [some (.ref (gN G + 17)), some (.ref (gN G + 7)), some (.int y)] [] h1 := by
    intro al2 bo2 ha2 hb2 r
    induction r with
    | zero =>
      intro c ga1 pl1 li1 h1 y hc hy hp1 hI hfr
      subst hy
      have e : c = C.2.2.2.1 * C.2.2.1 := by omega
      subst e
      have e64 := plI_64 o hI
      have g7 := rg_fr hfr (by decide) hcc.1
      refine a_iload_n 56 dX0_begin_55 rfl rfl ?_
      refine a_aload_n 57 dX0_begin_56 rfl rfl ?_
      refine a_get fd_X0_37 rfl 60 dX0_begin_57 rfl (by repeat (first | assumption | (refine rg_ne (by first | decide | omega) ?_) | apply rg_eq | refine rg_fr (by assumption) (by first | decide | (simp; omega)) ?_)) rfl ?_
      refine a_icmp_ge 83 63 dX0_begin_60 rfl (by decide) (fun c_60 => ?_) (fun c_60 => absurd (Int32.le_refl _) c_60)
      exact a_return dX0_begin_83 rfl (Nat.le_of_ble_eq_true rfl) (Nat.le_of_ble_eq_true rfl) ⟨rfl, ⟨ga1, pl1, li1, al2, bo2, by rw [e64.2]; exact hp1, e64.1, ha2, hb2⟩, hfr⟩
    | succ r ih =>
      intro c ga1 pl1 li1 h1 y hc hy hp1 hI hfr
      subst hy
      have g17 := hp1.1
      have cc1 : ccAt G h1 (nI C.2.2.1) (nI (C.2.2.2.1 * C.2.2.1)) (bI C.2.2.2.2.1) bc f s L C.2.1 := ⟨rg_fr hfr (by decide) hcc.1, rg_fr hfr (by decide) hcc.2.1, rg_fr hfr (by decide) hcc.2.2.1, rg_fr hfr (by decide) hcc.2.2.2.1, rg_fr hfr (by decide) hcc.2.2.2.2⟩
      have g7 := cc1.1
      refine a_iload_n 56 dX0_begin_55 rfl rfl ?_
      refine a_aload_n 57 dX0_begin_56 rfl rfl ?_
      refine a_get fd_X0_37 rfl 60 dX0_begin_57 rfl (by repeat (first | assumption | (refine rg_ne (by first | decide | omega) ?_) | apply rg_eq | refine rg_fr (by assumption) (by first | decide | (simp; omega)) ?_)) rfl ?_
      refine a_icmp_ge 83 63 dX0_begin_60 rfl (by decide) (fun c_60 => absurd c_60 (nI_ge (a := c) (b := C.2.2.2.1 * C.2.2.1) (by omega) (by omega))) (fun c_60 => ?_)
      refine a_aload_n 64 dX0_begin_63 rfl rfl ?_
      refine a_aload_n 65 dX0_begin_64 rfl rfl ?_
      refine a_iload_n 66 dX0_begin_65 rfl rfl ?_
      refine a_iconst (3) 67 dX0_begin_66 rfl (by decide) ?_
      refine a_callV ok_X0_addGap ln_X0_42 in_X0_addGap rfl 70 dX0_begin_67 rfl (k_X0_addGap (b := 0) o (by omega) (by decide) hp1 hI cc1) (by repeat (first | assumption | (refine rg_ne (by first | decide | omega) ?_) | apply rg_eq | refine rg_fr (by assumption) (by first | decide | (simp; omega)) ?_)) rfl rfl rfl ⟨(Nat.le_of_ble_eq_true rfl), (Nat.le_of_ble_eq_true rfl)⟩ (Nat.le_of_ble_eq_true rfl) ⟨(Nat.le_of_ble_eq_true rfl), (Nat.le_of_ble_eq_true rfl)⟩ ?_
      rintro h2 _ ⟨rfl, ⟨ga2, pl2, li2, hp2, hI2⟩, hf2⟩
      have g172 := hp2.1
      have cc2 : ccAt G h2 (nI C.2.2.1) (nI (C.2.2.2.1 * C.2.2.1)) (bI C.2.2.2.2.1) bc f s L C.2.1 := ⟨rg_fr hf2 (by decide) cc1.1, rg_fr hf2 (by decide) cc1.2.1, rg_fr hf2 (by decide) cc1.2.2.1, rg_fr hf2 (by decide) cc1.2.2.2.1, rg_fr hf2 (by decide) cc1.2.2.2.2⟩
      have g72 := cc2.1
      refine a_aload_n 71 dX0_begin_70 rfl rfl ?_
      refine a_aload_n 72 dX0_begin_71 rfl rfl ?_
      refine a_iload_n 73 dX0_begin_72 rfl rfl ?_
      refine a_iconst (1) 74 dX0_begin_73 rfl (by decide) ?_
      refine a_callV ok_X0_addGap ln_X0_42 in_X0_addGap rfl 77 dX0_begin_74 rfl (k_X0_addGap (b := 1) o (by omega) (by decide) hp2 hI2 cc2) (by repeat (first | assumption | (refine rg_ne (by first | decide | omega) ?_) | apply rg_eq | refine rg_fr (by assumption) (by first | decide | (simp; omega)) ?_)) rfl rfl rfl ⟨(Nat.le_of_ble_eq_true rfl), (Nat.le_of_ble_eq_true rfl)⟩ (Nat.le_of_ble_eq_true rfl) ⟨(Nat.le_of_ble_eq_true rfl), (Nat.le_of_ble_eq_true rfl)⟩ ?_
      rintro h3 _ ⟨rfl, ⟨ga3, pl3, li3, hp3, hI3⟩, hf3⟩
      refine a_iinc _ 80 dX0_begin_77 rfl rfl (by decide) rfl ?_
      refine a_goto 55 dX0_begin_80 (by decide) ?_
      exact ih (c + 1) ga3 pl3 li3 _ _ (by omega) (nI_1 c) hp3 hI3 (fr_trans (fr_trans hfr hf2 (by decide)) hf3 (by decide))
  have A2 : ∀ (al2 : Nat → Int32), (∀ k, k < 52 → al2 k = 0) → ∀ (r k : Nat) (bo2 : Nat → Int32) (h1 : rH) (y : Int32), k + r = 2704 → y = nI k → plAt G h1 0 tk sv ga pl li al2 bo2 pa ch → (∀ j, j < k → bo2 j = 0) → fr h h1 [17, 18, 19, 20, 21, 22] → rW l G (rRm 4 0 0) mX0_begin (rZ G (fun h' v => v = none ∧ (∃ ga pl li al bo, plAt G h' (nI (rkP C 64)) tk sv ga pl li al bo pa ch ∧ plI C 64 ga pl li ∧ (∀ k, k < 52 → al k = 0) ∧ ∀ k, k < 2704 → bo k = 0) ∧ fr h h' [17, 18, 19, 20, 21, 22]) 0 0) 0 0 31 [some (.ref (gN G + 17)), some (.ref (gN G + 7)), some (.int y)] [] h1 := by
    intro al2 ha2 r
    induction r with
    | zero =>
      intro k bo2 h1 y hk hy hp1 hb2 hfr
      subst hy
      have e : k = 2704 := by omega
      subst e
      have hp2 := hp1
      obtain ⟨p1, p2, p3, p4, p5, p6, p7, p8⟩ := hp1
      refine a_iload_n 32 dX0_begin_31 rfl rfl ?_
      refine a_aload_n 33 dX0_begin_32 rfl rfl ?_
      refine a_get fd_X0_24 rfl 36 dX0_begin_33 rfl (by repeat (first | assumption | (refine rg_ne (by first | decide | omega) ?_) | apply rg_eq | refine rg_fr (by assumption) (by first | decide | (simp; omega)) ?_)) rfl ?_
      refine a_alen_0 37 dX0_begin_36 rfl (by repeat (first | assumption | (refine rg_ne (by first | decide | omega) ?_) | apply rg_eq | refine rg_fr (by assumption) (by first | decide | (simp; omega)) ?_)) ?_
      refine a_icmp_ge 53 40 dX0_begin_37 rfl (by decide) (fun c_37 => ?_) (fun c_37 => absurd (by decide) c_37)
      refine a_iconst (0) 54 dX0_begin_53 rfl (by decide) ?_
      refine a_istore_n 55 dX0_begin_54 rfl (by decide) ?_
      exact A3 al2 bo2 ha2 hb2 (C.2.2.2.1 * C.2.2.1) 0 ga pl li _ _ (by omega) rfl hp2 (fun j hj => absurd hj (by omega)) hfr
    | succ r ih =>
      intro k bo2 h1 y hk hy hp1 hb2 hfr
      subst hy
      obtain ⟨p1, p2, p3, p4, p5, p6, p7, p8⟩ := hp1
      have vk : vp_in (nI k) 2704 := vp_in_nI (by omega) (by decide)
      refine a_iload_n 32 dX0_begin_31 rfl rfl ?_
      refine a_aload_n 33 dX0_begin_32 rfl rfl ?_
      refine a_get fd_X0_24 rfl 36 dX0_begin_33 rfl (by repeat (first | assumption | (refine rg_ne (by first | decide | omega) ?_) | apply rg_eq | refine rg_fr (by assumption) (by first | decide | (simp; omega)) ?_)) rfl ?_
      refine a_alen_0 37 dX0_begin_36 rfl (by repeat (first | assumption | (refine rg_ne (by first | decide | omega) ?_) | apply rg_eq | refine rg_fr (by assumption) (by first | decide | (simp; omega)) ?_)) ?_
      refine a_icmp_ge 53 40 dX0_begin_37 rfl (by decide) (fun c_37 => absurd c_37 (nI_ge (a := k) (b := 2704) (by omega) (by decide))) (fun c_37 => ?_)
      refine a_aload_n 41 dX0_begin_40 rfl rfl ?_
      refine a_get fd_X0_24 rfl 44 dX0_begin_41 rfl (by repeat (first | assumption | (refine rg_ne (by first | decide | omega) ?_) | apply rg_eq | refine rg_fr (by assumption) (by first | decide | (simp; omega)) ?_)) rfl ?_
      refine a_iload_n 45 dX0_begin_44 rfl rfl ?_
      refine a_iconst (0) 46 dX0_begin_45 rfl (by decide) ?_
      refine a_iastore 47 dX0_begin_46 rfl (by repeat (first | assumption | (refine rg_ne (by first | decide | omega) ?_) | apply rg_eq | refine rg_fr (by assumption) (by first | decide | (simp; omega)) ?_)) vk ?_
      refine a_iinc _ 50 dX0_begin_47 rfl rfl (by decide) rfl ?_
      refine a_goto 31 dX0_begin_50 (by decide) ?_
      exact ih (k + 1) _ _ _ (by omega) (nI_1 k) ⟨rg_ne (by decide) p1, rg_ne (by decide) p2, rg_ne (by decide) p3, rg_ne (by decide) p4, rg_ne (by decide) p5, rg_eq p6, rg_ne (by decide) p7, rg_ne (by decide) p8⟩ (by rw [nI_clamp (by omega)]; exact up_0 hb2) (fr_set hfr (by decide))
  have A1 : ∀ (r k : Nat) (al2 : Nat → Int32) (h1 : rH) (y : Int32), k + r = 52 → y = nI k → plAt G h1 0 tk sv ga pl li al2 bo pa ch → (∀ j, j < k → al2 j = 0) → fr h h1 [17, 18, 19, 20, 21, 22] → rW l G (rRm 4 0 0) mX0_begin (rZ G (fun h' v => v = none ∧ (∃ ga pl li al bo, plAt G h' (nI (rkP C 64)) tk sv ga pl li al bo pa ch ∧ plI C 64 ga pl li ∧ (∀ k, k < 52 → al k = 0) ∧ ∀ k, k < 2704 → bo k = 0) ∧ fr h h' [17, 18, 19, 20, 21, 22]) 0 0) 0 0 7 [some (.ref (gN G + 17)), some (.ref (gN G + 7)), some (.int y)] [] h1 := by
    intro r
    induction r with
    | zero =>
      intro k al2 h1 y hk hy hp1 ha2 hfr
      subst hy
      have e : k = 52 := by omega
      subst e
      have hp2 := hp1
      obtain ⟨p1, p2, p3, p4, p5, p6, p7, p8⟩ := hp1
      refine a_iload_n 8 dX0_begin_7 rfl rfl ?_
      refine a_aload_n 9 dX0_begin_8 rfl rfl ?_
      refine a_get fd_X0_21 rfl 12 dX0_begin_9 rfl (by repeat (first | assumption | (refine rg_ne (by first | decide | omega) ?_) | apply rg_eq | refine rg_fr (by assumption) (by first | decide | (simp; omega)) ?_)) rfl ?_
      refine a_alen_0 13 dX0_begin_12 rfl (by repeat (first | assumption | (refine rg_ne (by first | decide | omega) ?_) | apply rg_eq | refine rg_fr (by assumption) (by first | decide | (simp; omega)) ?_)) ?_
      refine a_icmp_ge 29 16 dX0_begin_13 rfl (by decide) (fun c_13 => ?_) (fun c_13 => absurd (by decide) c_13)
      refine a_iconst (0) 30 dX0_begin_29 rfl (by decide) ?_
      refine a_istore_n 31 dX0_begin_30 rfl (by decide) ?_
      exact A2 al2 ha2 2704 0 bo _ _ (by omega) rfl hp2 (fun j hj => absurd hj (by omega)) hfr
    | succ r ih =>
      intro k al2 h1 y hk hy hp1 ha2 hfr
      subst hy
      obtain ⟨p1, p2, p3, p4, p5, p6, p7, p8⟩ := hp1
      have vk : vp_in (nI k) 52 := vp_in_nI (by omega) (by decide)
      refine a_iload_n 8 dX0_begin_7 rfl rfl ?_
      refine a_aload_n 9 dX0_begin_8 rfl rfl ?_
      refine a_get fd_X0_21 rfl 12 dX0_begin_9 rfl (by repeat (first | assumption | (refine rg_ne (by first | decide | omega) ?_) | apply rg_eq | refine rg_fr (by assumption) (by first | decide | (simp; omega)) ?_)) rfl ?_
      refine a_alen_0 13 dX0_begin_12 rfl (by repeat (first | assumption | (refine rg_ne (by first | decide | omega) ?_) | apply rg_eq | refine rg_fr (by assumption) (by first | decide | (simp; omega)) ?_)) ?_
      refine a_icmp_ge 29 16 dX0_begin_13 rfl (by decide) (fun c_13 => absurd c_13 (nI_ge (a := k) (b := 52) (by omega) (by decide))) (fun c_13 => ?_)
      refine a_aload_n 17 dX0_begin_16 rfl rfl ?_
      refine a_get fd_X0_21 rfl 20 dX0_begin_17 rfl (by repeat (first | assumption | (refine rg_ne (by first | decide | omega) ?_) | apply rg_eq | refine rg_fr (by assumption) (by first | decide | (simp; omega)) ?_)) rfl ?_
      refine a_iload_n 21 dX0_begin_20 rfl rfl ?_
      refine a_iconst (0) 22 dX0_begin_21 rfl (by decide) ?_
      refine a_iastore 23 dX0_begin_22 rfl (by repeat (first | assumption | (refine rg_ne (by first | decide | omega) ?_) | apply rg_eq | refine rg_fr (by assumption) (by first | decide | (simp; omega)) ?_)) vk ?_
      refine a_iinc _ 26 dX0_begin_23 rfl rfl (by decide) rfl ?_
      refine a_goto 7 dX0_begin_26 (by decide) ?_
      exact ih (k + 1) _ _ _ (by omega) (nI_1 k) ⟨rg_ne (by decide) p1, rg_ne (by decide) p2, rg_ne (by decide) p3, rg_ne (by decide) p4, rg_eq p5, rg_ne (by decide) p6, rg_ne (by decide) p7, rg_ne (by decide) p8⟩ (by rw [nI_clamp (by omega)]; exact up_0 ha2) (fr_set hfr (by decide))
  obtain ⟨p1, p2, p3, p4, p5, p6, p7, p8⟩ := hp
  refine rM_start (by decide) (Nat.le_of_ble_eq_true rfl) ?_
  refine a_aload_n 1 dX0_begin_0 rfl rfl ?_
  refine a_iconst (0) 2 dX0_begin_1 rfl (by decide) ?_
  refine a_put fd_X0_33 cl_X0 rfl 5 dX0_begin_2 rfl (by repeat (first | assumption | (refine rg_ne (by first | decide | omega) ?_) | apply rg_eq | refine rg_fr (by assumption) (by first | decide | (simp; omega)) ?_)) (Nat.le_of_ble_eq_true rfl) rfl rfl rfl ?_
  refine a_iconst (0) 6 dX0_begin_5 rfl (by decide) ?_
  refine a_istore_n 7 dX0_begin_6 rfl (by decide) ?_
  exact A1 52 0 al _ _ (by omega) rfl ⟨rg_eq p1, rg_ne (by decide) p2, rg_ne (by decide) p3, rg_ne (by decide) p4, rg_ne (by decide) p5, rg_ne (by decide) p6, rg_ne (by decide) p7, rg_ne (by decide) p8⟩ (fun j hj => absurd hj (by omega)) (fr_set (fr_refl _ _) (by decide))
set_option maxRecDepth 100000 in
set_option maxHeartbeats 400000 in
theorem k_X0_passGaps (o : okC C) (hp : plAt G h fr1 tk sv ga pl li al bo pa ch) (hcc : ccAt G h (nI C.2.2.1) (nI (C.2.2.2.1 * C.2.2.1)) (bI C.2.2.2.2.1) bc f s L C.2.1) {k0 w : Nat} (hk0 : k0 < C.2.2.2.1 * C.2.2.1) (hw : w < 4) {to : Option Nat} (hto : ∀ x, to = some x → x < 32) : rM l G 3 mX0_passGaps 0 0 [.ref (gN G + 17), .ref (gN G + 7), .int (nI k0), .int (noI to), .int (nI w)] h (fun h' v => v = some (.int (psA (psN C w to 32 k0))) ∧ (∃ pa', plAt G h' fr1 tk sv ga pl li al bo pa' ch ∧ ∀ m, psN C w to 32 k0 = some m → ∀ j, j < m.length → pa' j = pl (m.getD j 0)) ∧ fr h h' [23]) := by
  have hn32 := okC_n o
  have A : ∀ (X : Option (List Nat)) (r i k : Nat) (p : List Nat) (pa1 : Nat → Int32) (h1 : rH) (y5 y6 : Int32) (o7 o8 : Option Value), i + r = 32 → k < C.2.2.2.1 * C.2.2.1 → p.length = i → X = (psN C w to r k).map (p ++ ·) → (∀ j, j < i → pa1 j = pl (p.getD j 0)) → y5 = nI k → y6 = nI i → plAt G h1 fr1 tk sv ga pl li al bo pa1 ch → fr h h1 [23] → rW l G (rRm 3 0 0) mX0_passGaps (rZ G (fun h' v => v = some (.int (psA X)) ∧ (∃ pa', plAt G h' fr1 tk sv ga pl li al bo pa' ch ∧ ∀ m, X = some m → ∀ j, j < m.length → pa' j = pl (m.getD j 0)) ∧ fr h h' [23]) 0 0) 0 0 6 [some (.ref (gN G + 17)), some (.ref (gN G + 7)), some (.int (nI k0)), some (.int (noI to)), some (.int (nI w)), some (.int y5), some (.int y6), o7, o8] [] h1 := by
    intro X r
    induction r with
    | zero =>
      intro i k p pa1 h1 y5 y6 o7 o8 hi hk hpl hX hpa h5 h6 hp1 hfr
      subst h5; subst h6
      have e : i = 32 := by omega
      subst e
      have hX2 : X = none := hX
      obtain ⟨p1, p2, p3, p4, p5, p6, p7, p8⟩ := id hp1
      refine a_iload 8 dX0_passGaps_6 rfl rfl ?_
      refine a_aload_n 9 dX0_passGaps_8 rfl rfl ?_
      refine a_get fd_X0_27 rfl 12 dX0_passGaps_9 rfl (by repeat (first | assumption | (refine rg_ne (by first | decide | omega) ?_) | apply rg_eq | refine rg_fr (by assumption) (by first | decide | (simp; omega)) ?_)) rfl ?_
      refine a_alen_0 13 dX0_passGaps_12 rfl (by repeat (first | assumption | (refine rg_ne (by first | decide | omega) ?_) | apply rg_eq | refine rg_fr (by assumption) (by first | decide | (simp; omega)) ?_)) ?_
      refine a_icmp_ge 117 16 dX0_passGaps_13 rfl (by decide) (fun c_13 => ?_) (fun c_13 => absurd (by decide) c_13)
      refine a_bipush (-9) 119 dX0_passGaps_117 rfl (by decide) ?_
      exact a_ireturn dX0_passGaps_119 rfl rfl (Nat.le_of_ble_eq_true rfl) (Nat.le_of_ble_eq_true rfl) ⟨by rw [hX2], ⟨pa1, hp1, fun m hm => by rw [hX2] at hm; cases hm⟩, hfr⟩
    | succ r ih =>
      intro i k p pa1 h1 y5 y6 o7 o8 hi hk hpl hX hpa h5 h6 hp1 hfr
      subst h5; subst h6
      obtain ⟨p1, p2, p3, p4, p5, p6, p7, p8⟩ := id hp1
      have g7 := rg_fr hfr (by decide) hcc.1
      have vi : vp_in (nI i) 32 := vp_in_nI (by omega) (by decide)
      have eto : nI k = noI to ↔ to = some k := ⟨fun z => (noI_eq hto (by omega)).mp z.symm, fun z => ((noI_eq hto (by omega)).mpr z).symm⟩
      have eno : noI to = -9 ↔ to = none := by
        cases hto2 : to with
        | none => exact ⟨fun _ => rfl, fun _ => rfl⟩
        | some x => exact ⟨fun z => absurd z (nI_ne9 (by have := hto x hto2; omega)), fun z => by cases z⟩
      have hfin : ∀ X', psN C w to (r + 1) k = X' → (X' = some [] → psA X = nI i ∧ ∀ m, X = some m → ∀ j, j < m.length → pa1 j = pl (m.getD j 0)) ∧ (X' = none → X = none) := by
        intro X' hX'
        refine ⟨fun z => ?_, fun z => by rw [hX, hX', z]; rfl⟩
        have hX3 : X = some (p ++ []) := by rw [hX, hX', z]; rfl
        rw [List.append_nil] at hX3
        exact ⟨by rw [hX3]; show nI p.length = nI i; rw [hpl], fun m hm j hj => by rw [hX3] at hm; cases hm; exact hpa j (by omega)⟩
      by_cases htk : to = some k
      · have hps : psN C w to (r + 1) k = some [] := by rw [psN, if_pos htk]
        have hF := (hfin _ hps).1 rfl
        refine a_iload 8 dX0_passGaps_6 rfl rfl ?_
        refine a_aload_n 9 dX0_passGaps_8 rfl rfl ?_
        refine a_get fd_X0_27 rfl 12 dX0_passGaps_9 rfl (by repeat (first | assumption | (refine rg_ne (by first | decide | omega) ?_) | apply rg_eq | refine rg_fr (by assumption) (by first | decide | (simp; omega)) ?_)) rfl ?_
        refine a_alen_0 13 dX0_passGaps_12 rfl (by repeat (first | assumption | (refine rg_ne (by first | decide | omega) ?_) | apply rg_eq | refine rg_fr (by assumption) (by first | decide | (simp; omega)) ?_)) ?_
        refine a_icmp_ge 117 16 dX0_passGaps_13 rfl (by decide) (fun c_13 => absurd c_13 (nI_ge (a := i) (b := 32) (by omega) (by decide))) (fun c_13 => ?_)
        refine a_iload 18 dX0_passGaps_16 rfl rfl ?_
        refine a_iload_n 19 dX0_passGaps_18 rfl rfl ?_
        refine a_icmp_ne 27 22 dX0_passGaps_19 rfl (by decide) (fun c_19 => absurd (eto.mpr htk) c_19) (fun c_19 => ?_)
        refine a_bipush (-9) 24 dX0_passGaps_22 rfl (by decide) ?_
        refine a_goto 35 dX0_passGaps_24 (by decide) ?_
        refine a_istore 37 dX0_passGaps_35 rfl (by decide) ?_
        refine a_iload 39 dX0_passGaps_37 rfl rfl ?_
        refine a_bipush (-9) 41 dX0_passGaps_39 rfl (by decide) ?_
        refine a_icmp_ne 64 44 dX0_passGaps_41 rfl (by decide) (fun c_41 => absurd rfl c_41) (fun c_41 => ?_)
        refine a_iload_n 45 dX0_passGaps_44 rfl rfl ?_
        refine a_bipush (-9) 47 dX0_passGaps_45 rfl (by decide) ?_
        refine a_icmp_eq 56 50 dX0_passGaps_47 rfl (by decide) (fun c_47 => ?_) (fun c_47 => ?_)
        · refine a_iload 58 dX0_passGaps_56 rfl rfl ?_
          refine a_goto 63 dX0_passGaps_58 (by decide) ?_
          exact a_ireturn dX0_passGaps_63 rfl rfl (Nat.le_of_ble_eq_true rfl) (Nat.le_of_ble_eq_true rfl) ⟨by rw [hF.1], ⟨pa1, hp1, hF.2⟩, hfr⟩
        · refine a_iload 52 dX0_passGaps_50 rfl rfl ?_
          refine a_iload_n 53 dX0_passGaps_52 rfl rfl ?_
          refine a_icmp_ne 61 56 dX0_passGaps_53 rfl (by decide) (fun c_53 => absurd (eto.mpr htk) c_53) (fun c_53 => ?_)
          refine a_iload 58 dX0_passGaps_56 rfl rfl ?_
          refine a_goto 63 dX0_passGaps_58 (by decide) ?_
          exact a_ireturn dX0_passGaps_63 rfl rfl (Nat.le_of_ble_eq_true rfl) (Nat.le_of_ble_eq_true rfl) ⟨by rw [hF.1], ⟨pa1, hp1, hF.2⟩, hfr⟩
      · have enx := (nxS_D C.2.2.1 o.1 C.2.2.2.1 o.2.1 k hk w hw).trans (congrArg noI (o.2.2.2.2.2 k w hk hw).symm)
        cases hn : C.1 k w with
        | none =>
          rw [hn] at enx
          by_cases ht0 : to = none
          · have hps : psN C w to (r + 1) k = some [] := by rw [psN, if_neg htk, hn]; exact if_pos ht0
            have hF := (hfin _ hps).1 rfl
            refine a_iload 8 dX0_passGaps_6 rfl rfl ?_
            refine a_aload_n 9 dX0_passGaps_8 rfl rfl ?_
            refine a_get fd_X0_27 rfl 12 dX0_passGaps_9 rfl (by repeat (first | assumption | (refine rg_ne (by first | decide | omega) ?_) | apply rg_eq | refine rg_fr (by assumption) (by first | decide | (simp; omega)) ?_)) rfl ?_
            refine a_alen_0 13 dX0_passGaps_12 rfl (by repeat (first | assumption | (refine rg_ne (by first | decide | omega) ?_) | apply rg_eq | refine rg_fr (by assumption) (by first | decide | (simp; omega)) ?_)) ?_
            refine a_icmp_ge 117 16 dX0_passGaps_13 rfl (by decide) (fun c_13 => absurd c_13 (nI_ge (a := i) (b := 32) (by omega) (by decide))) (fun c_13 => ?_)
            refine a_iload 18 dX0_passGaps_16 rfl rfl ?_
            refine a_iload_n 19 dX0_passGaps_18 rfl rfl ?_
            refine a_icmp_ne 27 22 dX0_passGaps_19 rfl (by decide) (fun c_19 => ?_) (fun c_19 => absurd c_19 (fun z => htk (eto.mp z)))
            refine a_aload_n 28 dX0_passGaps_27 rfl rfl ?_
            refine a_iload 30 dX0_passGaps_28 rfl rfl ?_
            refine a_iload 32 dX0_passGaps_30 rfl rfl ?_
            refine a_callV ok_X1_nextSeat ln_X0_46 in_X1_nextSeat rfl 35 dX0_passGaps_32 rfl (k_X1_nextSeat g7 (nI k) (nI w)) (by repeat (first | assumption | (refine rg_ne (by first | decide | omega) ?_) | apply rg_eq | refine rg_fr (by assumption) (by first | decide | (simp; omega)) ?_)) rfl rfl rfl ⟨(Nat.le_of_ble_eq_true rfl), (Nat.le_of_ble_eq_true rfl)⟩ (Nat.le_of_ble_eq_true rfl) ⟨(Nat.le_of_ble_eq_true rfl), (Nat.le_of_ble_eq_true rfl)⟩ ?_
            rintro _ _ ⟨rfl, rfl⟩
            rw [enx]
            refine a_istore 37 dX0_passGaps_35 rfl (by decide) ?_
            refine a_iload 39 dX0_passGaps_37 rfl rfl ?_
            refine a_bipush (-9) 41 dX0_passGaps_39 rfl (by decide) ?_
            refine a_icmp_ne 64 44 dX0_passGaps_41 rfl (by decide) (fun c_41 => absurd rfl c_41) (fun c_41 => ?_)
            refine a_iload_n 45 dX0_passGaps_44 rfl rfl ?_
            refine a_bipush (-9) 47 dX0_passGaps_45 rfl (by decide) ?_
            refine a_icmp_eq 56 50 dX0_passGaps_47 rfl (by decide) (fun c_47 => ?_) (fun c_47 => absurd (eno.mpr ht0) c_47)
            refine a_iload 58 dX0_passGaps_56 rfl rfl ?_
            refine a_goto 63 dX0_passGaps_58 (by decide) ?_
            exact a_ireturn dX0_passGaps_63 rfl rfl (Nat.le_of_ble_eq_true rfl) (Nat.le_of_ble_eq_true rfl) ⟨by rw [hF.1], ⟨pa1, hp1, hF.2⟩, hfr⟩
          · have hps : psN C w to (r + 1) k = none := by rw [psN, if_neg htk, hn]; exact if_neg ht0
            have hX2 := (hfin _ hps).2 rfl
            refine a_iload 8 dX0_passGaps_6 rfl rfl ?_
            refine a_aload_n 9 dX0_passGaps_8 rfl rfl ?_
            refine a_get fd_X0_27 rfl 12 dX0_passGaps_9 rfl (by repeat (first | assumption | (refine rg_ne (by first | decide | omega) ?_) | apply rg_eq | refine rg_fr (by assumption) (by first | decide | (simp; omega)) ?_)) rfl ?_
            refine a_alen_0 13 dX0_passGaps_12 rfl (by repeat (first | assumption | (refine rg_ne (by first | decide | omega) ?_) | apply rg_eq | refine rg_fr (by assumption) (by first | decide | (simp; omega)) ?_)) ?_
            refine a_icmp_ge 117 16 dX0_passGaps_13 rfl (by decide) (fun c_13 => absurd c_13 (nI_ge (a := i) (b := 32) (by omega) (by decide))) (fun c_13 => ?_)
            refine a_iload 18 dX0_passGaps_16 rfl rfl ?_
            refine a_iload_n 19 dX0_passGaps_18 rfl rfl ?_
            refine a_icmp_ne 27 22 dX0_passGaps_19 rfl (by decide) (fun c_19 => ?_) (fun c_19 => absurd c_19 (fun z => htk (eto.mp z)))
            refine a_aload_n 28 dX0_passGaps_27 rfl rfl ?_
            refine a_iload 30 dX0_passGaps_28 rfl rfl ?_
            refine a_iload 32 dX0_passGaps_30 rfl rfl ?_
            refine a_callV ok_X1_nextSeat ln_X0_46 in_X1_nextSeat rfl 35 dX0_passGaps_32 rfl (k_X1_nextSeat g7 (nI k) (nI w)) (by repeat (first | assumption | (refine rg_ne (by first | decide | omega) ?_) | apply rg_eq | refine rg_fr (by assumption) (by first | decide | (simp; omega)) ?_)) rfl rfl rfl ⟨(Nat.le_of_ble_eq_true rfl), (Nat.le_of_ble_eq_true rfl)⟩ (Nat.le_of_ble_eq_true rfl) ⟨(Nat.le_of_ble_eq_true rfl), (Nat.le_of_ble_eq_true rfl)⟩ ?_
            rintro _ _ ⟨rfl, rfl⟩
            rw [enx]
            refine a_istore 37 dX0_passGaps_35 rfl (by decide) ?_
            refine a_iload 39 dX0_passGaps_37 rfl rfl ?_
            refine a_bipush (-9) 41 dX0_passGaps_39 rfl (by decide) ?_
            refine a_icmp_ne 64 44 dX0_passGaps_41 rfl (by decide) (fun c_41 => absurd rfl c_41) (fun c_41 => ?_)
            refine a_iload_n 45 dX0_passGaps_44 rfl rfl ?_
            refine a_bipush (-9) 47 dX0_passGaps_45 rfl (by decide) ?_
            refine a_icmp_eq 56 50 dX0_passGaps_47 rfl (by decide) (fun c_47 => absurd c_47 (fun z => ht0 (eno.mp z))) (fun c_47 => ?_)
            refine a_iload 52 dX0_passGaps_50 rfl rfl ?_
            refine a_iload_n 53 dX0_passGaps_52 rfl rfl ?_
            refine a_icmp_ne 61 56 dX0_passGaps_53 rfl (by decide) (fun c_53 => ?_) (fun c_53 => absurd c_53 (fun z => htk (eto.mp z)))
            refine a_bipush (-9) 63 dX0_passGaps_61 rfl (by decide) ?_
            exact a_ireturn dX0_passGaps_63 rfl rfl (Nat.le_of_ble_eq_true rfl) (Nat.le_of_ble_eq_true rfl) ⟨by rw [hX2], ⟨pa1, hp1, fun m hm => by rw [hX2] at hm; cases hm⟩, hfr⟩
        | some d =>
          rw [hn] at enx
          have hs := nb_step o hk hw hn
          have hg64 : gpN C.2.2.1 k d < 64 := by unfold gpN; split <;> omega
          have eg := gap_D C.2.2.1 o.1 C.2.2.2.1 o.2.1 k hk d hs.1
          rw [if_pos hs.2.2.2] at eg
          have vg : vp_in (nI (gpN C.2.2.1 k d)) 64 := vp_in_nI hg64 (by decide)
          have hX2 : X = (psN C w to r d).map ((p ++ [gpN C.2.2.1 k d]) ++ ·) := by
            rw [hX, psN, if_neg htk, hn]
            dsimp only
            rw [Option.map_map]
            congr 1
            funext q
            simp
          refine a_iload 8 dX0_passGaps_6 rfl rfl ?_
          refine a_aload_n 9 dX0_passGaps_8 rfl rfl ?_
          refine a_get fd_X0_27 rfl 12 dX0_passGaps_9 rfl (by repeat (first | assumption | (refine rg_ne (by first | decide | omega) ?_) | apply rg_eq | refine rg_fr (by assumption) (by first | decide | (simp; omega)) ?_)) rfl ?_
          refine a_alen_0 13 dX0_passGaps_12 rfl (by repeat (first | assumption | (refine rg_ne (by first | decide | omega) ?_) | apply rg_eq | refine rg_fr (by assumption) (by first | decide | (simp; omega)) ?_)) ?_
          refine a_icmp_ge 117 16 dX0_passGaps_13 rfl (by decide) (fun c_13 => absurd c_13 (nI_ge (a := i) (b := 32) (by omega) (by decide))) (fun c_13 => ?_)
          refine a_iload 18 dX0_passGaps_16 rfl rfl ?_
          refine a_iload_n 19 dX0_passGaps_18 rfl rfl ?_
          refine a_icmp_ne 27 22 dX0_passGaps_19 rfl (by decide) (fun c_19 => ?_) (fun c_19 => absurd c_19 (fun z => htk (eto.mp z)))
          refine a_aload_n 28 dX0_passGaps_27 rfl rfl ?_
          refine a_iload 30 dX0_passGaps_28 rfl rfl ?_
          refine a_iload 32 dX0_passGaps_30 rfl rfl ?_
          refine a_callV ok_X1_nextSeat ln_X0_46 in_X1_nextSeat rfl 35 dX0_passGaps_32 rfl (k_X1_nextSeat g7 (nI k) (nI w)) (by repeat (first | assumption | (refine rg_ne (by first | decide | omega) ?_) | apply rg_eq | refine rg_fr (by assumption) (by first | decide | (simp; omega)) ?_)) rfl rfl rfl ⟨(Nat.le_of_ble_eq_true rfl), (Nat.le_of_ble_eq_true rfl)⟩ (Nat.le_of_ble_eq_true rfl) ⟨(Nat.le_of_ble_eq_true rfl), (Nat.le_of_ble_eq_true rfl)⟩ ?_
          rintro _ _ ⟨rfl, rfl⟩
          rw [enx]
          refine a_istore 37 dX0_passGaps_35 rfl (by decide) ?_
          refine a_iload 39 dX0_passGaps_37 rfl rfl ?_
          refine a_bipush (-9) 41 dX0_passGaps_39 rfl (by decide) ?_
          refine a_icmp_ne 64 44 dX0_passGaps_41 rfl (by decide) (fun c_41 => ?_) (fun c_41 => absurd c_41 (nI_ne9 (by omega)))
          refine a_aload_n 65 dX0_passGaps_64 rfl rfl ?_
          refine a_iload 67 dX0_passGaps_65 rfl rfl ?_
          refine a_iload 69 dX0_passGaps_67 rfl rfl ?_
          refine a_callV ok_X1_gapBetween ln_X0_50 in_X1_gapBetween rfl 72 dX0_passGaps_69 rfl (k_X1_gapBetween g7 (nI k) (nI d)) (by repeat (first | assumption | (refine rg_ne (by first | decide | omega) ?_) | apply rg_eq | refine rg_fr (by assumption) (by first | decide | (simp; omega)) ?_)) rfl rfl rfl ⟨(Nat.le_of_ble_eq_true rfl), (Nat.le_of_ble_eq_true rfl)⟩ (Nat.le_of_ble_eq_true rfl) ⟨(Nat.le_of_ble_eq_true rfl), (Nat.le_of_ble_eq_true rfl)⟩ ?_
          rintro _ _ ⟨rfl, rfl⟩
          rw [eg]
          refine a_istore 74 dX0_passGaps_72 rfl (by decide) ?_
          refine a_aload_n 75 dX0_passGaps_74 rfl rfl ?_
          refine a_get fd_X0_27 rfl 78 dX0_passGaps_75 rfl (by repeat (first | assumption | (refine rg_ne (by first | decide | omega) ?_) | apply rg_eq | refine rg_fr (by assumption) (by first | decide | (simp; omega)) ?_)) rfl ?_
          refine a_iload 80 dX0_passGaps_78 rfl rfl ?_
          refine a_iload 82 dX0_passGaps_80 rfl rfl ?_
          refine a_if_lt 105 85 dX0_passGaps_82 rfl (by decide) (fun c_82 => absurd c_82 (nI_pos (by omega))) (fun c_82 => ?_)
          refine a_iload 87 dX0_passGaps_85 rfl rfl ?_
          refine a_aload_n 88 dX0_passGaps_87 rfl rfl ?_
          refine a_get fd_X0_15 rfl 91 dX0_passGaps_88 rfl (by repeat (first | assumption | (refine rg_ne (by first | decide | omega) ?_) | apply rg_eq | refine rg_fr (by assumption) (by first | decide | (simp; omega)) ?_)) rfl ?_
          refine a_alen_0 92 dX0_passGaps_91 rfl (by repeat (first | assumption | (refine rg_ne (by first | decide | omega) ?_) | apply rg_eq | refine rg_fr (by assumption) (by first | decide | (simp; omega)) ?_)) ?_
          refine a_icmp_ge 105 95 dX0_passGaps_92 rfl (by decide) (fun c_92 => absurd c_92 (nI_ge (a := gpN C.2.2.1 k d) (b := 64) hg64 (by decide))) (fun c_92 => ?_)
          refine a_aload_n 96 dX0_passGaps_95 rfl rfl ?_
          refine a_get fd_X0_15 rfl 99 dX0_passGaps_96 rfl (by repeat (first | assumption | (refine rg_ne (by first | decide | omega) ?_) | apply rg_eq | refine rg_fr (by assumption) (by first | decide | (simp; omega)) ?_)) rfl ?_
          refine a_iload 101 dX0_passGaps_99 rfl rfl ?_
          refine a_iaload 102 dX0_passGaps_101 rfl (by repeat (first | assumption | (refine rg_ne (by first | decide | omega) ?_) | apply rg_eq | refine rg_fr (by assumption) (by first | decide | (simp; omega)) ?_)) vg ?_
          refine a_goto 106 dX0_passGaps_102 (by decide) ?_
          rw [nI_clamp (show gpN C.2.2.1 k d < 2 ^ 31 by omega)]
          refine a_iastore 107 dX0_passGaps_106 rfl (by repeat (first | assumption | (refine rg_ne (by first | decide | omega) ?_) | apply rg_eq | refine rg_fr (by assumption) (by first | decide | (simp; omega)) ?_)) vi ?_
          refine a_iload 109 dX0_passGaps_107 rfl rfl ?_
          refine a_istore 111 dX0_passGaps_109 rfl (by decide) ?_
          refine a_iinc _ 114 dX0_passGaps_111 rfl rfl (by decide) rfl ?_
          refine a_goto 6 dX0_passGaps_114 (by decide) ?_
          exact ih (i + 1) d (p ++ [gpN C.2.2.1 k d]) _ _ _ _ _ _ (by omega) hs.1 (by simp; omega) hX2 (pa_step (v := pl (gpN C.2.2.1 k d)) hpl hpa rfl) rfl (nI_1 i) ⟨rg_ne (by decide) p1, rg_ne (by decide) p2, rg_ne (by decide) p3, rg_ne (by decide) p4, rg_ne (by decide) p5, rg_ne (by decide) p6, by rw [nI_clamp (show i < 2 ^ 31 by omega)]; exact rg_eq p7, rg_ne (by decide) p8⟩ (fr_set hfr (by decide))
  have g17 := hp.1
  refine rM_start (by decide) (Nat.le_of_ble_eq_true rfl) ?_
  refine a_iload_n 1 dX0_passGaps_0 rfl rfl ?_
  refine a_istore 3 dX0_passGaps_1 rfl (by decide) ?_
  refine a_iconst (0) 4 dX0_passGaps_3 rfl (by decide) ?_
  refine a_istore 6 dX0_passGaps_4 rfl (by decide) ?_
  exact A _ 32 0 k0 [] pa _ _ _ _ _ (by omega) hk0 rfl (by simp) (fun j hj => absurd hj (by omega)) rfl rfl hp (fr_refl _ _)
end SIGHT
