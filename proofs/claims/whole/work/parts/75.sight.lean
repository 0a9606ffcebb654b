/-! THE CLASS's plan: what a sight adds -/
def inA (R : Nat → Nat) : Nat → Nat → Bool
  | 0, _ => false
  | a + 1, x => inA R a x || decide (R a = x)
theorem inA_no {R : Nat → Nat} {n : Nat} (hR : ∀ i j, i < n → j < n → R i = R j → i = j) : ∀ {a b : Nat}, a ≤ b → b < n → inA R a (R b) = false
  | 0, _, _, _ => rfl
  | a + 1, b, h, hb => by
    rw [inA, inA_no hR (by omega) hb, decide_eq_false (fun z => by have := hR a b (by omega) hb z; omega)]
    rfl
abbrev pairA (R : Nat → Nat) (a b x y : Nat) : Bool := (inA R a x && inA R a y) || ((decide (R a = x) && inA R b y) || (decide (R a = y) && inA R b x))
theorem pair_all {R : Nat → Nat} {a x y : Nat} (hxy : x ≠ y) : pairA R a a x y = (inA R (a + 1) x && inA R (a + 1) y) := by
  unfold pairA
  rw [inA, inA]
  by_cases h1 : R a = x
  · have h2 : ¬ R a = y := fun z => hxy (h1.symm.trans z)
    simp [h1, h2, hxy]
  · by_cases h2 : R a = y
    · simp [h1, h2, hxy]
      cases inA R a x <;> cases inA R a y <;> simp_all
    · simp [h1, h2]
theorem al_step {R : Nat → Nat} {n a : Nat} {al0 al1 : Nat → Int32} {v : Int32} (hR : ∀ i j, i < n → j < n → R i = R j → i = j) (ha : a < n) (h : ∀ x, x < 52 → al1 x = al0 x + if inA R a x then v else 0) : ∀ x, x < 52 → upd al1 (R a) (al1 (R a) + v) x = al0 x + if inA R (a + 1) x then v else 0 := by
  intro x hx
  by_cases e : x = R a
  · subst e
    rw [pk_us, h _ hx, inA_no hR (Nat.le_refl _) ha, inA, decide_eq_true rfl, Bool.or_true, if_pos rfl, if_neg (by decide), Int32.add_zero]
  · rw [pk_un e, h x hx, inA, decide_eq_false (fun z => e z.symm), Bool.or_false]
theorem bo_step {R : Nat → Nat} {n a b : Nat} {bo0 bo1 : Nat → Int32} {v : Int32} (hR : ∀ i j, i < n → j < n → R i = R j → i = j) (h52 : ∀ i, i < n → R i < 52) (ha : a < n) (hb : b < a) (h : ∀ x y, x < y → y < 52 → bo1 (x * 52 + y) = bo0 (x * 52 + y) + if pairA R a b x y then v else 0) : ∀ x y, x < y → y < 52 → upd bo1 (min (R a) (R b) * 52 + max (R a) (R b)) (bo1 (min (R a) (R b) * 52 + max (R a) (R b)) + v) (x * 52 + y) = bo0 (x * 52 + y) + if pairA R a (b + 1) x y then v else 0 := by
  intro x y hxy hy
  have hne : R a ≠ R b := fun z => by have := hR a b ha (by omega) z; omega
  have h1 := h52 a ha
  have h2 := h52 b (by omega)
  have na := inA_no hR (Nat.le_refl a) ha
  have nb := inA_no hR (Nat.le_refl b) (show b < n by omega)
  have nba := inA_no hR (show b ≤ a by omega) ha
  by_cases e : x * 52 + y = min (R a) (R b) * 52 + max (R a) (R b)
  · have ex : x = min (R a) (R b) := by omega
    have ey : y = max (R a) (R b) := by omega
    rw [e, pk_us, ← e, h x y hxy hy]
    have p0 : pairA R a b x y = false := by
      unfold pairA
      rcases Nat.lt_or_ge (R a) (R b) with q | q
      · rw [ex, ey, Nat.min_eq_left (by omega), Nat.max_eq_right (by omega), na, nb, decide_eq_false hne]; simp
      · rw [ex, ey, Nat.min_eq_right q, Nat.max_eq_left q, na, nb, decide_eq_false hne]; simp
    have p1 : pairA R a (b + 1) x y = true := by
      unfold pairA
      rcases Nat.lt_or_ge (R a) (R b) with q | q
      · rw [ex, ey, Nat.min_eq_left (by omega), Nat.max_eq_right (by omega), inA]; simp
      · rw [ex, ey, Nat.min_eq_right q, Nat.max_eq_left q, inA]; simp; right; right; simp [inA]
    rw [p0, p1, if_neg (by decide), if_pos rfl, Int32.add_zero]
  · rw [pk_un e, h x y hxy hy]
    have p : pairA R a (b + 1) x y = pairA R a b x y := by
      unfold pairA
      rw [inA, inA]
      by_cases q1 : R a = x
      · have q2 : ¬ R b = y := fun z => e (by rw [← q1, ← z] at hxy ⊢; rw [Nat.min_eq_left (by omega), Nat.max_eq_right (by omega)])
        have q3 : ¬ R a = y := by omega
        rw [decide_eq_false q2, decide_eq_false q3, Bool.or_false, Bool.false_and, Bool.false_and]
      · by_cases q3 : R a = y
        · have q2 : ¬ R b = x := fun z => e (by rw [← q3, ← z] at hxy ⊢; rw [Nat.min_eq_right (by omega), Nat.max_eq_left (by omega)])
          rw [decide_eq_false q1, decide_eq_false q2, Bool.or_false, Bool.false_and, Bool.false_and]
        · rw [decide_eq_false q1, decide_eq_false q3, Bool.false_and, Bool.false_and, Bool.false_and, Bool.false_and]
    rw [p]
abbrev glC (C : CarT) (k x : Nat) : List Nat := match psN C (C.2.2.2.2.2 k) (some x) 32 k with
  | some m => m
  | none => (psN C (C.2.2.2.2.2 k) none 32 x).getD []
theorem ps_len {C : CarT} {w : Nat} {to : Option Nat} : ∀ (r k : Nat) (m : List Nat), psN C w to r k = some m → m.length ≤ r
  | 0, _, _, h => by cases h
  | r + 1, k, m, h => by
    rw [psN] at h
    by_cases e : to = some k
    · rw [if_pos e] at h; cases h; exact Nat.zero_le _
    · rw [if_neg e] at h
      cases hn : C.1 k w with
      | none =>
        rw [hn] at h
        dsimp only at h
        by_cases e2 : to = none
        · rw [if_pos e2] at h; cases h; exact Nat.zero_le _
        · rw [if_neg e2] at h; cases h
      | some d =>
        rw [hn] at h
        obtain ⟨q, hq, rfl⟩ := Option.map_eq_some_iff.mp h
        have := ps_len r d q hq
        show q.length + 1 ≤ r + 1
        omega
theorem fin_eq {l : Launch} {G : rG} {R : Room} {μ : rMth} {Z : rZt} {k n pc : Nat} {l0 l1 l2 l3 l4 l5 l7 l8 : Option Value} {st : List Value} {h : rH} {a b : List Nat} (e : a = b) (q : rW l G R μ Z k n pc [l0, l1, l2, l3, l4, l5, some (.int (nI a.length)), l7, l8] st h) : rW l G R μ Z k n pc [l0, l1, l2, l3, l4, l5, some (.int (nI b.length)), l7, l8] st h := by
  subst e; exact q
section SIGHT2
variable {l : Launch} {G : rG} {h : rH} {C : CarT} {fr1 tk sv bc : Int32} {ga pl li al bo pa ch f s L : Nat → Int32}
set_option maxRecDepth 100000 in
set_option maxHeartbeats 400000 in
theorem k_X0_addSight (o : okC C) (hp : plAt G h fr1 tk sv ga pl li al bo pa ch) (hcc : ccAt G h (nI C.2.2.1) (nI (C.2.2.2.1 * C.2.2.1)) (bI C.2.2.2.2.1) bc f s L C.2.1) {k0 x0 : Nat} (hk0 : k0 < C.2.2.2.1 * C.2.2.1) (hx0 : x0 < C.2.2.2.1 * C.2.2.1) (hfc : f k0 = nI (C.2.2.2.2.2 k0)) {R : Nat → Nat} (hRp : ∀ j, j < (glC C k0 x0).length → pl ((glC C k0 x0).getD j 0) = nI (R j) ∧ R j < 52) (hR : ∀ i j, i < (glC C k0 x0).length → j < (glC C k0 x0).length → R i = R j → i = j) (v : Int32) : rM l G 4 mX0_addSight 0 0 [.ref (gN G + 17), .ref (gN G + 7), .int (nI k0), .int (nI x0), .int v] h (fun h' w => w = none ∧ (∃ al' bo' pa', plAt G h' fr1 tk sv ga pl li al' bo' pa' ch ∧ (∀ x, x < 52 → al' x = al x + if inA R (glC C k0 x0).length x then v else 0) ∧ ∀ x y, x < y → y < 52 → bo' (x * 52 + y) = bo (x * 52 + y) + if inA R (glC C k0 x0).length x && inA R (glC C k0 x0).length y then v else 0) ∧ fr h h' [21, 22, 23]) := by
  have hn32 := okC_n o
  have hw := o.2.2.1 k0
  have A : ∀ (hlen : (glC C k0 x0).length ≤ 32) (pa1 : Nat → Int32), (∀ j, j < (glC C k0 x0).length → pa1 j = nI (R j)) → ∀ (r a : Nat) (al1 bo1 : Nat → Int32) (h1 : rH) (y7 : Int32) (o8 : Option Value), a + r = (glC C k0 x0).length → y7 = nI a → plAt G h1 fr1 tk sv ga pl li al1 bo1 pa1 ch → (∀ x, x < 52 → al1 x = al x + if inA R a x then v else 0) → (∀ x y, x < y → y < 52 → bo1 (x * 52 + y) = bo (x * 52 + y) + if inA R a x && inA R a y then v else 0) → fr h h1 [21, 22, 23] → rW l G (rRm 4 0 0) mX0_addSight (rZ G (fun h' w => w = none ∧ (∃ al' bo' pa', plAt G h' fr1 tk sv ga pl li al' bo' pa' ch ∧ (∀ x, x < 52 → al' x = al x + if inA R (glC C k0 x0).length x then v else 0) ∧ ∀ x y, x < y → y < 52 → bo' (x * 52 + y) = bo (x * 52 + y) + if inA R (glC C k0 x0).length x && inA R (glC C k0 x0).length y then v else 0) ∧ fr h h' [21, 22, 23]) 0 0) 0 0 40 [some (.ref (gN G + 17)), some (.ref (gN G + 7)), some (.int (nI k0)), some (.int (nI x0)), some (.int v), some (.int (nI (C.2.2.2.2.2 k0))), some (.int (nI (glC C k0 x0).length)), some (.int y7), o8] [] h1 := by
    intro hlen pa1 hpa r
    induction r with
    | zero =>
      intro a al1 bo1 h1 y7 o8 ha h7 hp1 hal hbo hfr
      subst h7
      have e : a = (glC C k0 x0).length := by omega
      subst e
      refine a_iload 42 dX0_addSight_40 rfl rfl ?_
      refine a_iload 44 dX0_addSight_42 rfl rfl ?_
      refine a_icmp_ge 132 47 dX0_addSight_44 rfl (by decide) (fun c_44 => ?_) (fun c_44 => absurd (Int32.le_refl _) c_44)
      exact a_return dX0_addSight_132 rfl (Nat.le_of_ble_eq_true rfl) (Nat.le_of_ble_eq_true rfl) ⟨rfl, ⟨al1, bo1, pa1, hp1, hal, hbo⟩, hfr⟩
    | succ r ih =>
      intro a al1 bo1 h1 y7 o8 ha h7 hp1 hal hbo hfr
      subst h7
      have haL : a < (glC C k0 x0).length := by omega
      obtain ⟨p1, p2, p3, p4, p5, p6, p7, p8⟩ := id hp1
      have va : vp_in (nI a) 32 := vp_in_nI (by omega) (by decide)
      have ea : (nI a).toNatClampNeg = a := nI_clamp (by omega)
      have hRa := (hRp a haL).2
      have hpaa := hpa a haL
      have A2 : ∀ (r2 b : Nat) (al1 bo1 : Nat → Int32) (h1 : rH) (y8 : Int32), b + r2 = a → y8 = nI b → plAt G h1 fr1 tk sv ga pl li al1 bo1 pa1 ch → (∀ x, x < 52 → al1 x = al x + if inA R (a + 1) x then v else 0) → (∀ x y, x < y → y < 52 → bo1 (x * 52 + y) = bo (x * 52 + y) + if pairA R a b x y then v else 0) → fr h h1 [21, 22, 23] → rW l G (rRm 4 0 0) mX0_addSight (rZ G (fun h' w => w = none ∧ (∃ al' bo' pa', plAt G h' fr1 tk sv ga pl li al' bo' pa' ch ∧ (∀ x, x < 52 → al' x = al x + if inA R (glC C k0 x0).length x then v else 0) ∧ ∀ x y, x < y → y < 52 → bo' (x * 52 + y) = bo (x * 52 + y) + if inA R (glC C k0 x0).length x && inA R (glC C k0 x0).length y then v else 0) ∧ fr h h' [21, 22, 23]) 0 0) 0 0 73 [some (.ref (gN G + 17)), some (.ref (gN G + 7)), some (.int (nI k0)), some (.int (nI x0)), some (.int v), some (.int (nI (C.2.2.2.2.2 k0))), some (.int (nI (glC C k0 x0).length)), some (.int (nI a)), some (.int y8)] [] h1 := by
        intro r2
        induction r2 with
        | zero =>
          intro b al1 bo1 h1 y8 hb h8 hp1 hal hbo hfr
          subst h8
          have e : b = a := by omega
          subst e
          refine a_iload 75 dX0_addSight_73 rfl rfl ?_
          refine a_iload 77 dX0_addSight_75 rfl rfl ?_
          refine a_icmp_ge 126 80 dX0_addSight_77 rfl (by decide) (fun c_77 => ?_) (fun c_77 => absurd (Int32.le_refl _) c_77)
          refine a_iinc _ 129 dX0_addSight_126 rfl rfl (by decide) rfl ?_
          refine a_goto 40 dX0_addSight_129 (by decide) ?_
          exact ih (b + 1) al1 bo1 _ _ _ (by omega) (nI_1 b) hp1 hal (fun x y hx hy => by rw [hbo x y hx hy, pair_all (by omega)]) hfr
        | succ r2 ih2 =>
          intro b al1 bo1 h1 y8 hb h8 hp1 hal hbo hfr
          subst h8
          obtain ⟨p1, p2, p3, p4, p5, p6, p7, p8⟩ := id hp1
          have hbL : b < (glC C k0 x0).length := by omega
          have vb : vp_in (nI b) 32 := vp_in_nI (by omega) (by decide)
          have eb : (nI b).toNatClampNeg = b := nI_clamp (by omega)
          have hRb := (hRp b hbL).2
          have hpab := hpa b hbL
          have emn : (if nI (R b) < nI (R a) then nI (R b) else nI (R a)) = nI (min (R a) (R b)) := by
            by_cases q : R b < R a
            · rw [if_pos (nI_lt q (by omega)), Nat.min_eq_right (by omega)]
            · rw [if_neg (nI_nlt (by omega) (by omega)), Nat.min_eq_left (by omega)]
          have emx : (if nI (R a) < nI (R b) then nI (R b) else nI (R a)) = nI (max (R a) (R b)) := by
            by_cases q : R a < R b
            · rw [if_pos (nI_lt q (by omega)), Nat.max_eq_right (by omega)]
            · rw [if_neg (nI_nlt (by omega) (by omega)), Nat.max_eq_left (by omega)]
          refine a_iload 75 dX0_addSight_73 rfl rfl ?_
          refine a_iload 77 dX0_addSight_75 rfl rfl ?_
          refine a_icmp_ge 126 80 dX0_addSight_77 rfl (by decide) (fun c_77 => absurd c_77 (nI_ge (a := b) (b := a) (by omega) (by omega))) (fun c_77 => ?_)
          refine a_aload_n 81 dX0_addSight_80 rfl rfl ?_
          refine a_aload_n 82 dX0_addSight_81 rfl rfl ?_
          refine a_get fd_X0_27 rfl 85 dX0_addSight_82 rfl (by repeat (first | assumption | (refine rg_ne (by first | decide | omega) ?_) | apply rg_eq | refine rg_fr (by assumption) (by first | decide | (simp; omega)) ?_)) rfl ?_
          refine a_iload 87 dX0_addSight_85 rfl rfl ?_
          refine a_iaload 88 dX0_addSight_87 rfl (by repeat (first | assumption | (refine rg_ne (by first | decide | omega) ?_) | apply rg_eq | refine rg_fr (by assumption) (by first | decide | (simp; omega)) ?_)) va ?_
          rw [ea, hpaa]
          refine a_aload_n 89 dX0_addSight_88 rfl rfl ?_
          refine a_get fd_X0_27 rfl 92 dX0_addSight_89 rfl (by repeat (first | assumption | (refine rg_ne (by first | decide | omega) ?_) | apply rg_eq | refine rg_fr (by assumption) (by first | decide | (simp; omega)) ?_)) rfl ?_
          refine a_iload 94 dX0_addSight_92 rfl rfl ?_
          refine a_iaload 95 dX0_addSight_94 rfl (by repeat (first | assumption | (refine rg_ne (by first | decide | omega) ?_) | apply rg_eq | refine rg_fr (by assumption) (by first | decide | (simp; omega)) ?_)) vb ?_
          rw [eb, hpab]
          refine a_mmin lm_X0_72 rfl 98 dX0_addSight_95 rfl (Nat.le_of_ble_eq_true rfl) (Nat.le_of_ble_eq_true rfl) ⟨(Nat.le_of_ble_eq_true rfl), (Nat.le_of_ble_eq_true rfl)⟩ ?_
          rw [emn]
          refine a_aload_n 99 dX0_addSight_98 rfl rfl ?_
          refine a_get fd_X0_27 rfl 102 dX0_addSight_99 rfl (by repeat (first | assumption | (refine rg_ne (by first | decide | omega) ?_) | apply rg_eq | refine rg_fr (by assumption) (by first | decide | (simp; omega)) ?_)) rfl ?_
          refine a_iload 104 dX0_addSight_102 rfl rfl ?_
          refine a_iaload 105 dX0_addSight_104 rfl (by repeat (first | assumption | (refine rg_ne (by first | decide | omega) ?_) | apply rg_eq | refine rg_fr (by assumption) (by first | decide | (simp; omega)) ?_)) va ?_
          rw [ea, hpaa]
          refine a_aload_n 106 dX0_addSight_105 rfl rfl ?_
          refine a_get fd_X0_27 rfl 109 dX0_addSight_106 rfl (by repeat (first | assumption | (refine rg_ne (by first | decide | omega) ?_) | apply rg_eq | refine rg_fr (by assumption) (by first | decide | (simp; omega)) ?_)) rfl ?_
          refine a_iload 111 dX0_addSight_109 rfl rfl ?_
          refine a_iaload 112 dX0_addSight_111 rfl (by repeat (first | assumption | (refine rg_ne (by first | decide | omega) ?_) | apply rg_eq | refine rg_fr (by assumption) (by first | decide | (simp; omega)) ?_)) vb ?_
          rw [eb, hpab]
          refine a_mmax lm_X0_77 rfl 115 dX0_addSight_112 rfl (Nat.le_of_ble_eq_true rfl) (Nat.le_of_ble_eq_true rfl) ⟨(Nat.le_of_ble_eq_true rfl), (Nat.le_of_ble_eq_true rfl)⟩ ?_
          rw [emx]
          refine a_iload 117 dX0_addSight_115 rfl rfl ?_
          refine a_callV ok_X0_addBoth ln_X0_80 in_X0_addBoth rfl 120 dX0_addSight_117 rfl (k_X0_addBoth hp1 (by omega) (by omega) v) (by repeat (first | assumption | (refine rg_ne (by first | decide | omega) ?_) | apply rg_eq | refine rg_fr (by assumption) (by first | decide | (simp; omega)) ?_)) rfl rfl rfl ⟨(Nat.le_of_ble_eq_true rfl), (Nat.le_of_ble_eq_true rfl)⟩ (Nat.le_of_ble_eq_true rfl) ⟨(Nat.le_of_ble_eq_true rfl), (Nat.le_of_ble_eq_true rfl)⟩ ?_
          rintro h2 _ ⟨rfl, hp2, hf2⟩
          refine a_iinc _ 123 dX0_addSight_120 rfl rfl (by decide) rfl ?_
          refine a_goto 73 dX0_addSight_123 (by decide) ?_
          exact ih2 (b + 1) al1 _ _ _ (by omega) (nI_1 b) hp2 hal (bo_step hR (fun i hi => (hRp i hi).2) haL (by omega) hbo) (fr_trans hfr hf2 (by decide))
      refine a_iload 42 dX0_addSight_40 rfl rfl ?_
      refine a_iload 44 dX0_addSight_42 rfl rfl ?_
      refine a_icmp_ge 132 47 dX0_addSight_44 rfl (by decide) (fun c_44 => absurd c_44 (nI_ge (a := a) (b := (glC C k0 x0).length) haL (by omega))) (fun c_44 => ?_)
      refine a_iload 49 dX0_addSight_47 rfl rfl ?_
      refine a_aload_n 50 dX0_addSight_49 rfl rfl ?_
      refine a_get fd_X0_27 rfl 53 dX0_addSight_50 rfl (by repeat (first | assumption | (refine rg_ne (by first | decide | omega) ?_) | apply rg_eq | refine rg_fr (by assumption) (by first | decide | (simp; omega)) ?_)) rfl ?_
      refine a_alen_0 54 dX0_addSight_53 rfl (by repeat (first | assumption | (refine rg_ne (by first | decide | omega) ?_) | apply rg_eq | refine rg_fr (by assumption) (by first | decide | (simp; omega)) ?_)) ?_
      refine a_icmp_ge 132 57 dX0_addSight_54 rfl (by decide) (fun c_54 => absurd c_54 (nI_ge (a := a) (b := 32) (by omega) (by decide))) (fun c_54 => ?_)
      refine a_aload_n 58 dX0_addSight_57 rfl rfl ?_
      refine a_aload_n 59 dX0_addSight_58 rfl rfl ?_
      refine a_get fd_X0_27 rfl 62 dX0_addSight_59 rfl (by repeat (first | assumption | (refine rg_ne (by first | decide | omega) ?_) | apply rg_eq | refine rg_fr (by assumption) (by first | decide | (simp; omega)) ?_)) rfl ?_
      refine a_iload 64 dX0_addSight_62 rfl rfl ?_
      refine a_iaload 65 dX0_addSight_64 rfl (by repeat (first | assumption | (refine rg_ne (by first | decide | omega) ?_) | apply rg_eq | refine rg_fr (by assumption) (by first | decide | (simp; omega)) ?_)) va ?_
      rw [ea, hpaa]
      refine a_iload 67 dX0_addSight_65 rfl rfl ?_
      refine a_callV ok_X0_addAlone ln_X0_68 in_X0_addAlone rfl 70 dX0_addSight_67 rfl (k_X0_addAlone hp1 hRa v) (by repeat (first | assumption | (refine rg_ne (by first | decide | omega) ?_) | apply rg_eq | refine rg_fr (by assumption) (by first | decide | (simp; omega)) ?_)) rfl rfl rfl ⟨(Nat.le_of_ble_eq_true rfl), (Nat.le_of_ble_eq_true rfl)⟩ (Nat.le_of_ble_eq_true rfl) ⟨(Nat.le_of_ble_eq_true rfl), (Nat.le_of_ble_eq_true rfl)⟩ ?_
      rintro h2 _ ⟨rfl, hp2, hf2⟩
      refine a_iconst (0) 71 dX0_addSight_70 rfl (by decide) ?_
      refine a_istore 73 dX0_addSight_71 rfl (by decide) ?_
      exact A2 a 0 _ bo1 _ _ (by omega) rfl hp2 (al_step hR haL hal) (fun x y hx hy => by rw [hbo x y hx hy]; congr 1; show _ = (if (_ || ((_ && false) || (_ && false))) = true then v else 0); rw [Bool.and_false, Bool.and_false, Bool.or_false, Bool.or_false]) (fr_trans hfr hf2 (by decide))
  have g17 := hp.1
  have g7 := hcc.1
  have ef : (if 0 ≤ nI k0 ∧ nI k0 < 32 then f (nI k0).toNatClampNeg else 0) = nI (C.2.2.2.2.2 k0) := by rw [if_pos ⟨nI_pos' (by omega), nI_lt (b := 32) (by omega) (by decide)⟩, nI_clamp (by omega), hfc]
  have h1w : ∀ y, some x0 = some y → y < 32 := fun y hy => by cases hy; omega
  have h2w : ∀ y, (none : Option Nat) = some y → y < 32 := fun y hy => by cases hy
  cases hps : psN C (C.2.2.2.2.2 k0) (some x0) 32 k0 with
  | some m =>
    have egl : glC C k0 x0 = m := by unfold glC; rw [hps]
    have hml := ps_len 32 k0 m hps
    refine rM_start (by decide) (Nat.le_of_ble_eq_true rfl) ?_
    refine a_aload_n 1 dX0_addSight_0 rfl rfl ?_
    refine a_iload_n 2 dX0_addSight_1 rfl rfl ?_
    refine a_callV ok_X1_faceOf ln_X0_60 in_X1_faceOf rfl 5 dX0_addSight_2 rfl (k_X1_faceOf g7 hcc.2.1 (nI k0)) (by repeat (first | assumption | (refine rg_ne (by first | decide | omega) ?_) | apply rg_eq | refine rg_fr (by assumption) (by first | decide | (simp; omega)) ?_)) rfl rfl rfl ⟨(Nat.le_of_ble_eq_true rfl), (Nat.le_of_ble_eq_true rfl)⟩ (Nat.le_of_ble_eq_true rfl) ⟨(Nat.le_of_ble_eq_true rfl), (Nat.le_of_ble_eq_true rfl)⟩ ?_
    rintro _ _ ⟨rfl, rfl⟩
    rw [ef]
    refine a_istore 7 dX0_addSight_5 rfl (by decide) ?_
    refine a_aload_n 8 dX0_addSight_7 rfl rfl ?_
    refine a_aload_n 9 dX0_addSight_8 rfl rfl ?_
    refine a_iload_n 10 dX0_addSight_9 rfl rfl ?_
    refine a_iload_n 11 dX0_addSight_10 rfl rfl ?_
    refine a_iload 13 dX0_addSight_11 rfl rfl ?_
    refine a_callV ok_X0_passGaps ln_X0_64 in_X0_passGaps rfl 16 dX0_addSight_13 rfl (k_X0_passGaps o hp hcc hk0 hw h1w) (by repeat (first | assumption | (refine rg_ne (by first | decide | omega) ?_) | apply rg_eq | refine rg_fr (by assumption) (by first | decide | (simp; omega)) ?_)) rfl rfl rfl ⟨(Nat.le_of_ble_eq_true rfl), (Nat.le_of_ble_eq_true rfl)⟩ (Nat.le_of_ble_eq_true rfl) ⟨(Nat.le_of_ble_eq_true rfl), (Nat.le_of_ble_eq_true rfl)⟩ ?_
    rintro h2 _ ⟨rfl, ⟨pa2, hp2, hpa2⟩, hf2⟩
    rw [hps]
    rw [hps] at hpa2
    refine a_istore 18 dX0_addSight_16 rfl (by decide) ?_
    refine a_iload 20 dX0_addSight_18 rfl rfl ?_
    refine a_bipush (-9) 22 dX0_addSight_20 rfl (by decide) ?_
    refine a_icmp_ne 37 25 dX0_addSight_22 rfl (by decide) (fun c_22 => ?_) (fun c_22 => absurd c_22 (nI_ne9 (show m.length < 2 ^ 31 by omega)))
    refine a_iconst (0) 38 dX0_addSight_37 rfl (by decide) ?_
    refine a_istore 40 dX0_addSight_38 rfl (by decide) ?_
    exact fin_eq egl (A (by rw [egl]; exact hml) pa2 (fun j hj => by rw [hpa2 m rfl j (by rw [← egl]; exact hj), ← egl]; exact (hRp j hj).1) (glC C k0 x0).length 0 al bo _ _ _ (by omega) rfl hp2 (fun x hx => (Int32.add_zero _).symm) (fun x y hx hy => (Int32.add_zero _).symm) (fr_mono hf2 (by decide)))
  | none =>
    cases hps2 : psN C (C.2.2.2.2.2 k0) none 32 x0 with
    | some m =>
      have egl : glC C k0 x0 = m := by unfold glC; rw [hps, hps2]; rfl
      have hml := ps_len 32 x0 m hps2
      refine rM_start (by decide) (Nat.le_of_ble_eq_true rfl) ?_
      refine a_aload_n 1 dX0_addSight_0 rfl rfl ?_
      refine a_iload_n 2 dX0_addSight_1 rfl rfl ?_
      refine a_callV ok_X1_faceOf ln_X0_60 in_X1_faceOf rfl 5 dX0_addSight_2 rfl (k_X1_faceOf g7 hcc.2.1 (nI k0)) (by repeat (first | assumption | (refine rg_ne (by first | decide | omega) ?_) | apply rg_eq | refine rg_fr (by assumption) (by first | decide | (simp; omega)) ?_)) rfl rfl rfl ⟨(Nat.le_of_ble_eq_true rfl), (Nat.le_of_ble_eq_true rfl)⟩ (Nat.le_of_ble_eq_true rfl) ⟨(Nat.le_of_ble_eq_true rfl), (Nat.le_of_ble_eq_true rfl)⟩ ?_
      rintro _ _ ⟨rfl, rfl⟩
      rw [ef]
      refine a_istore 7 dX0_addSight_5 rfl (by decide) ?_
      refine a_aload_n 8 dX0_addSight_7 rfl rfl ?_
      refine a_aload_n 9 dX0_addSight_8 rfl rfl ?_
      refine a_iload_n 10 dX0_addSight_9 rfl rfl ?_
      refine a_iload_n 11 dX0_addSight_10 rfl rfl ?_
      refine a_iload 13 dX0_addSight_11 rfl rfl ?_
      refine a_callV ok_X0_passGaps ln_X0_64 in_X0_passGaps rfl 16 dX0_addSight_13 rfl (k_X0_passGaps o hp hcc hk0 hw h1w) (by repeat (first | assumption | (refine rg_ne (by first | decide | omega) ?_) | apply rg_eq | refine rg_fr (by assumption) (by first | decide | (simp; omega)) ?_)) rfl rfl rfl ⟨(Nat.le_of_ble_eq_true rfl), (Nat.le_of_ble_eq_true rfl)⟩ (Nat.le_of_ble_eq_true rfl) ⟨(Nat.le_of_ble_eq_true rfl), (Nat.le_of_ble_eq_true rfl)⟩ ?_
      rintro h2 _ ⟨rfl, ⟨pa2, hp2, hpa2⟩, hf2⟩
      rw [hps]
      have g172 := hp2.1
      have cc2 : ccAt G h2 (nI C.2.2.1) (nI (C.2.2.2.1 * C.2.2.1)) (bI C.2.2.2.2.1) bc f s L C.2.1 := ⟨rg_fr hf2 (by decide) hcc.1, rg_fr hf2 (by decide) hcc.2.1, rg_fr hf2 (by decide) hcc.2.2.1, rg_fr hf2 (by decide) hcc.2.2.2.1, rg_fr hf2 (by decide) hcc.2.2.2.2⟩
      refine a_istore 18 dX0_addSight_16 rfl (by decide) ?_
      refine a_iload 20 dX0_addSight_18 rfl rfl ?_
      refine a_bipush (-9) 22 dX0_addSight_20 rfl (by decide) ?_
      refine a_icmp_ne 37 25 dX0_addSight_22 rfl (by decide) (fun c_22 => absurd rfl c_22) (fun c_22 => ?_)
      refine a_aload_n 26 dX0_addSight_25 rfl rfl ?_
      refine a_aload_n 27 dX0_addSight_26 rfl rfl ?_
      refine a_iload_n 28 dX0_addSight_27 rfl rfl ?_
      refine a_bipush (-9) 30 dX0_addSight_28 rfl (by decide) ?_
      refine a_iload 32 dX0_addSight_30 rfl rfl ?_
      refine a_callV ok_X0_passGaps ln_X0_64 in_X0_passGaps rfl 35 dX0_addSight_32 rfl (k_X0_passGaps (to := none) o hp2 cc2 hx0 hw h2w) (by repeat (first | assumption | (refine rg_ne (by first | decide | omega) ?_) | apply rg_eq | refine rg_fr (by assumption) (by first | decide | (simp; omega)) ?_)) rfl rfl rfl ⟨(Nat.le_of_ble_eq_true rfl), (Nat.le_of_ble_eq_true rfl)⟩ (Nat.le_of_ble_eq_true rfl) ⟨(Nat.le_of_ble_eq_true rfl), (Nat.le_of_ble_eq_true rfl)⟩ ?_
      rintro h3 _ ⟨rfl, ⟨pa3, hp3, hpa3⟩, hf3⟩
      rw [hps2]
      rw [hps2] at hpa3
      refine a_istore 37 dX0_addSight_35 rfl (by decide) ?_
      refine a_iconst (0) 38 dX0_addSight_37 rfl (by decide) ?_
      refine a_istore 40 dX0_addSight_38 rfl (by decide) ?_
      exact fin_eq egl (A (by rw [egl]; exact hml) pa3 (fun j hj => by rw [hpa3 m rfl j (by rw [← egl]; exact hj), ← egl]; exact (hRp j hj).1) (glC C k0 x0).length 0 al bo _ _ _ (by omega) rfl hp3 (fun x hx => (Int32.add_zero _).symm) (fun x y hx hy => (Int32.add_zero _).symm) (fr_mono (fr_trans hf2 hf3 (by decide)) (by decide)))
    | none =>
      have egl : glC C k0 x0 = [] := by unfold glC; rw [hps, hps2]; rfl
      have egl0 : (glC C k0 x0).length = 0 := by rw [egl]; rfl
      refine rM_start (by decide) (Nat.le_of_ble_eq_true rfl) ?_
      refine a_aload_n 1 dX0_addSight_0 rfl rfl ?_
      refine a_iload_n 2 dX0_addSight_1 rfl rfl ?_
      refine a_callV ok_X1_faceOf ln_X0_60 in_X1_faceOf rfl 5 dX0_addSight_2 rfl (k_X1_faceOf g7 hcc.2.1 (nI k0)) (by repeat (first | assumption | (refine rg_ne (by first | decide | omega) ?_) | apply rg_eq | refine rg_fr (by assumption) (by first | decide | (simp; omega)) ?_)) rfl rfl rfl ⟨(Nat.le_of_ble_eq_true rfl), (Nat.le_of_ble_eq_true rfl)⟩ (Nat.le_of_ble_eq_true rfl) ⟨(Nat.le_of_ble_eq_true rfl), (Nat.le_of_ble_eq_true rfl)⟩ ?_
      rintro _ _ ⟨rfl, rfl⟩
      rw [ef]
      refine a_istore 7 dX0_addSight_5 rfl (by decide) ?_
      refine a_aload_n 8 dX0_addSight_7 rfl rfl ?_
      refine a_aload_n 9 dX0_addSight_8 rfl rfl ?_
      refine a_iload_n 10 dX0_addSight_9 rfl rfl ?_
      refine a_iload_n 11 dX0_addSight_10 rfl rfl ?_
      refine a_iload 13 dX0_addSight_11 rfl rfl ?_
      refine a_callV ok_X0_passGaps ln_X0_64 in_X0_passGaps rfl 16 dX0_addSight_13 rfl (k_X0_passGaps o hp hcc hk0 hw h1w) (by repeat (first | assumption | (refine rg_ne (by first | decide | omega) ?_) | apply rg_eq | refine rg_fr (by assumption) (by first | decide | (simp; omega)) ?_)) rfl rfl rfl ⟨(Nat.le_of_ble_eq_true rfl), (Nat.le_of_ble_eq_true rfl)⟩ (Nat.le_of_ble_eq_true rfl) ⟨(Nat.le_of_ble_eq_true rfl), (Nat.le_of_ble_eq_true rfl)⟩ ?_
      rintro h2 _ ⟨rfl, ⟨pa2, hp2, hpa2⟩, hf2⟩
      rw [hps]
      have g172 := hp2.1
      have cc2 : ccAt G h2 (nI C.2.2.1) (nI (C.2.2.2.1 * C.2.2.1)) (bI C.2.2.2.2.1) bc f s L C.2.1 := ⟨rg_fr hf2 (by decide) hcc.1, rg_fr hf2 (by decide) hcc.2.1, rg_fr hf2 (by decide) hcc.2.2.1, rg_fr hf2 (by decide) hcc.2.2.2.1, rg_fr hf2 (by decide) hcc.2.2.2.2⟩
      refine a_istore 18 dX0_addSight_16 rfl (by decide) ?_
      refine a_iload 20 dX0_addSight_18 rfl rfl ?_
      refine a_bipush (-9) 22 dX0_addSight_20 rfl (by decide) ?_
      refine a_icmp_ne 37 25 dX0_addSight_22 rfl (by decide) (fun c_22 => absurd rfl c_22) (fun c_22 => ?_)
      refine a_aload_n 26 dX0_addSight_25 rfl rfl ?_
      refine a_aload_n 27 dX0_addSight_26 rfl rfl ?_
      refine a_iload_n 28 dX0_addSight_27 rfl rfl ?_
      refine a_bipush (-9) 30 dX0_addSight_28 rfl (by decide) ?_
      refine a_iload 32 dX0_addSight_30 rfl rfl ?_
      refine a_callV ok_X0_passGaps ln_X0_64 in_X0_passGaps rfl 35 dX0_addSight_32 rfl (k_X0_passGaps (to := none) o hp2 cc2 hx0 hw h2w) (by repeat (first | assumption | (refine rg_ne (by first | decide | omega) ?_) | apply rg_eq | refine rg_fr (by assumption) (by first | decide | (simp; omega)) ?_)) rfl rfl rfl ⟨(Nat.le_of_ble_eq_true rfl), (Nat.le_of_ble_eq_true rfl)⟩ (Nat.le_of_ble_eq_true rfl) ⟨(Nat.le_of_ble_eq_true rfl), (Nat.le_of_ble_eq_true rfl)⟩ ?_
      rintro h3 _ ⟨rfl, ⟨pa3, hp3, hpa3⟩, hf3⟩
      rw [hps2]
      refine a_istore 37 dX0_addSight_35 rfl (by decide) ?_
      refine a_iconst (0) 38 dX0_addSight_37 rfl (by decide) ?_
      refine a_istore 40 dX0_addSight_38 rfl (by decide) ?_
      refine a_iload 42 dX0_addSight_40 rfl rfl ?_
      refine a_iload 44 dX0_addSight_42 rfl rfl ?_
      refine a_icmp_ge 132 47 dX0_addSight_44 rfl (by decide) (fun c_44 => ?_) (fun c_44 => absurd (by decide) c_44)
      exact a_return dX0_addSight_132 rfl (Nat.le_of_ble_eq_true rfl) (Nat.le_of_ble_eq_true rfl) ⟨rfl, ⟨al, bo, pa3, hp3, fun x hx => by rw [egl0]; exact (Int32.add_zero _).symm, fun x y hx hy => by rw [egl0]; exact (Int32.add_zero _).symm⟩, fr_mono (fr_trans hf2 hf3 (by decide)) (by decide)⟩
end SIGHT2
