/-! THE CLASS: the plan filled with all sights -/
def sumI (f : Nat → Int32) : Nat → Int32
  | 0 => 0
  | n + 1 => sumI f n + f n
abbrev unT (T : Tn) (z x y : Nat) : Nat := caughtN T.nb T.kd T.se T.ki T.nu z x y false
abbrev wdT (T : Tn) (z x y : Nat) : Int32 := nI (mz T z x y) - nI (unT T z x y)
abbrev glT (T : Tn) (x y : Nat) : List Nat := glC T.1 (T.se x) (T.se y)
abbrev cAT (T : Tn) (z g x y : Nat) : Int32 := if T.sees x y ∧ g ∈ glT T x y then wdT T z x y else 0
abbrev cBT (T : Tn) (z g g2 x y : Nat) : Int32 := if T.sees x y ∧ g ∈ glT T x y ∧ g2 ∈ glT T x y then wdT T z x y else 0
abbrev alT (T : Tn) (z g : Nat) : Int32 := sumI (fun x => sumI (cAT T z g x) T.m) T.m
abbrev boT (T : Tn) (z g g2 : Nat) : Int32 := sumI (fun x => sumI (cBT T z g g2 x) T.m) T.m
/-- the gaps of a sight have no blind, and are told once each -/
def glOk (T : Tn) : Prop := ∀ x y, x < T.m → y < T.m → T.sees x y → (∀ g, g ∈ glT T x y → g < 64 ∧ frP T.1 g = true) ∧ (glT T x y).Nodup
theorem inA_iff {R : Nat → Nat} {x : Nat} : ∀ {n : Nat}, inA R n x = true ↔ ∃ i, i < n ∧ R i = x
  | 0 => by
    constructor
    · intro h; cases h
    · rintro ⟨i, h, -⟩; omega
  | n + 1 => by
    rw [inA, Bool.or_eq_true, inA_iff (n := n), decide_eq_true_eq]
    constructor
    · rintro (⟨i, h1, h2⟩ | h)
      · exact ⟨i, by omega, h2⟩
      · exact ⟨n, by omega, h⟩
    · rintro ⟨i, h1, h2⟩
      by_cases e : i = n
      · subst e; exact Or.inr h2
      · exact Or.inl ⟨i, by omega, h2⟩
theorem rk_inj {C : CarT} {g g2 : Nat} (h1 : frP C g = true) (h2 : frP C g2 = true) (e : rkP C g = rkP C g2) : g = g2 := by
  rcases Nat.lt_trichotomy g g2 with q | q | q
  · have : rkP C g < rkP C g2 := cntB_lt q h1
    omega
  · exact q
  · have : rkP C g2 < rkP C g := cntB_lt q h2
    omega
theorem nodup_inj {l : List Nat} (hn : l.Nodup) {i j : Nat} (hi : i < l.length) (hj : j < l.length) (e : l[i] = l[j]) : i = j := by
  have hp := List.pairwise_iff_getElem.mp hn
  rcases Nat.lt_trichotomy i j with q | q | q
  · exact absurd e (hp i j hi hj q)
  · exact q
  · exact absurd e.symm (hp j i hj hi q)
theorem getD_mem {l : List Nat} {i : Nat} (h : i < l.length) : l.getD i 0 ∈ l := by
  rw [List.getD_eq_getElem?_getD, List.getElem?_eq_getElem h]
  exact List.getElem_mem h
/-- in places: a gap is among those of a list -/
theorem inA_gl {C : CarT} {l : List Nat} (hl : ∀ g, g ∈ l → g < 64 ∧ frP C g = true) {g : Nat} (hg : frP C g = true) : inA (fun j => rkP C (l.getD j 0)) l.length (rkP C g) = decide (g ∈ l) := by
  by_cases e : g ∈ l
  · rw [decide_eq_true e, inA_iff]
    obtain ⟨i, hi, rfl⟩ := List.mem_iff_getElem.mp e
    exact ⟨i, hi, by rw [List.getD_eq_getElem?_getD, List.getElem?_eq_getElem hi]; rfl⟩
  · rw [decide_eq_false e, Bool.eq_false_iff]
    intro h
    obtain ⟨i, hi, h2⟩ := inA_iff.mp h
    have hm := getD_mem hi
    exact e (rk_inj (hl _ hm).2 hg h2 ▸ hm)
theorem gl_R {C : CarT} {l : List Nat} (o : okC C) (hl : ∀ g, g ∈ l → g < 64 ∧ frP C g = true) (hn : l.Nodup) {ga pl li : Nat → Int32} (hI : plI C 64 ga pl li) : (∀ j, j < l.length → pl (l.getD j 0) = nI (rkP C (l.getD j 0)) ∧ rkP C (l.getD j 0) < 52) ∧ ∀ i j, i < l.length → j < l.length → rkP C (l.getD i 0) = rkP C (l.getD j 0) → i = j := by
  refine ⟨fun j hj => ?_, fun i j hi hj e => ?_⟩
  · have h1 := hl _ (getD_mem hj)
    exact ⟨(hI _ h1.1 h1.2).2.1, rk_lt o h1.1 h1.2⟩
  · have e2 := rk_inj (hl _ (getD_mem hi)).2 (hl _ (getD_mem hj)).2 e
    rw [List.getD_eq_getElem?_getD, List.getD_eq_getElem?_getD, List.getElem?_eq_getElem hi, List.getElem?_eq_getElem hj] at e2
    exact nodup_inj hn hi hj e2
section FILL
variable {l : Launch} {G : rG} {h : rH} {T : Tn} {z : Nat} {fr1 tk sv : Int32} {ga pl li al bo pa ch : Nat → Int32}
abbrev alI (T : Tn) (z x y : Nat) (al : Nat → Int32) : Prop := ∀ g, g < 64 → frP T.1 g = true → al (rkP T.1 g) = sumI (fun x => sumI (cAT T z g x) T.m) x + sumI (cAT T z g x) y
abbrev boI (T : Tn) (z x y : Nat) (bo : Nat → Int32) : Prop := ∀ g g2, g < g2 → g2 < 64 → frP T.1 g = true → frP T.1 g2 = true → bo (rkP T.1 g * 52 + rkP T.1 g2) = sumI (fun x => sumI (cBT T z g g2 x) T.m) x + sumI (cBT T z g g2 x) y
theorem its_lt {T : Tn} (o : T.ok) {z : Nat} (hz : z < T.nl) {b c : Bool} : itsN T.nu z b c < 10 := by
  have h1 := o.nu10 hz (w := 1) (by decide)
  have h2 := o.nu10 hz (w := 2) (by decide)
  unfold itsN
  (repeat' split) <;> omega
theorem fill_a {T : Tn} {z x y : Nat} {al1 al2 : Nat → Int32} (o : okC T.1) (hS : T.sees x y) (hg : ∀ g, g ∈ glT T x y → g < 64 ∧ frP T.1 g = true) (h : alI T z x y al1) (h2 : ∀ k, k < 52 → al2 k = al1 k + if inA (fun j => rkP T.1 ((glT T x y).getD j 0)) (glT T x y).length k then wdT T z x y else 0) : alI T z x (y + 1) al2 := by
  intro g hg1 hg2
  rw [h2 _ (rk_lt o hg1 hg2), h g hg1 hg2, inA_gl hg hg2, sumI, Int32.add_assoc]
  congr 2
  by_cases e : g ∈ glT T x y
  · rw [if_pos (decide_eq_true e), show cAT T z g x y = wdT T z x y from if_pos ⟨hS, e⟩]
  · rw [if_neg (by rw [decide_eq_false e]; decide), show cAT T z g x y = 0 from if_neg (fun v => e v.2)]
theorem fill_b {T : Tn} {z x y : Nat} {bo1 bo2 : Nat → Int32} (o : okC T.1) (hS : T.sees x y) (hg : ∀ g, g ∈ glT T x y → g < 64 ∧ frP T.1 g = true) (h : boI T z x y bo1) (h2 : ∀ a b, a < b → b < 52 → bo2 (a * 52 + b) = bo1 (a * 52 + b) + if inA (fun j => rkP T.1 ((glT T x y).getD j 0)) (glT T x y).length a && inA (fun j => rkP T.1 ((glT T x y).getD j 0)) (glT T x y).length b then wdT T z x y else 0) : boI T z x (y + 1) bo2 := by
  intro g g2 hlt h64 hp1 hp2
  rw [h2 _ _ (cntB_lt hlt hp1) (rk_lt o h64 hp2), h g g2 hlt h64 hp1 hp2, inA_gl hg hp1, inA_gl hg hp2, sumI, Int32.add_assoc]
  congr 2
  by_cases e : g ∈ glT T x y ∧ g2 ∈ glT T x y
  · rw [if_pos (by rw [decide_eq_true e.1, decide_eq_true e.2]; rfl), show cBT T z g g2 x y = wdT T z x y from if_pos ⟨hS, e⟩]
  · rw [if_neg (by rw [Bool.and_eq_true, decide_eq_true_eq, decide_eq_true_eq]; exact e), show cBT T z g g2 x y = 0 from if_neg (fun v => e v.2)]
set_option maxRecDepth 100000 in
set_option maxHeartbeats 400000 in
theorem k_X11_fillPlan (w : wgAt G h T z) (o : T.ok) (hgl : glOk T) (hp : plAt G h fr1 tk sv ga pl li al bo pa ch) (hI : plI T.1 64 ga pl li) (ha0 : ∀ k, k < 52 → al k = 0) (hb0 : ∀ k, k < 2704 → bo k = 0) : rM l G 5 mX11_fillPlan 0 0 [.ref (gN G + 0), .ref (gN G + T.la z)] h (fun h' v => v = none ∧ (∃ al' bo' pa', plAt G h' fr1 tk sv ga pl li al' bo' pa' ch ∧ alI T z T.m 0 al' ∧ boI T z T.m 0 bo') ∧ fr h h' [21, 22, 23]) := by
  have hm := o.m12
  have hz := w.2.1
  have A : ∀ (r x : Nat) (al1 bo1 pa1 : Nat → Int32) (h1 : rH) (y2 : Int32) (o3 o4 o5 o6 : Option Value), x + r = T.m → y2 = nI x → plAt G h1 fr1 tk sv ga pl li al1 bo1 pa1 ch → alI T z x 0 al1 → boI T z x 0 bo1 → fr h h1 [21, 22, 23] → rW l G (rRm 5 0 0) mX11_fillPlan (rZ G (fun h' v => v = none ∧ (∃ al' bo' pa', plAt G h' fr1 tk sv ga pl li al' bo' pa' ch ∧ alI T z T.m 0 al' ∧ boI T z T.m 0 bo') ∧ fr h h' [21, 22, 23]) 0 0) 0 0 2 [some (.ref (gN G + 0)), some (.ref (gN G + T.la z)), some (.int y2), o3, o4, o5, o6] [] h1 := by
    intro r
    induction r with
    | zero =>
      intro x al1 bo1 pa1 h1 y2 o3 o4 o5 o6 hx h2 hp1 hal hbo hfr
      subst h2
      have e : x = T.m := by omega
      subst e
      have hy1 := (w.kp (kp_fr hfr) (by decide) (by decide) (by decide)).1.1
      refine a_iload_n 3 dX11_fillPlan_2 rfl rfl ?_
      refine a_aload_n 4 dX11_fillPlan_3 rfl rfl ?_
      refine a_get fd_X11_98 rfl 7 dX11_fillPlan_4 rfl (by repeat (first | assumption | (refine rg_ne (by first | decide | omega) ?_) | apply rg_eq | refine rg_fr (by assumption) (by first | decide | (simp; omega)) ?_)) rfl ?_
      refine a_icmp_ge 116 10 dX11_fillPlan_7 rfl (by decide) (fun c_7 => ?_) (fun c_7 => absurd (Int32.le_refl _) c_7)
      exact a_return dX11_fillPlan_116 rfl (Nat.le_of_ble_eq_true rfl) (Nat.le_of_ble_eq_true rfl) ⟨rfl, ⟨al1, bo1, pa1, hp1, hal, hbo⟩, hfr⟩
    | succ r ih =>
      intro x al1 bo1 pa1 h1 y2 o3 o4 o5 o6 hx h2 hp1 hal hbo hfr
      subst h2
      have hxm : x < T.m := by omega
      have hy1 := (w.kp (kp_fr hfr) (by decide) (by decide) (by decide)).1.1
      have A2 : ∀ (r2 y : Nat) (al1 bo1 pa1 : Nat → Int32) (h1 : rH) (y3 : Int32) (o4 o5 o6 : Option Value), y + r2 = T.m → y3 = nI y → plAt G h1 fr1 tk sv ga pl li al1 bo1 pa1 ch → alI T z x y al1 → boI T z x y bo1 → fr h h1 [21, 22, 23] → rW l G (rRm 5 0 0) mX11_fillPlan (rZ G (fun h' v => v = none ∧ (∃ al' bo' pa', plAt G h' fr1 tk sv ga pl li al' bo' pa' ch ∧ alI T z T.m 0 al' ∧ boI T z T.m 0 bo') ∧ fr h h' [21, 22, 23]) 0 0) 0 0 12 [some (.ref (gN G + 0)), some (.ref (gN G + T.la z)), some (.int (nI x)), some (.int y3), o4, o5, o6] [] h1 := by
        intro r2
        induction r2 with
        | zero =>
          intro y al1 bo1 pa1 h1 y3 o4 o5 o6 hy h3 hp1 hal hbo hfr
          subst h3
          have e : y = T.m := by omega
          subst e
          have hy1 := (w.kp (kp_fr hfr) (by decide) (by decide) (by decide)).1.1
          refine a_iload_n 13 dX11_fillPlan_12 rfl rfl ?_
          refine a_aload_n 14 dX11_fillPlan_13 rfl rfl ?_
          refine a_get fd_X11_98 rfl 17 dX11_fillPlan_14 rfl (by repeat (first | assumption | (refine rg_ne (by first | decide | omega) ?_) | apply rg_eq | refine rg_fr (by assumption) (by first | decide | (simp; omega)) ?_)) rfl ?_
          refine a_icmp_ge 110 20 dX11_fillPlan_17 rfl (by decide) (fun c_17 => ?_) (fun c_17 => absurd (Int32.le_refl _) c_17)
          refine a_iinc _ 113 dX11_fillPlan_110 rfl rfl (by decide) rfl ?_
          refine a_goto 2 dX11_fillPlan_113 (by decide) ?_
          exact ih (x + 1) al1 bo1 pa1 _ _ _ _ _ _ (by omega) (nI_1 x) hp1 (fun g h1 h2 => by rw [hal g h1 h2]; exact (Int32.add_zero _).symm) (fun g g2 h1 h2 h3 h4 => by rw [hbo g g2 h1 h2 h3 h4]; exact (Int32.add_zero _).symm) hfr
        | succ r2 ih2 =>
          intro y al1 bo1 pa1 h1 y3 o4 o5 o6 hy h3 hp1 hal hbo hfr
          subst h3
          have hym : y < T.m := by omega
          have w1 := w.kp (kp_fr hfr) (by decide) (by decide) (by decide)
          have hy1 := w1.1.1
          have g17 := hp1.1
          by_cases hS : T.sees x y
          · have hg := hgl x y hxm hym hS
            have hR := gl_R o.1 hg.1 hg.2 hI
            obtain ⟨fc, s, L, c7, c8, c9, c10, c11, hfc, -, -⟩ := c_car w1.1
            have hpx := c_at w1.1 hxm
            have hpy := c_at w1.1 hym
            refine a_iload_n 13 dX11_fillPlan_12 rfl rfl ?_
            refine a_aload_n 14 dX11_fillPlan_13 rfl rfl ?_
            refine a_get fd_X11_98 rfl 17 dX11_fillPlan_14 rfl (by repeat (first | assumption | (refine rg_ne (by first | decide | omega) ?_) | apply rg_eq | refine rg_fr (by assumption) (by first | decide | (simp; omega)) ?_)) rfl ?_
            refine a_icmp_ge 110 20 dX11_fillPlan_17 rfl (by decide) (fun c_17 => absurd c_17 (nI_ge (a := y) (b := T.m) (by omega) (by omega))) (fun c_17 => ?_)
            refine a_aload_n 21 dX11_fillPlan_20 rfl rfl ?_
            refine a_iload_n 22 dX11_fillPlan_21 rfl rfl ?_
            refine a_callV ok_X11_personAt ln_X11_152 in_X11_personAt rfl 25 dX11_fillPlan_22 rfl (c_person w1.1 o hxm) (by repeat (first | assumption | (refine rg_ne (by first | decide | omega) ?_) | apply rg_eq | refine rg_fr (by assumption) (by first | decide | (simp; omega)) ?_)) rfl rfl rfl ⟨(Nat.le_of_ble_eq_true rfl), (Nat.le_of_ble_eq_true rfl)⟩ (Nat.le_of_ble_eq_true rfl) ⟨(Nat.le_of_ble_eq_true rfl), (Nat.le_of_ble_eq_true rfl)⟩ ?_
            rintro _ _ ⟨rfl, rfl⟩
            refine a_astore 27 dX11_fillPlan_25 rfl (by decide) ?_
            refine a_aload_n 28 dX11_fillPlan_27 rfl rfl ?_
            refine a_iload_n 29 dX11_fillPlan_28 rfl rfl ?_
            refine a_callV ok_X11_personAt ln_X11_152 in_X11_personAt rfl 32 dX11_fillPlan_29 rfl (c_person w1.1 o hym) (by repeat (first | assumption | (refine rg_ne (by first | decide | omega) ?_) | apply rg_eq | refine rg_fr (by assumption) (by first | decide | (simp; omega)) ?_)) rfl rfl rfl ⟨(Nat.le_of_ble_eq_true rfl), (Nat.le_of_ble_eq_true rfl)⟩ (Nat.le_of_ble_eq_true rfl) ⟨(Nat.le_of_ble_eq_true rfl), (Nat.le_of_ble_eq_true rfl)⟩ ?_
            rintro _ _ ⟨rfl, rfl⟩
            refine a_astore 34 dX11_fillPlan_32 rfl (by decide) ?_
            refine a_aload 36 dX11_fillPlan_34 rfl rfl ?_
            refine a_ifnull 39 dX11_fillPlan_36 rfl ?_
            refine a_aload 41 dX11_fillPlan_39 rfl rfl ?_
            refine a_ifnull 44 dX11_fillPlan_41 rfl ?_
            refine a_aload_n 45 dX11_fillPlan_44 rfl rfl ?_
            refine a_aload 47 dX11_fillPlan_45 rfl rfl ?_
            refine a_aload 49 dX11_fillPlan_47 rfl rfl ?_
            refine a_callV ok_X11_sees ln_X11_377 in_X11_sees rfl 52 dX11_fillPlan_49 rfl (c_sees w1.1 o hxm hym) (by repeat (first | assumption | (refine rg_ne (by first | decide | omega) ?_) | apply rg_eq | refine rg_fr (by assumption) (by first | decide | (simp; omega)) ?_)) rfl rfl rfl ⟨(Nat.le_of_ble_eq_true rfl), (Nat.le_of_ble_eq_true rfl)⟩ (Nat.le_of_ble_eq_true rfl) ⟨(Nat.le_of_ble_eq_true rfl), (Nat.le_of_ble_eq_true rfl)⟩ ?_
            rintro _ _ ⟨rfl, rfl⟩
            refine a_if_eq 104 55 dX11_fillPlan_52 rfl (by decide) (fun c_52 => absurd c_52 (by rw [if_pos hS]; decide)) (fun c_52 => ?_)
            refine a_aload_n 56 dX11_fillPlan_55 rfl rfl ?_
            refine a_aload 58 dX11_fillPlan_56 rfl rfl ?_
            refine a_aload 60 dX11_fillPlan_58 rfl rfl ?_
            refine a_aload_n 61 dX11_fillPlan_60 rfl rfl ?_
            refine a_aload_n 62 dX11_fillPlan_61 rfl rfl ?_
            refine a_aload 64 dX11_fillPlan_62 rfl rfl ?_
            refine a_aload 66 dX11_fillPlan_64 rfl rfl ?_
            refine a_callV ok_X11_unseenStrength ln_X11_390 in_X11_unseenStrength rfl 69 dX11_fillPlan_66 rfl (c_unseen w1.1 o hz hxm hym) (by repeat (first | assumption | (refine rg_ne (by first | decide | omega) ?_) | apply rg_eq | refine rg_fr (by assumption) (by first | decide | (simp; omega)) ?_)) rfl rfl rfl ⟨(Nat.le_of_ble_eq_true rfl), (Nat.le_of_ble_eq_true rfl)⟩ (Nat.le_of_ble_eq_true rfl) ⟨(Nat.le_of_ble_eq_true rfl), (Nat.le_of_ble_eq_true rfl)⟩ ?_
            rintro _ _ ⟨rfl, rfl⟩
            refine a_callS ok_X11_takenMight ln_X11_393 is_X11_takenMight rfl 72 dX11_fillPlan_69 rfl (c_takenMight w1.1 o hz hxm hym (its_lt o hz)) rfl rfl ⟨(Nat.le_of_ble_eq_true rfl), (Nat.le_of_ble_eq_true rfl)⟩ (Nat.le_of_ble_eq_true rfl) ⟨(Nat.le_of_ble_eq_true rfl), (Nat.le_of_ble_eq_true rfl)⟩ ?_
            rintro _ _ ⟨rfl, rfl⟩
            refine a_istore 74 dX11_fillPlan_72 rfl (by decide) ?_
            refine a_aload_n 75 dX11_fillPlan_74 rfl rfl ?_
            refine a_get fd_X11_60 rfl 78 dX11_fillPlan_75 rfl (by repeat (first | assumption | (refine rg_ne (by first | decide | omega) ?_) | apply rg_eq | refine rg_fr (by assumption) (by first | decide | (simp; omega)) ?_)) rfl ?_
            refine a_aload_n 79 dX11_fillPlan_78 rfl rfl ?_
            refine a_get fd_X11_34 rfl 82 dX11_fillPlan_79 rfl (by repeat (first | assumption | (refine rg_ne (by first | decide | omega) ?_) | apply rg_eq | refine rg_fr (by assumption) (by first | decide | (simp; omega)) ?_)) rfl ?_
            refine a_aload 84 dX11_fillPlan_82 rfl rfl ?_
            refine a_getP fd_X11_145_X7 fd_X11_145_X3 fd_X11_145_X4 (ciK_P _) rfl 87 dX11_fillPlan_84 rfl (by repeat (first | assumption | (refine rg_ne (by first | decide | omega) ?_) | apply rg_eq | refine rg_fr (by assumption) (by first | decide | (simp; omega)) ?_)) rfl ?_
            refine a_aload 89 dX11_fillPlan_87 rfl rfl ?_
            refine a_getP fd_X11_145_X7 fd_X11_145_X3 fd_X11_145_X4 (ciK_P _) rfl 92 dX11_fillPlan_89 rfl (by repeat (first | assumption | (refine rg_ne (by first | decide | omega) ?_) | apply rg_eq | refine rg_fr (by assumption) (by first | decide | (simp; omega)) ?_)) rfl ?_
            refine a_aload_n 93 dX11_fillPlan_92 rfl rfl ?_
            refine a_iload_n 94 dX11_fillPlan_93 rfl rfl ?_
            refine a_iload_n 95 dX11_fillPlan_94 rfl rfl ?_
            refine a_callV ok_X11_weighed ln_X11_404 in_X11_weighed rfl 98 dX11_fillPlan_95 rfl (wg_w w1 o hxm hym) (by repeat (first | assumption | (refine rg_ne (by first | decide | omega) ?_) | apply rg_eq | refine rg_fr (by assumption) (by first | decide | (simp; omega)) ?_)) rfl rfl rfl ⟨(Nat.le_of_ble_eq_true rfl), (Nat.le_of_ble_eq_true rfl)⟩ (Nat.le_of_ble_eq_true rfl) ⟨(Nat.le_of_ble_eq_true rfl), (Nat.le_of_ble_eq_true rfl)⟩ ?_
            rintro _ _ ⟨rfl, rfl⟩
            refine a_iload 100 dX11_fillPlan_98 rfl rfl ?_
            refine a_isub 101 dX11_fillPlan_100 rfl ?_
            refine a_callV ok_X0_addSight ln_X11_425 in_X0_addSight rfl 104 dX11_fillPlan_101 rfl (k_X0_addSight o.1 hp1 ⟨c7, c8, c9, c10, c11⟩ (o.sen hxm) (o.sen hym) (hfc _ (o.sen hxm)) (R := fun j => rkP T.1 ((glT T x y).getD j 0)) hR.1 hR.2 (wdT T z x y)) (by repeat (first | assumption | (refine rg_ne (by first | decide | omega) ?_) | apply rg_eq | refine rg_fr (by assumption) (by first | decide | (simp; omega)) ?_)) rfl rfl rfl ⟨(Nat.le_of_ble_eq_true rfl), (Nat.le_of_ble_eq_true rfl)⟩ (Nat.le_of_ble_eq_true rfl) ⟨(Nat.le_of_ble_eq_true rfl), (Nat.le_of_ble_eq_true rfl)⟩ ?_
            rintro h2 _ ⟨rfl, ⟨al2, bo2, pa2, hp2, hal2, hbo2⟩, hf2⟩
            refine a_iinc _ 107 dX11_fillPlan_104 rfl rfl (by decide) rfl ?_
            refine a_goto 12 dX11_fillPlan_107 (by decide) ?_
            exact ih2 (y + 1) al2 bo2 pa2 _ _ _ _ _ (by omega) (nI_1 y) hp2 (fill_a o.1 hS hg.1 hal hal2) (fill_b o.1 hS hg.1 hbo hbo2) (fr_trans hfr hf2 (fun _ q => q))
          · skip
            refine a_iload_n 13 dX11_fillPlan_12 rfl rfl ?_
            refine a_aload_n 14 dX11_fillPlan_13 rfl rfl ?_
            refine a_get fd_X11_98 rfl 17 dX11_fillPlan_14 rfl (by repeat (first | assumption | (refine rg_ne (by first | decide | omega) ?_) | apply rg_eq | refine rg_fr (by assumption) (by first | decide | (simp; omega)) ?_)) rfl ?_
            refine a_icmp_ge 110 20 dX11_fillPlan_17 rfl (by decide) (fun c_17 => absurd c_17 (nI_ge (a := y) (b := T.m) (by omega) (by omega))) (fun c_17 => ?_)
            refine a_aload_n 21 dX11_fillPlan_20 rfl rfl ?_
            refine a_iload_n 22 dX11_fillPlan_21 rfl rfl ?_
            refine a_callV ok_X11_personAt ln_X11_152 in_X11_personAt rfl 25 dX11_fillPlan_22 rfl (c_person w1.1 o hxm) (by repeat (first | assumption | (refine rg_ne (by first | decide | omega) ?_) | apply rg_eq | refine rg_fr (by assumption) (by first | decide | (simp; omega)) ?_)) rfl rfl rfl ⟨(Nat.le_of_ble_eq_true rfl), (Nat.le_of_ble_eq_true rfl)⟩ (Nat.le_of_ble_eq_true rfl) ⟨(Nat.le_of_ble_eq_true rfl), (Nat.le_of_ble_eq_true rfl)⟩ ?_
            rintro _ _ ⟨rfl, rfl⟩
            refine a_astore 27 dX11_fillPlan_25 rfl (by decide) ?_
            refine a_aload_n 28 dX11_fillPlan_27 rfl rfl ?_
            refine a_iload_n 29 dX11_fillPlan_28 rfl rfl ?_
            refine a_callV ok_X11_personAt ln_X11_152 in_X11_personAt rfl 32 dX11_fillPlan_29 rfl (c_person w1.1 o hym) (by repeat (first | assumption | (refine rg_ne (by first | decide | omega) ?_) | apply rg_eq | refine rg_fr (by assumption) (by first | decide | (simp; omega)) ?_)) rfl rfl rfl ⟨(Nat.le_of_ble_eq_true rfl), (Nat.le_of_ble_eq_true rfl)⟩ (Nat.le_of_ble_eq_true rfl) ⟨(Nat.le_of_ble_eq_true rfl), (Nat.le_of_ble_eq_true rfl)⟩ ?_
            rintro _ _ ⟨rfl, rfl⟩
            refine a_astore 34 dX11_fillPlan_32 rfl (by decide) ?_
            refine a_aload 36 dX11_fillPlan_34 rfl rfl ?_
            refine a_ifnull 39 dX11_fillPlan_36 rfl ?_
            refine a_aload 41 dX11_fillPlan_39 rfl rfl ?_
            refine a_ifnull 44 dX11_fillPlan_41 rfl ?_
            refine a_aload_n 45 dX11_fillPlan_44 rfl rfl ?_
            refine a_aload 47 dX11_fillPlan_45 rfl rfl ?_
            refine a_aload 49 dX11_fillPlan_47 rfl rfl ?_
            refine a_callV ok_X11_sees ln_X11_377 in_X11_sees rfl 52 dX11_fillPlan_49 rfl (c_sees w1.1 o hxm hym) (by repeat (first | assumption | (refine rg_ne (by first | decide | omega) ?_) | apply rg_eq | refine rg_fr (by assumption) (by first | decide | (simp; omega)) ?_)) rfl rfl rfl ⟨(Nat.le_of_ble_eq_true rfl), (Nat.le_of_ble_eq_true rfl)⟩ (Nat.le_of_ble_eq_true rfl) ⟨(Nat.le_of_ble_eq_true rfl), (Nat.le_of_ble_eq_true rfl)⟩ ?_
            rintro _ _ ⟨rfl, rfl⟩
            refine a_if_eq 104 55 dX11_fillPlan_52 rfl (by decide) (fun c_52 => ?_) (fun c_52 => absurd (if_neg hS) c_52)
            refine a_iinc _ 107 dX11_fillPlan_104 rfl rfl (by decide) rfl ?_
            refine a_goto 12 dX11_fillPlan_107 (by decide) ?_
            exact ih2 (y + 1) al1 bo1 pa1 _ _ _ _ _ (by omega) (nI_1 y) hp1 (fun g h1 h2 => by rw [hal g h1 h2, sumI, show cAT T z g x y = 0 from if_neg (fun v => hS v.1), Int32.add_zero]) (fun g g2 h1 h2 h3 h4 => by rw [hbo g g2 h1 h2 h3 h4, sumI, show cBT T z g g2 x y = 0 from if_neg (fun v => hS v.1), Int32.add_zero]) hfr
      refine a_iload_n 3 dX11_fillPlan_2 rfl rfl ?_
      refine a_aload_n 4 dX11_fillPlan_3 rfl rfl ?_
      refine a_get fd_X11_98 rfl 7 dX11_fillPlan_4 rfl (by repeat (first | assumption | (refine rg_ne (by first | decide | omega) ?_) | apply rg_eq | refine rg_fr (by assumption) (by first | decide | (simp; omega)) ?_)) rfl ?_
      refine a_icmp_ge 116 10 dX11_fillPlan_7 rfl (by decide) (fun c_7 => absurd c_7 (nI_ge (a := x) (b := T.m) (by omega) (by omega))) (fun c_7 => ?_)
      refine a_iconst (0) 11 dX11_fillPlan_10 rfl (by decide) ?_
      refine a_istore_n 12 dX11_fillPlan_11 rfl (by decide) ?_
      exact A2 T.m 0 al1 bo1 pa1 _ _ _ _ _ (by omega) rfl hp1 hal hbo hfr
  refine rM_start (by decide) (Nat.le_of_ble_eq_true rfl) ?_
  refine a_iconst (0) 1 dX11_fillPlan_0 rfl (by decide) ?_
  refine a_istore_n 2 dX11_fillPlan_1 rfl (by decide) ?_
  exact A T.m 0 al bo pa _ _ _ _ _ _ (by omega) rfl hp (fun g h1 h2 => by rw [ha0 _ (rk_lt o.1 h1 h2)]; rfl) (fun g g2 h1 h2 h3 h4 => by have r1 := rk_lt o.1 (show g < 64 by omega) h3; have r2 := rk_lt o.1 h2 h4; rw [hb0 _ (by omega)]; rfl) (fr_refl _ _)
end FILL
