/-! THE CLASS: blinds -/
def ofsOk (fr : Nat) (s : offS) : Prop := s.2.1 = 0 ∨ ∃ t, 1 ≤ t ∧ t ≤ 3 ∧ s.2.1 = nI t ∧ ∀ x, x < t → ∃ k, k < fr ∧ s.2.2 x = nI k
theorem off_3 {fr : Nat} {s : offS} (h : ofsOk fr s) (w : Int32) {a b c : Nat} (hf : fr ≤ 52) (ha : a < fr) (hb : b < fr) (hc : c < fr) : ofsOk fr (offF s w (nI a) (nI b) (nI c)) := by
  unfold offF
  split
  · exact h
  · right
    refine ⟨3, by decide, by decide, ?_, fun x hx => ?_⟩
    · dsimp only; rw [if_neg (nI_ne9 (by omega)), if_neg (nI_ne9 (by omega))]; rfl
    · rcases (show x = 0 ∨ x = 1 ∨ x = 2 by omega) with e | e | e
      · subst e; exact ⟨a, ha, by dsimp only; rw [pk_un (by decide), pk_un (by decide), pk_us]⟩
      · subst e; exact ⟨b, hb, by dsimp only; rw [pk_un (by decide), pk_us]⟩
      · subst e; exact ⟨c, hc, by dsimp only; rw [pk_us]⟩
theorem off_2 {fr : Nat} {s : offS} (h : ofsOk fr s) (w : Int32) {a b : Nat} (hf : fr ≤ 52) (ha : a < fr) (hb : b < fr) : ofsOk fr (offF s w (nI a) (nI b) (-9)) := by
  unfold offF
  split
  · exact h
  · right
    refine ⟨2, by decide, by decide, ?_, fun x hx => ?_⟩
    · dsimp only; rw [if_neg (nI_ne9 (by omega)), if_pos rfl]; rfl
    · rcases (show x = 0 ∨ x = 1 by omega) with e | e
      · subst e; exact ⟨a, ha, by dsimp only; rw [pk_un (by decide), pk_un (by decide), pk_us]⟩
      · subst e; exact ⟨b, hb, by dsimp only; rw [pk_un (by decide), pk_us]⟩
theorem off_1 {fr : Nat} {s : offS} (h : ofsOk fr s) (w : Int32) {a : Nat} (ha : a < fr) : ofsOk fr (offF s w (nI a) (-9) (-9)) := by
  unfold offF
  split
  · exact h
  · right
    refine ⟨1, by decide, by decide, ?_, fun x hx => ?_⟩
    · dsimp only; rw [if_pos rfl]; rfl
    · have e : x = 0 := by omega
      subst e
      exact ⟨a, ha, by dsimp only; rw [pk_un (by decide), pk_un (by decide), pk_us]⟩
theorem sr3_ok {al bo li : Nat → Int32} {fr a b : Nat} (hf : fr ≤ 52) (ha : a < fr) (hb : b < fr) : ∀ (r c : Nat) (s : offS), c + r ≤ fr → ofsOk fr s → ofsOk fr (sr3 al bo li a b r c s)
  | 0, _, _, _, h => h
  | r + 1, c, s, hc, h => by
    rw [sr3]
    exact sr3_ok hf ha hb r (c + 1) _ (by omega) (off_3 h _ hf ha hb (by omega))
theorem sr2_ok {al bo li : Nat → Int32} {fr num a : Nat} (hf : fr ≤ 52) (ha : a < fr) : ∀ (r b : Nat) (s : offS), b + r ≤ fr → ofsOk fr s → ofsOk fr (sr2 al bo li fr num a r b s)
  | 0, _, _, _, h => h
  | r + 1, b, s, hb, h => by
    rw [sr2]
    refine sr2_ok hf ha r (b + 1) _ (by omega) ?_
    split
    · exact off_2 h _ hf ha (by omega)
    · exact sr3_ok hf ha (by omega) _ _ _ (by omega) h
theorem sr1_ok {al bo li : Nat → Int32} {fr num : Nat} (hf : fr ≤ 52) : ∀ (r a : Nat) (s : offS), a + r ≤ fr → ofsOk fr s → ofsOk fr (sr1 al bo li fr num r a s)
  | 0, _, _, _, h => h
  | r + 1, a, s, ha, h => by
    rw [sr1]
    refine sr1_ok hf r (a + 1) _ (by omega) ?_
    split
    · exact off_1 h _ (by omega)
    · exact sr2_ok hf (by omega) _ _ _ (by omega) h
abbrev blX (T : Tn) (k : Nat) (al bo li ch : Nat → Int32) (sv : Int32) : offS := sr1 al bo li (rkP T.1 64) (min k (rkP T.1 64)) (rkP T.1 64) 0 (sv, 0, ch)
abbrev gapA (T : Tn) (g : Int32) : Int32 := (100 : Int32) * (g >>> (1 &&& 31)) + (if g &&& 1 = 0 then (g >>> (1 &&& 31)) + 1 else (g >>> (1 &&& 31)) + nI T.wi)
def blR (T : Tn) (z k : Nat) (q v : Int32) : Prop := ∃ (ga pl li al bo ch : Nat → Int32) (sv : Int32), plI T.1 64 ga pl li ∧ alI T z T.m 0 al ∧ boI T z T.m 0 bo ∧ (q = -1 → v = nI (sprT T z) - (blX T k al bo li ch sv).1) ∧ (∀ j, j < 3 → q = nI j → ((blX T k al bo li ch sv).2.1 ≤ nI j → v = -9) ∧ ∀ p, p < 52 → nI j < (blX T k al bo li ch sv).2.1 → (blX T k al bo li ch sv).2.2 j = nI p → v = gapA T (ga p))
def aBl (T : Tn) (c k q v : Int32) : Prop := match oT T.nl c with
  | none => v = -1
  | some z => if 1 ≤ k ∧ k ≤ 3 then (if -1 ≤ q ∧ q ≤ 2 then (if rkP T.1 64 = 0 then v = -3 else blR T z k.toNatClampNeg q v) else v = -1) else v = -2
section CBLINDS
variable {l : Launch} {G : rG} {h : rH} {T : Tn}
theorem all_pl {h' : rH} {fr1 tk sv : Int32} {ga pl li al bo pa ch : Nat → Int32} (q : cAll G h T) (hp : plAt G h' fr1 tk sv ga pl li al bo pa ch) (hf : fr h h' [17, 18, 19, 20, 21, 22, 23, 24]) : cAll G h' T := by
  obtain ⟨p1, p2, p3, p4, p5, p6, p7, p8⟩ := hp
  exact ⟨q.1.fr hf (by decide), q.2.1.kp (kp_fr hf) (by decide), ⟨fr1, tk, sv, p1⟩, ⟨ga, p2⟩, ⟨pl, p3⟩, ⟨li, p4⟩, ⟨al, p5⟩, ⟨bo, p6⟩, ⟨pa, p7⟩, ⟨ch, p8⟩⟩
theorem pla_at (q : cPla G h) : ∃ fr1 tk sv ga pl li al bo pa ch, plAt G h fr1 tk sv ga pl li al bo pa ch := by
  obtain ⟨⟨a, b, c, q1⟩, ⟨f2, q2⟩, ⟨f3, q3⟩, ⟨f4, q4⟩, ⟨f5, q5⟩, ⟨f6, q6⟩, ⟨f7, q7⟩, ⟨f8, q8⟩⟩ := q
  exact ⟨a, b, c, f2, f3, f4, f5, f6, f7, f8, q1, q2, q3, q4, q5, q6, q7, q8⟩
theorem k_N {k : Int32} (h : 1 ≤ k ∧ k ≤ 3) : ∃ m : Nat, 1 ≤ m ∧ m ≤ 3 ∧ k = nI m := by
  obtain ⟨m, hm, rfl⟩ := nI_of2 (M := 3) (n := 3) rfl (Int32.not_lt.mpr (Int32.le_trans (show (0 : Int32) ≤ 1 by decide) h.1)) h.2
  refine ⟨m, ?_, hm, rfl⟩
  have := (nI_leI (a := 1) (b := m) (by omega) (by omega)).mp h.1
  exact this
theorem q_N {q : Int32} (h : -1 ≤ q ∧ q ≤ 2) (h2 : ¬ q = -1) : ∃ m : Nat, m < 3 ∧ q = nI m := by
  have h0 : ¬ q < 0 := by
    intro z
    apply h2
    rw [i_eq]
    rw [i_le] at h
    rw [i_lt] at z
    have e1 : (-1 : Int32).toInt = -1 := rfl
    have e2 : (0 : Int32).toInt = 0 := rfl
    omega
  obtain ⟨m, hm, rfl⟩ := nI_of2 (M := 2) (n := 2) rfl h0 h.2
  exact ⟨m, by omega, rfl⟩
theorem nI_ne_m1 {j : Nat} (hj : j < 3) : ¬ nI j = -1 := by
  intro z
  have := congrArg Int32.toInt z
  rw [nI_toInt (by omega)] at this
  have e : (-1 : Int32).toInt = -1 := rfl
  omega
set_option maxRecDepth 100000 in
set_option maxHeartbeats 400000 in
theorem bl_tail {hh : rH} {j z : Nat} {X : offS} {Y : offS} {k : Int32} {lw : Option Value} {ga pl li al bo pa : Nat → Int32} (eX : X = Y) (w4 : wgAt G h T z) (q : cAll G h T) (hp : plAt G h (nI (rkP T.1 64)) X.2.1 X.1 ga pl li al bo pa X.2.2) (hj : j < 3) (hX : ofsOk (rkP T.1 64) X) (hr : rkP T.1 64 ≤ 52) (kk : kp hh h cL) {A : Int32 → Prop} (hA : ∀ a, ((X.2.1 ≤ nI j → a = -9) ∧ ∀ p, p < 52 → nI j < X.2.1 → X.2.2 j = nI p → a = gapA T (ga p)) → A a) : rW l G (rRm 12 0 0) mX11_blinds (rZ G (fun h' v => ∃ a, v = some (.int a) ∧ A a ∧ cAll G h' T ∧ kp hh h' cL) 0 0) 0 0 116 [some (.ref (gN G + 0)), some (.int (nI z)), some (.int k), some (.int (nI j)), lw] [.int (nI j), .ref (gN G + 7), .ref (gN G + 17)] h := by
  have g17 := hp.1
  obtain ⟨f0, s0, L0, hcc, -⟩ := q.1.2.2.2.1
  by_cases h1 : X.2.1 ≤ nI j
  · have hA1 : A (-9) := hA _ ⟨fun _ => rfl, fun p _ h2 _ => absurd h1 (Int32.not_le.mpr h2)⟩
    refine a_callV ok_X0_chosenGap ln_X11_303 in_X0_chosenGap rfl 119 dX11_blinds_116 rfl (k_X0_chosenNo hp h1 hj) (by repeat (first | assumption | (refine rg_ne (by first | decide | omega) ?_) | apply rg_eq | refine rg_fr (by assumption) (by first | decide | (simp; omega)) ?_)) rfl rfl rfl ⟨(Nat.le_of_ble_eq_true rfl), (Nat.le_of_ble_eq_true rfl)⟩ (Nat.le_of_ble_eq_true rfl) ⟨(Nat.le_of_ble_eq_true rfl), (Nat.le_of_ble_eq_true rfl)⟩ ?_
    rintro _ _ ⟨rfl, rfl⟩
    exact a_ireturn dX11_blinds_119 rfl rfl (Nat.le_of_ble_eq_true rfl) (Nat.le_of_ble_eq_true rfl) ⟨_, rfl, hA1, q, kk⟩
  · have h2 := Int32.not_le.mp h1
    rcases hX with h0 | ⟨t, t1, t3, et, hx⟩
    · rw [h0] at h2
      exact absurd h2 (nI_pos (by omega))
    · have hjt : j < t := by rw [et, nI_ltI (by omega) (by omega)] at h2; exact h2
      obtain ⟨p, hp1, ep⟩ := hx j hjt
      have hA1 : A (gapA T (ga p)) := hA _ ⟨fun v => absurd v h1, fun p2 hp2 _ e2 => by rw [show p2 = p from (nI_eq (by omega) (by omega)).mp (e2.symm.trans ep)]⟩
      refine a_callV ok_X0_chosenGap ln_X11_303 in_X0_chosenGap rfl 119 dX11_blinds_116 rfl (k_X0_chosenGap hp hcc hj (by omega) ep h2) (by repeat (first | assumption | (refine rg_ne (by first | decide | omega) ?_) | apply rg_eq | refine rg_fr (by assumption) (by first | decide | (simp; omega)) ?_)) rfl rfl rfl ⟨(Nat.le_of_ble_eq_true rfl), (Nat.le_of_ble_eq_true rfl)⟩ (Nat.le_of_ble_eq_true rfl) ⟨(Nat.le_of_ble_eq_true rfl), (Nat.le_of_ble_eq_true rfl)⟩ ?_
      rintro _ _ ⟨rfl, rfl⟩
      exact a_ireturn dX11_blinds_119 rfl rfl (Nat.le_of_ble_eq_true rfl) (Nat.le_of_ble_eq_true rfl) ⟨_, rfl, hA1, q, kk⟩
set_option maxRecDepth 100000 in
set_option maxHeartbeats 400000 in
theorem c_blinds (q0 : cAll G h T) (o : T.ok) (hgl : glOk T) (c k q : Int32) : rM l G 12 mX11_blinds 0 0 [.ref (gN G + 0), .int c, .int k, .int q] h (fun h' v => ∃ a, v = some (.int a) ∧ aBl T c k q a ∧ cAll G h' T ∧ kp h h' cL) := by
  have hnl := o.nl6
  have hy := q0.1.1
  rcases oT_cases (n := T.nl) (by omega) c with ⟨e, hc⟩ | ⟨z, hz, rfl, e⟩
  · have ea : aBl T c k q (-1) := by unfold aBl; rw [e]
    refine rM_start (by decide) (Nat.le_of_ble_eq_true rfl) ?_
    refine a_aload_n 1 dX11_blinds_0 rfl rfl ?_
    refine a_iload_n 2 dX11_blinds_1 rfl rfl ?_
    refine a_callV ok_X11_weighedLaw ln_X11_217 in_X11_weighedLaw rfl 5 dX11_blinds_2 rfl (k_X11_weighedLawN q0.1 hc) (by repeat (first | assumption | (refine rg_ne (by first | decide | omega) ?_) | apply rg_eq | refine rg_fr (by assumption) (by first | decide | (simp; omega)) ?_)) rfl rfl rfl ⟨(Nat.le_of_ble_eq_true rfl), (Nat.le_of_ble_eq_true rfl)⟩ (Nat.le_of_ble_eq_true rfl) ⟨(Nat.le_of_ble_eq_true rfl), (Nat.le_of_ble_eq_true rfl)⟩ ?_
    rintro _ _ ⟨rfl, rfl⟩
    refine a_astoreN 7 dX11_blinds_5 rfl (by decide) ?_
    refine a_aloadN 9 dX11_blinds_7 rfl rfl ?_
    refine a_ifnonnullN 12 dX11_blinds_9 rfl ?_
    refine a_iconst (-1) 13 dX11_blinds_12 rfl (by decide) ?_
    exact a_ireturn dX11_blinds_13 rfl rfl (Nat.le_of_ble_eq_true rfl) (Nat.le_of_ble_eq_true rfl) ⟨_, rfl, ea, q0, fun _ _ _ => rfl⟩
  · have ea : ∀ a, aBl T (nI z) k q a = if 1 ≤ k ∧ k ≤ 3 then (if -1 ≤ q ∧ q ≤ 2 then (if rkP T.1 64 = 0 then a = -3 else blR T z k.toNatClampNeg q a) else a = -1) else a = -2 := fun a => by unfold aBl; rw [e]
    by_cases hk : 1 ≤ k ∧ k ≤ 3
    · by_cases hq : -1 ≤ q ∧ q ≤ 2
      · obtain ⟨m, m1, m3, rfl⟩ := k_N hk
        have hr52 := rk_52 o.1 (g := 64) (by decide)
        by_cases h0 : rkP T.1 64 = 0
        · have ea2 : aBl T (nI z) (nI m) q (-3) := by rw [ea, if_pos hk, if_pos hq, if_pos h0]
          refine rM_start (by decide) (Nat.le_of_ble_eq_true rfl) ?_
          refine a_aload_n 1 dX11_blinds_0 rfl rfl ?_
          refine a_iload_n 2 dX11_blinds_1 rfl rfl ?_
          refine a_callV ok_X11_weighedLaw ln_X11_217 in_X11_weighedLaw rfl 5 dX11_blinds_2 rfl (k_X11_weighedLaw q0.1 o q0.2.1 hz) (by repeat (first | assumption | (refine rg_ne (by first | decide | omega) ?_) | apply rg_eq | refine rg_fr (by assumption) (by first | decide | (simp; omega)) ?_)) rfl rfl rfl ⟨(Nat.le_of_ble_eq_true rfl), (Nat.le_of_ble_eq_true rfl)⟩ (Nat.le_of_ble_eq_true rfl) ⟨(Nat.le_of_ble_eq_true rfl), (Nat.le_of_ble_eq_true rfl)⟩ ?_
          rintro h1 _ ⟨rfl, w1, hf1⟩
          have qa := wg_all q0 w1 hf1
          have hy1 := qa.1.1
          obtain ⟨fr1, tk, sv, ga0, pl0, li0, al0, bo0, pa, ch, hp1⟩ := pla_at qa.2.2
          obtain ⟨f0, s0, L0, hcc, -⟩ := qa.1.2.2.2.1
          have g17 := hp1.1
          refine a_astore 7 dX11_blinds_5 rfl (by decide) ?_
          refine a_aload 9 dX11_blinds_7 rfl rfl ?_
          refine a_ifnonnull 14 dX11_blinds_9 (by decide) ?_
          refine a_iload_n 15 dX11_blinds_14 rfl rfl ?_
          refine a_iconst (1) 16 dX11_blinds_15 rfl (by decide) ?_
          refine a_icmp_lt 24 19 dX11_blinds_16 rfl (by decide) (fun c_16 => absurd c_16 (Int32.not_lt.mpr hk.1)) (fun c_16 => ?_)
          refine a_iload_n 20 dX11_blinds_19 rfl rfl ?_
          refine a_iconst (3) 21 dX11_blinds_20 rfl (by decide) ?_
          refine a_icmp_le 27 24 dX11_blinds_21 rfl (by decide) (fun c_21 => ?_) (fun c_21 => absurd hk.2 c_21)
          refine a_iload_n 28 dX11_blinds_27 rfl rfl ?_
          refine a_iconst (-1) 29 dX11_blinds_28 rfl (by decide) ?_
          refine a_icmp_lt 37 32 dX11_blinds_29 rfl (by decide) (fun c_29 => absurd c_29 (Int32.not_lt.mpr hq.1)) (fun c_29 => ?_)
          refine a_iload_n 33 dX11_blinds_32 rfl rfl ?_
          refine a_iconst (2) 34 dX11_blinds_33 rfl (by decide) ?_
          refine a_icmp_le 39 37 dX11_blinds_34 rfl (by decide) (fun c_34 => ?_) (fun c_34 => absurd hq.2 c_34)
          refine a_aload_n 40 dX11_blinds_39 rfl rfl ?_
          refine a_get fd_X11_60 rfl 43 dX11_blinds_40 rfl (by repeat (first | assumption | (refine rg_ne (by first | decide | omega) ?_) | apply rg_eq | refine rg_fr (by assumption) (by first | decide | (simp; omega)) ?_)) rfl ?_
          refine a_aload_n 44 dX11_blinds_43 rfl rfl ?_
          refine a_get fd_X11_34 rfl 47 dX11_blinds_44 rfl (by repeat (first | assumption | (refine rg_ne (by first | decide | omega) ?_) | apply rg_eq | refine rg_fr (by assumption) (by first | decide | (simp; omega)) ?_)) rfl ?_
          refine a_callV ok_X0_begin ln_X11_282 in_X0_begin rfl 50 dX11_blinds_47 rfl (k_X0_begin o.1 hp1 hcc) (by repeat (first | assumption | (refine rg_ne (by first | decide | omega) ?_) | apply rg_eq | refine rg_fr (by assumption) (by first | decide | (simp; omega)) ?_)) rfl rfl rfl ⟨(Nat.le_of_ble_eq_true rfl), (Nat.le_of_ble_eq_true rfl)⟩ (Nat.le_of_ble_eq_true rfl) ⟨(Nat.le_of_ble_eq_true rfl), (Nat.le_of_ble_eq_true rfl)⟩ ?_
          rintro h2 _ ⟨rfl, ⟨ga, pl, li, al, bo, hp2, hI, ha0, hb0⟩, hf2⟩
          have qb := all_pl qa hp2 (fr_mono hf2 (by decide))
          have hy2 := qb.1.1
          have g172 := hp2.1
          refine a_aload_n 51 dX11_blinds_50 rfl rfl ?_
          refine a_get fd_X11_60 rfl 54 dX11_blinds_51 rfl (by repeat (first | assumption | (refine rg_ne (by first | decide | omega) ?_) | apply rg_eq | refine rg_fr (by assumption) (by first | decide | (simp; omega)) ?_)) rfl ?_
          refine a_get fd_X11_286 rfl 57 dX11_blinds_54 rfl (by repeat (first | assumption | (refine rg_ne (by first | decide | omega) ?_) | apply rg_eq | refine rg_fr (by assumption) (by first | decide | (simp; omega)) ?_)) rfl ?_
          refine a_if_ne 63 60 dX11_blinds_57 rfl (by decide) (fun c_57 => absurd c_57 (by rw [h0]; decide)) (fun c_57 => ?_)
          refine a_bipush (-3) 62 dX11_blinds_60 rfl (by decide) ?_
          exact a_ireturn dX11_blinds_62 rfl rfl (Nat.le_of_ble_eq_true rfl) (Nat.le_of_ble_eq_true rfl) ⟨_, rfl, ea2, qb, kp_mono (kp_fr (fr_trans (fr_mono hf1 (T := [17, 18, 19, 20, 21, 22, 25, 26]) (by decide)) hf2 (by decide))) (by decide)⟩
        · have hm := o.m12
          have ea2 : ∀ a, blR T z m q a → aBl T (nI z) (nI m) q a := fun a ha => by rw [ea, if_pos hk, if_pos hq, if_neg h0, nI_clamp (by omega)]; exact ha
          have h0' : ¬ nI (rkP T.1 64) = 0 := fun v => h0 ((nI_0eq (by omega)).mp v)
          have emn : (if nI (rkP T.1 64) < nI m then nI (rkP T.1 64) else nI m) = nI (min m (rkP T.1 64)) := by
            by_cases v : rkP T.1 64 < m
            · rw [if_pos (nI_lt v (by omega)), Nat.min_eq_right (by omega)]
            · rw [if_neg (nI_nlt (by omega) (by omega)), Nat.min_eq_left (by omega)]
          by_cases hq1 : q = -1
          · skip
            refine rM_start (by decide) (Nat.le_of_ble_eq_true rfl) ?_
            refine a_aload_n 1 dX11_blinds_0 rfl rfl ?_
            refine a_iload_n 2 dX11_blinds_1 rfl rfl ?_
            refine a_callV ok_X11_weighedLaw ln_X11_217 in_X11_weighedLaw rfl 5 dX11_blinds_2 rfl (k_X11_weighedLaw q0.1 o q0.2.1 hz) (by repeat (first | assumption | (refine rg_ne (by first | decide | omega) ?_) | apply rg_eq | refine rg_fr (by assumption) (by first | decide | (simp; omega)) ?_)) rfl rfl rfl ⟨(Nat.le_of_ble_eq_true rfl), (Nat.le_of_ble_eq_true rfl)⟩ (Nat.le_of_ble_eq_true rfl) ⟨(Nat.le_of_ble_eq_true rfl), (Nat.le_of_ble_eq_true rfl)⟩ ?_
            rintro h1 _ ⟨rfl, w1, hf1⟩
            have qa := wg_all q0 w1 hf1
            have hy1 := qa.1.1
            obtain ⟨fr1, tk, sv, ga0, pl0, li0, al0, bo0, pa, ch, hp1⟩ := pla_at qa.2.2
            obtain ⟨f0, s0, L0, hcc, -⟩ := qa.1.2.2.2.1
            have g17 := hp1.1
            refine a_astore 7 dX11_blinds_5 rfl (by decide) ?_
            refine a_aload 9 dX11_blinds_7 rfl rfl ?_
            refine a_ifnonnull 14 dX11_blinds_9 (by decide) ?_
            refine a_iload_n 15 dX11_blinds_14 rfl rfl ?_
            refine a_iconst (1) 16 dX11_blinds_15 rfl (by decide) ?_
            refine a_icmp_lt 24 19 dX11_blinds_16 rfl (by decide) (fun c_16 => absurd c_16 (Int32.not_lt.mpr hk.1)) (fun c_16 => ?_)
            refine a_iload_n 20 dX11_blinds_19 rfl rfl ?_
            refine a_iconst (3) 21 dX11_blinds_20 rfl (by decide) ?_
            refine a_icmp_le 27 24 dX11_blinds_21 rfl (by decide) (fun c_21 => ?_) (fun c_21 => absurd hk.2 c_21)
            refine a_iload_n 28 dX11_blinds_27 rfl rfl ?_
            refine a_iconst (-1) 29 dX11_blinds_28 rfl (by decide) ?_
            refine a_icmp_lt 37 32 dX11_blinds_29 rfl (by decide) (fun c_29 => absurd c_29 (Int32.not_lt.mpr hq.1)) (fun c_29 => ?_)
            refine a_iload_n 33 dX11_blinds_32 rfl rfl ?_
            refine a_iconst (2) 34 dX11_blinds_33 rfl (by decide) ?_
            refine a_icmp_le 39 37 dX11_blinds_34 rfl (by decide) (fun c_34 => ?_) (fun c_34 => absurd hq.2 c_34)
            refine a_aload_n 40 dX11_blinds_39 rfl rfl ?_
            refine a_get fd_X11_60 rfl 43 dX11_blinds_40 rfl (by repeat (first | assumption | (refine rg_ne (by first | decide | omega) ?_) | apply rg_eq | refine rg_fr (by assumption) (by first | decide | (simp; omega)) ?_)) rfl ?_
            refine a_aload_n 44 dX11_blinds_43 rfl rfl ?_
            refine a_get fd_X11_34 rfl 47 dX11_blinds_44 rfl (by repeat (first | assumption | (refine rg_ne (by first | decide | omega) ?_) | apply rg_eq | refine rg_fr (by assumption) (by first | decide | (simp; omega)) ?_)) rfl ?_
            refine a_callV ok_X0_begin ln_X11_282 in_X0_begin rfl 50 dX11_blinds_47 rfl (k_X0_begin o.1 hp1 hcc) (by repeat (first | assumption | (refine rg_ne (by first | decide | omega) ?_) | apply rg_eq | refine rg_fr (by assumption) (by first | decide | (simp; omega)) ?_)) rfl rfl rfl ⟨(Nat.le_of_ble_eq_true rfl), (Nat.le_of_ble_eq_true rfl)⟩ (Nat.le_of_ble_eq_true rfl) ⟨(Nat.le_of_ble_eq_true rfl), (Nat.le_of_ble_eq_true rfl)⟩ ?_
            rintro h2 _ ⟨rfl, ⟨ga, pl, li, al, bo, hp2, hI, ha0, hb0⟩, hf2⟩
            have qb := all_pl qa hp2 (fr_mono hf2 (by decide))
            have hy2 := qb.1.1
            have g172 := hp2.1
            have w2 := w1.kp (kp_fr hf2) (by decide) (by decide) (by decide)
            refine a_aload_n 51 dX11_blinds_50 rfl rfl ?_
            refine a_get fd_X11_60 rfl 54 dX11_blinds_51 rfl (by repeat (first | assumption | (refine rg_ne (by first | decide | omega) ?_) | apply rg_eq | refine rg_fr (by assumption) (by first | decide | (simp; omega)) ?_)) rfl ?_
            refine a_get fd_X11_286 rfl 57 dX11_blinds_54 rfl (by repeat (first | assumption | (refine rg_ne (by first | decide | omega) ?_) | apply rg_eq | refine rg_fr (by assumption) (by first | decide | (simp; omega)) ?_)) rfl ?_
            refine a_if_ne 63 60 dX11_blinds_57 rfl (by decide) (fun c_57 => ?_) (fun c_57 => absurd c_57 h0')
            refine a_aload_n 64 dX11_blinds_63 rfl rfl ?_
            refine a_aload 66 dX11_blinds_64 rfl rfl ?_
            refine a_callV ok_X11_fillPlan ln_X11_289 in_X11_fillPlan rfl 69 dX11_blinds_66 rfl (k_X11_fillPlan w2 o hgl hp2 hI ha0 hb0) (by repeat (first | assumption | (refine rg_ne (by first | decide | omega) ?_) | apply rg_eq | refine rg_fr (by assumption) (by first | decide | (simp; omega)) ?_)) rfl rfl rfl ⟨(Nat.le_of_ble_eq_true rfl), (Nat.le_of_ble_eq_true rfl)⟩ (Nat.le_of_ble_eq_true rfl) ⟨(Nat.le_of_ble_eq_true rfl), (Nat.le_of_ble_eq_true rfl)⟩ ?_
            rintro h3 _ ⟨rfl, ⟨al2, bo2, pa2, hp3, hal, hbo⟩, hf3⟩
            have qc := all_pl qb hp3 (fr_mono hf3 (by decide))
            have hy3 := qc.1.1
            have g173 := hp3.1
            have w3 := w2.kp (kp_fr hf3) (by decide) (by decide) (by decide)
            refine a_aload_n 70 dX11_blinds_69 rfl rfl ?_
            refine a_get fd_X11_60 rfl 73 dX11_blinds_70 rfl (by repeat (first | assumption | (refine rg_ne (by first | decide | omega) ?_) | apply rg_eq | refine rg_fr (by assumption) (by first | decide | (simp; omega)) ?_)) rfl ?_
            refine a_iload_n 74 dX11_blinds_73 rfl rfl ?_
            refine a_aload_n 75 dX11_blinds_74 rfl rfl ?_
            refine a_get fd_X11_60 rfl 78 dX11_blinds_75 rfl (by repeat (first | assumption | (refine rg_ne (by first | decide | omega) ?_) | apply rg_eq | refine rg_fr (by assumption) (by first | decide | (simp; omega)) ?_)) rfl ?_
            refine a_get fd_X11_286 rfl 81 dX11_blinds_78 rfl (by repeat (first | assumption | (refine rg_ne (by first | decide | omega) ?_) | apply rg_eq | refine rg_fr (by assumption) (by first | decide | (simp; omega)) ?_)) rfl ?_
            rw [show nI (rkP T.1 64) = nI (rkP T.1 64) from rfl]
            refine a_mmin lm_X11_293 rfl 84 dX11_blinds_81 rfl (Nat.le_of_ble_eq_true rfl) (Nat.le_of_ble_eq_true rfl) ⟨(Nat.le_of_ble_eq_true rfl), (Nat.le_of_ble_eq_true rfl)⟩ ?_
            rw [emn]
            refine a_callV ok_X0_search ln_X11_296 in_X0_search rfl 87 dX11_blinds_84 rfl (k_X0_search hp3 hr52 (by omega)) (by repeat (first | assumption | (refine rg_ne (by first | decide | omega) ?_) | apply rg_eq | refine rg_fr (by assumption) (by first | decide | (simp; omega)) ?_)) rfl rfl rfl ⟨(Nat.le_of_ble_eq_true rfl), (Nat.le_of_ble_eq_true rfl)⟩ (Nat.le_of_ble_eq_true rfl) ⟨(Nat.le_of_ble_eq_true rfl), (Nat.le_of_ble_eq_true rfl)⟩ ?_
            rintro h4 _ ⟨rfl, hp4, hf4⟩
            have qd := all_pl qc hp4 (fr_mono hf4 (by decide))
            have hy4 := qd.1.1
            have g174 := hp4.1
            have w4 := w3.kp (kp_fr hf4) (by decide) (by decide) (by decide)
            have kk := kp_mono (kp_fr (fr_trans (fr_trans (fr_trans (fr_mono hf1 (T := [17, 18, 19, 20, 21, 22, 23, 24, 25, 26]) (by decide)) hf2 (by decide)) hf3 (by decide)) hf4 (by decide))) (S' := cL) (by decide)
            refine a_iload_n 88 dX11_blinds_87 rfl rfl ?_
            refine a_iconst (-1) 89 dX11_blinds_88 rfl (by decide) ?_
            refine a_icmp_ne 107 92 dX11_blinds_89 rfl (by decide) (fun c_89 => absurd hq1 c_89) (fun c_89 => ?_)
            refine a_aload_n 93 dX11_blinds_92 rfl rfl ?_
            refine a_callV ok_X11_weighedSpread ln_X11_279 in_X11_weighedSpread rfl 96 dX11_blinds_93 rfl (k_X11_weighedSpread w4 o) (by repeat (first | assumption | (refine rg_ne (by first | decide | omega) ?_) | apply rg_eq | refine rg_fr (by assumption) (by first | decide | (simp; omega)) ?_)) rfl rfl rfl ⟨(Nat.le_of_ble_eq_true rfl), (Nat.le_of_ble_eq_true rfl)⟩ (Nat.le_of_ble_eq_true rfl) ⟨(Nat.le_of_ble_eq_true rfl), (Nat.le_of_ble_eq_true rfl)⟩ ?_
            rintro _ _ ⟨rfl, rfl⟩
            refine a_aload_n 97 dX11_blinds_96 rfl rfl ?_
            refine a_get fd_X11_60 rfl 100 dX11_blinds_97 rfl (by repeat (first | assumption | (refine rg_ne (by first | decide | omega) ?_) | apply rg_eq | refine rg_fr (by assumption) (by first | decide | (simp; omega)) ?_)) rfl ?_
            refine a_get fd_X11_300 rfl 103 dX11_blinds_100 rfl (by repeat (first | assumption | (refine rg_ne (by first | decide | omega) ?_) | apply rg_eq | refine rg_fr (by assumption) (by first | decide | (simp; omega)) ?_)) rfl ?_
            refine a_isub 104 dX11_blinds_103 rfl ?_
            refine a_goto 119 dX11_blinds_104 (by decide) ?_
            exact a_ireturn dX11_blinds_119 rfl rfl (Nat.le_of_ble_eq_true rfl) (Nat.le_of_ble_eq_true rfl) ⟨_, rfl, ea2 _ ⟨ga, pl, li, al2, bo2, ch, sv, hI, hal, hbo, fun _ => rfl, fun j hj hqj => absurd (hq1.symm.trans hqj) (fun v => nI_ne_m1 hj v.symm)⟩, qd, kk⟩
          · obtain ⟨j, hj, rfl⟩ := q_N hq hq1
            by_cases hX : False
            · exact hX.elim
            · skip
              refine rM_start (by decide) (Nat.le_of_ble_eq_true rfl) ?_
              refine a_aload_n 1 dX11_blinds_0 rfl rfl ?_
              refine a_iload_n 2 dX11_blinds_1 rfl rfl ?_
              refine a_callV ok_X11_weighedLaw ln_X11_217 in_X11_weighedLaw rfl 5 dX11_blinds_2 rfl (k_X11_weighedLaw q0.1 o q0.2.1 hz) (by repeat (first | assumption | (refine rg_ne (by first | decide | omega) ?_) | apply rg_eq | refine rg_fr (by assumption) (by first | decide | (simp; omega)) ?_)) rfl rfl rfl ⟨(Nat.le_of_ble_eq_true rfl), (Nat.le_of_ble_eq_true rfl)⟩ (Nat.le_of_ble_eq_true rfl) ⟨(Nat.le_of_ble_eq_true rfl), (Nat.le_of_ble_eq_true rfl)⟩ ?_
              rintro h1 _ ⟨rfl, w1, hf1⟩
              have qa := wg_all q0 w1 hf1
              have hy1 := qa.1.1
              obtain ⟨fr1, tk, sv, ga0, pl0, li0, al0, bo0, pa, ch, hp1⟩ := pla_at qa.2.2
              obtain ⟨f0, s0, L0, hcc, -⟩ := qa.1.2.2.2.1
              have g17 := hp1.1
              refine a_astore 7 dX11_blinds_5 rfl (by decide) ?_
              refine a_aload 9 dX11_blinds_7 rfl rfl ?_
              refine a_ifnonnull 14 dX11_blinds_9 (by decide) ?_
              refine a_iload_n 15 dX11_blinds_14 rfl rfl ?_
              refine a_iconst (1) 16 dX11_blinds_15 rfl (by decide) ?_
              refine a_icmp_lt 24 19 dX11_blinds_16 rfl (by decide) (fun c_16 => absurd c_16 (Int32.not_lt.mpr hk.1)) (fun c_16 => ?_)
              refine a_iload_n 20 dX11_blinds_19 rfl rfl ?_
              refine a_iconst (3) 21 dX11_blinds_20 rfl (by decide) ?_
              refine a_icmp_le 27 24 dX11_blinds_21 rfl (by decide) (fun c_21 => ?_) (fun c_21 => absurd hk.2 c_21)
              refine a_iload_n 28 dX11_blinds_27 rfl rfl ?_
              refine a_iconst (-1) 29 dX11_blinds_28 rfl (by decide) ?_
              refine a_icmp_lt 37 32 dX11_blinds_29 rfl (by decide) (fun c_29 => absurd c_29 (Int32.not_lt.mpr hq.1)) (fun c_29 => ?_)
              refine a_iload_n 33 dX11_blinds_32 rfl rfl ?_
              refine a_iconst (2) 34 dX11_blinds_33 rfl (by decide) ?_
              refine a_icmp_le 39 37 dX11_blinds_34 rfl (by decide) (fun c_34 => ?_) (fun c_34 => absurd hq.2 c_34)
              refine a_aload_n 40 dX11_blinds_39 rfl rfl ?_
              refine a_get fd_X11_60 rfl 43 dX11_blinds_40 rfl (by repeat (first | assumption | (refine rg_ne (by first | decide | omega) ?_) | apply rg_eq | refine rg_fr (by assumption) (by first | decide | (simp; omega)) ?_)) rfl ?_
              refine a_aload_n 44 dX11_blinds_43 rfl rfl ?_
              refine a_get fd_X11_34 rfl 47 dX11_blinds_44 rfl (by repeat (first | assumption | (refine rg_ne (by first | decide | omega) ?_) | apply rg_eq | refine rg_fr (by assumption) (by first | decide | (simp; omega)) ?_)) rfl ?_
              refine a_callV ok_X0_begin ln_X11_282 in_X0_begin rfl 50 dX11_blinds_47 rfl (k_X0_begin o.1 hp1 hcc) (by repeat (first | assumption | (refine rg_ne (by first | decide | omega) ?_) | apply rg_eq | refine rg_fr (by assumption) (by first | decide | (simp; omega)) ?_)) rfl rfl rfl ⟨(Nat.le_of_ble_eq_true rfl), (Nat.le_of_ble_eq_true rfl)⟩ (Nat.le_of_ble_eq_true rfl) ⟨(Nat.le_of_ble_eq_true rfl), (Nat.le_of_ble_eq_true rfl)⟩ ?_
              rintro h2 _ ⟨rfl, ⟨ga, pl, li, al, bo, hp2, hI, ha0, hb0⟩, hf2⟩
              have qb := all_pl qa hp2 (fr_mono hf2 (by decide))
              have hy2 := qb.1.1
              have g172 := hp2.1
              have w2 := w1.kp (kp_fr hf2) (by decide) (by decide) (by decide)
              refine a_aload_n 51 dX11_blinds_50 rfl rfl ?_
              refine a_get fd_X11_60 rfl 54 dX11_blinds_51 rfl (by repeat (first | assumption | (refine rg_ne (by first | decide | omega) ?_) | apply rg_eq | refine rg_fr (by assumption) (by first | decide | (simp; omega)) ?_)) rfl ?_
              refine a_get fd_X11_286 rfl 57 dX11_blinds_54 rfl (by repeat (first | assumption | (refine rg_ne (by first | decide | omega) ?_) | apply rg_eq | refine rg_fr (by assumption) (by first | decide | (simp; omega)) ?_)) rfl ?_
              refine a_if_ne 63 60 dX11_blinds_57 rfl (by decide) (fun c_57 => ?_) (fun c_57 => absurd c_57 h0')
              refine a_aload_n 64 dX11_blinds_63 rfl rfl ?_
              refine a_aload 66 dX11_blinds_64 rfl rfl ?_
              refine a_callV ok_X11_fillPlan ln_X11_289 in_X11_fillPlan rfl 69 dX11_blinds_66 rfl (k_X11_fillPlan w2 o hgl hp2 hI ha0 hb0) (by repeat (first | assumption | (refine rg_ne (by first | decide | omega) ?_) | apply rg_eq | refine rg_fr (by assumption) (by first | decide | (simp; omega)) ?_)) rfl rfl rfl ⟨(Nat.le_of_ble_eq_true rfl), (Nat.le_of_ble_eq_true rfl)⟩ (Nat.le_of_ble_eq_true rfl) ⟨(Nat.le_of_ble_eq_true rfl), (Nat.le_of_ble_eq_true rfl)⟩ ?_
              rintro h3 _ ⟨rfl, ⟨al2, bo2, pa2, hp3, hal, hbo⟩, hf3⟩
              have qc := all_pl qb hp3 (fr_mono hf3 (by decide))
              have hy3 := qc.1.1
              have g173 := hp3.1
              have w3 := w2.kp (kp_fr hf3) (by decide) (by decide) (by decide)
              refine a_aload_n 70 dX11_blinds_69 rfl rfl ?_
              refine a_get fd_X11_60 rfl 73 dX11_blinds_70 rfl (by repeat (first | assumption | (refine rg_ne (by first | decide | omega) ?_) | apply rg_eq | refine rg_fr (by assumption) (by first | decide | (simp; omega)) ?_)) rfl ?_
              refine a_iload_n 74 dX11_blinds_73 rfl rfl ?_
              refine a_aload_n 75 dX11_blinds_74 rfl rfl ?_
              refine a_get fd_X11_60 rfl 78 dX11_blinds_75 rfl (by repeat (first | assumption | (refine rg_ne (by first | decide | omega) ?_) | apply rg_eq | refine rg_fr (by assumption) (by first | decide | (simp; omega)) ?_)) rfl ?_
              refine a_get fd_X11_286 rfl 81 dX11_blinds_78 rfl (by repeat (first | assumption | (refine rg_ne (by first | decide | omega) ?_) | apply rg_eq | refine rg_fr (by assumption) (by first | decide | (simp; omega)) ?_)) rfl ?_
              rw [show nI (rkP T.1 64) = nI (rkP T.1 64) from rfl]
              refine a_mmin lm_X11_293 rfl 84 dX11_blinds_81 rfl (Nat.le_of_ble_eq_true rfl) (Nat.le_of_ble_eq_true rfl) ⟨(Nat.le_of_ble_eq_true rfl), (Nat.le_of_ble_eq_true rfl)⟩ ?_
              rw [emn]
              refine a_callV ok_X0_search ln_X11_296 in_X0_search rfl 87 dX11_blinds_84 rfl (k_X0_search hp3 hr52 (by omega)) (by repeat (first | assumption | (refine rg_ne (by first | decide | omega) ?_) | apply rg_eq | refine rg_fr (by assumption) (by first | decide | (simp; omega)) ?_)) rfl rfl rfl ⟨(Nat.le_of_ble_eq_true rfl), (Nat.le_of_ble_eq_true rfl)⟩ (Nat.le_of_ble_eq_true rfl) ⟨(Nat.le_of_ble_eq_true rfl), (Nat.le_of_ble_eq_true rfl)⟩ ?_
              rintro h4 _ ⟨rfl, hp4, hf4⟩
              have qd := all_pl qc hp4 (fr_mono hf4 (by decide))
              have hy4 := qd.1.1
              have g174 := hp4.1
              have w4 := w3.kp (kp_fr hf4) (by decide) (by decide) (by decide)
              have kk := kp_mono (kp_fr (fr_trans (fr_trans (fr_trans (fr_mono hf1 (T := [17, 18, 19, 20, 21, 22, 23, 24, 25, 26]) (by decide)) hf2 (by decide)) hf3 (by decide)) hf4 (by decide))) (S' := cL) (by decide)
              refine a_iload_n 88 dX11_blinds_87 rfl rfl ?_
              refine a_iconst (-1) 89 dX11_blinds_88 rfl (by decide) ?_
              refine a_icmp_ne 107 92 dX11_blinds_89 rfl (by decide) (fun c_89 => ?_) (fun c_89 => absurd c_89 hq1)
              refine a_aload_n 108 dX11_blinds_107 rfl rfl ?_
              refine a_get fd_X11_60 rfl 111 dX11_blinds_108 rfl (by repeat (first | assumption | (refine rg_ne (by first | decide | omega) ?_) | apply rg_eq | refine rg_fr (by assumption) (by first | decide | (simp; omega)) ?_)) rfl ?_
              refine a_aload_n 112 dX11_blinds_111 rfl rfl ?_
              refine a_get fd_X11_34 rfl 115 dX11_blinds_112 rfl (by repeat (first | assumption | (refine rg_ne (by first | decide | omega) ?_) | apply rg_eq | refine rg_fr (by assumption) (by first | decide | (simp; omega)) ?_)) rfl ?_
              refine a_iload_n 116 dX11_blinds_115 rfl rfl ?_
              exact bl_tail (T := T) rfl w4 qd hp4 hj (sr1_ok hr52 _ _ _ (by omega) (Or.inl rfl)) hr52 kk (fun a ha => ea2 a ⟨ga, pl, li, al2, bo2, ch, sv, hI, hal, hbo, fun v => absurd v hq1, fun j2 hj2 hqj => by have e2 : j = j2 := (nI_eq (by omega) (by omega)).mp hqj; subst e2; exact ha⟩)
      · have ea2 : aBl T (nI z) k q (-1) := by rw [ea, if_pos hk, if_neg hq]
        refine rM_start (by decide) (Nat.le_of_ble_eq_true rfl) ?_
        refine a_aload_n 1 dX11_blinds_0 rfl rfl ?_
        refine a_iload_n 2 dX11_blinds_1 rfl rfl ?_
        refine a_callV ok_X11_weighedLaw ln_X11_217 in_X11_weighedLaw rfl 5 dX11_blinds_2 rfl (k_X11_weighedLaw q0.1 o q0.2.1 hz) (by repeat (first | assumption | (refine rg_ne (by first | decide | omega) ?_) | apply rg_eq | refine rg_fr (by assumption) (by first | decide | (simp; omega)) ?_)) rfl rfl rfl ⟨(Nat.le_of_ble_eq_true rfl), (Nat.le_of_ble_eq_true rfl)⟩ (Nat.le_of_ble_eq_true rfl) ⟨(Nat.le_of_ble_eq_true rfl), (Nat.le_of_ble_eq_true rfl)⟩ ?_
        rintro h1 _ ⟨rfl, w1, hf1⟩
        have qa := wg_all q0 w1 hf1
        have hy1 := qa.1.1
        refine a_astore 7 dX11_blinds_5 rfl (by decide) ?_
        refine a_aload 9 dX11_blinds_7 rfl rfl ?_
        refine a_ifnonnull 14 dX11_blinds_9 (by decide) ?_
        refine a_iload_n 15 dX11_blinds_14 rfl rfl ?_
        refine a_iconst (1) 16 dX11_blinds_15 rfl (by decide) ?_
        refine a_icmp_lt 24 19 dX11_blinds_16 rfl (by decide) (fun c_16 => absurd c_16 (Int32.not_lt.mpr hk.1)) (fun c_16 => ?_)
        refine a_iload_n 20 dX11_blinds_19 rfl rfl ?_
        refine a_iconst (3) 21 dX11_blinds_20 rfl (by decide) ?_
        refine a_icmp_le 27 24 dX11_blinds_21 rfl (by decide) (fun c_21 => ?_) (fun c_21 => absurd hk.2 c_21)
        refine a_iload_n 28 dX11_blinds_27 rfl rfl ?_
        refine a_iconst (-1) 29 dX11_blinds_28 rfl (by decide) ?_
        refine a_icmp_lt 37 32 dX11_blinds_29 rfl (by decide) (fun c_29 => ?_) (fun c_29 => ?_)
        · refine a_iconst (-1) 38 dX11_blinds_37 rfl (by decide) ?_
          exact a_ireturn dX11_blinds_38 rfl rfl (Nat.le_of_ble_eq_true rfl) (Nat.le_of_ble_eq_true rfl) ⟨_, rfl, ea2, qa, kp_mono (kp_fr hf1) (by decide)⟩
        · refine a_iload_n 33 dX11_blinds_32 rfl rfl ?_
          refine a_iconst (2) 34 dX11_blinds_33 rfl (by decide) ?_
          refine a_icmp_le 39 37 dX11_blinds_34 rfl (by decide) (fun c_34 => absurd (show _ ∧ _ from ⟨Int32.not_lt.mp c_29, c_34⟩) hq) (fun c_34 => ?_)
          refine a_iconst (-1) 38 dX11_blinds_37 rfl (by decide) ?_
          exact a_ireturn dX11_blinds_38 rfl rfl (Nat.le_of_ble_eq_true rfl) (Nat.le_of_ble_eq_true rfl) ⟨_, rfl, ea2, qa, kp_mono (kp_fr hf1) (by decide)⟩
    · have ea2 : aBl T (nI z) k q (-2) := by rw [ea, if_neg hk]
      refine rM_start (by decide) (Nat.le_of_ble_eq_true rfl) ?_
      refine a_aload_n 1 dX11_blinds_0 rfl rfl ?_
      refine a_iload_n 2 dX11_blinds_1 rfl rfl ?_
      refine a_callV ok_X11_weighedLaw ln_X11_217 in_X11_weighedLaw rfl 5 dX11_blinds_2 rfl (k_X11_weighedLaw q0.1 o q0.2.1 hz) (by repeat (first | assumption | (refine rg_ne (by first | decide | omega) ?_) | apply rg_eq | refine rg_fr (by assumption) (by first | decide | (simp; omega)) ?_)) rfl rfl rfl ⟨(Nat.le_of_ble_eq_true rfl), (Nat.le_of_ble_eq_true rfl)⟩ (Nat.le_of_ble_eq_true rfl) ⟨(Nat.le_of_ble_eq_true rfl), (Nat.le_of_ble_eq_true rfl)⟩ ?_
      rintro h1 _ ⟨rfl, w1, hf1⟩
      have qa := wg_all q0 w1 hf1
      have hy1 := qa.1.1
      refine a_astore 7 dX11_blinds_5 rfl (by decide) ?_
      refine a_aload 9 dX11_blinds_7 rfl rfl ?_
      refine a_ifnonnull 14 dX11_blinds_9 (by decide) ?_
      refine a_iload_n 15 dX11_blinds_14 rfl rfl ?_
      refine a_iconst (1) 16 dX11_blinds_15 rfl (by decide) ?_
      refine a_icmp_lt 24 19 dX11_blinds_16 rfl (by decide) (fun c_16 => ?_) (fun c_16 => ?_)
      · refine a_bipush (-2) 26 dX11_blinds_24 rfl (by decide) ?_
        exact a_ireturn dX11_blinds_26 rfl rfl (Nat.le_of_ble_eq_true rfl) (Nat.le_of_ble_eq_true rfl) ⟨_, rfl, ea2, qa, kp_mono (kp_fr hf1) (by decide)⟩
      · refine a_iload_n 20 dX11_blinds_19 rfl rfl ?_
        refine a_iconst (3) 21 dX11_blinds_20 rfl (by decide) ?_
        refine a_icmp_le 27 24 dX11_blinds_21 rfl (by decide) (fun c_21 => absurd (show _ ∧ _ from ⟨Int32.not_lt.mp c_16, c_21⟩) hk) (fun c_21 => ?_)
        refine a_bipush (-2) 26 dX11_blinds_24 rfl (by decide) ?_
        exact a_ireturn dX11_blinds_26 rfl rfl (Nat.le_of_ble_eq_true rfl) (Nat.le_of_ble_eq_true rfl) ⟨_, rfl, ea2, qa, kp_mono (kp_fr hf1) (by decide)⟩
end CBLINDS
