/-! THE MODEL's calls that set: move, one -/
section MSET2
variable {l : Launch} {G : rG} {h : rH} {T : Tn}
theorem mX_O {h' : rH} {i i' : Nat → Int32} {j : Nat → Int64} {O : OneT} (q : mX G h T i j) (hmo : moAt G h' i' j T.n O.1 O.2.1 O.2.2.1 O.2.2.2.1 O.2.2.2.2.1) (hm : T.m ≤ O.1) (hk : i' 0 = i 0 ∧ i' 39 = i 39 ∧ i' 1 = i 1 ∧ i' 2 = i 2 ∧ i' 3 = i 3 ∧ i' 20 = i 20 ∧ i' 23 = i 23) (hf : fr h h' [38, 45, 46, 47, 48]) : mX G h' (setO T O) i' j := by
  obtain ⟨k0, k39, k1, k2, k3, k20, k23⟩ := hk
  have e38 := hmo.1
  obtain ⟨⟨⟨fn, -, a2, a3, a4, a5, a6, a7, a8⟩, b1, b2, b3, b4, b5, ⟨s, b6, b7⟩, b8⟩, -, ⟨-, d2, d3, g5, d4, d5⟩, ⟨-, e2, e3, ⟨g6, e4, e5⟩, ⟨g7, e6, e7⟩⟩, q5, q6, q7, q8, q9⟩ := q
  have hp := kp_fr hf
  exact ⟨⟨⟨fn, e38, k2.trans a2, a3, rg_fr hf (by decide) a4, a5, rg_fr hf (by decide) a6, rg_fr hf (by decide) a7, a8⟩, b1, by rw [k1, k2]; exact b2, k3.trans b3, rg_fr hf (by decide) b4, b5, ⟨s, rg_fr hf (by decide) b6, b7⟩, b8⟩, hmo, ⟨e38, k20.trans d2, d3, g5, rg_fr hf (by decide) d4, d5⟩, ⟨e38, k23.trans e2, e3, ⟨g6, rg_fr hf (by decide) e4, e5⟩, ⟨g7, rg_fr hf (by decide) e6, fun p hp => ⟨(e7 p hp).1, Nat.lt_of_lt_of_le (e7 p hp).2 hm⟩⟩⟩, q5.kp hp (by decide), q6.kp hp (by decide), k0.trans q7, k39.trans q8, k1.trans q9⟩
theorem sit_lt0 (o : T.ok) {k : Nat} : noI (sitT T k) < 0 ↔ sitT T k = none := noI_lt0 (fun x hx => by have := firstN_spec hx; have := o.m12; omega)
set_option maxRecDepth 100000 in
set_option maxHeartbeats 400000 in
theorem m_move (q : mAll G h T) (o : T.ok) (c d : Int32) : rM l G 12 mX12_move 0 0 [.ref (gN G + 38), .int c, .int d] h (fun h' v => v = some (.int (aMove T c d)) ∧ mAll G h' (tMove T c d) ∧ kp h h' mL) := by
  obtain ⟨i, j, q⟩ := q
  have hn := o.n32
  have hm12 := o.m12
  have hm := q.at
  rcases oT_cases (n := T.m) (by omega) c with ⟨e, hc⟩ | ⟨x, hx, rfl, e⟩
  · have ea : aMove T c d = -1 := by unfold aMove; rw [e]
    have et : tMove T c d = T := by unfold tMove; rw [e]
    refine rM_start (by decide) (Nat.le_of_ble_eq_true rfl) ?_
    refine a_aload_n 1 dX12_move_0 rfl rfl ?_
    refine a_iload_n 2 dX12_move_1 rfl rfl ?_
    refine a_callV ok_X12_noOne ln_X12_194 in_X12_noOne rfl 5 dX12_move_2 rfl (m_noOne q c) (by repeat (first | assumption | (refine rg_ne (by first | decide | omega) ?_) | apply rg_eq | refine rg_fr (by assumption) (by first | decide | (simp; omega)) ?_)) rfl rfl rfl ⟨(Nat.le_of_ble_eq_true rfl), (Nat.le_of_ble_eq_true rfl)⟩ (Nat.le_of_ble_eq_true rfl) ⟨(Nat.le_of_ble_eq_true rfl), (Nat.le_of_ble_eq_true rfl)⟩ ?_
    rintro _ _ ⟨rfl, rfl⟩
    refine a_if_ne 16 8 dX12_move_5 rfl (by decide) (fun c_5 => ?_) (fun c_5 => absurd c_5 (by rw [if_neg hc]; decide))
    refine a_iconst (-1) 17 dX12_move_16 rfl (by decide) ?_
    exact a_ireturn dX12_move_17 rfl rfl (Nat.le_of_ble_eq_true rfl) (Nat.le_of_ble_eq_true rfl) ⟨by rw [ea], by rw [et]; exact ⟨i, j, q⟩, fun _ _ _ => rfl⟩
  · rcases oT_cases (n := T.n) (Nat.lt_of_le_of_lt hn (by decide)) d with ⟨e2, hd⟩ | ⟨k, hk, rfl, e2⟩
    · have ea : aMove T (nI x) d = -1 := by unfold aMove; rw [e, e2]
      have et : tMove T (nI x) d = T := by unfold tMove; rw [e, e2]
      refine rM_start (by decide) (Nat.le_of_ble_eq_true rfl) ?_
      refine a_aload_n 1 dX12_move_0 rfl rfl ?_
      refine a_iload_n 2 dX12_move_1 rfl rfl ?_
      refine a_callV ok_X12_noOne ln_X12_194 in_X12_noOne rfl 5 dX12_move_2 rfl (m_noOne q (nI x)) (by repeat (first | assumption | (refine rg_ne (by first | decide | omega) ?_) | apply rg_eq | refine rg_fr (by assumption) (by first | decide | (simp; omega)) ?_)) rfl rfl rfl ⟨(Nat.le_of_ble_eq_true rfl), (Nat.le_of_ble_eq_true rfl)⟩ (Nat.le_of_ble_eq_true rfl) ⟨(Nat.le_of_ble_eq_true rfl), (Nat.le_of_ble_eq_true rfl)⟩ ?_
      rintro _ _ ⟨rfl, rfl⟩
      refine a_if_ne 16 8 dX12_move_5 rfl (by decide) (fun c_5 => absurd (if_pos (oT_yes hx (by omega))) c_5) (fun c_5 => ?_)
      refine a_aload_n 9 dX12_move_8 rfl rfl ?_
      refine a_iload_n 10 dX12_move_9 rfl rfl ?_
      refine a_callV ok_X12_noSeat ln_X12_175 in_X12_noSeat rfl 13 dX12_move_10 rfl (m_noSeat q d) (by repeat (first | assumption | (refine rg_ne (by first | decide | omega) ?_) | apply rg_eq | refine rg_fr (by assumption) (by first | decide | (simp; omega)) ?_)) rfl rfl rfl ⟨(Nat.le_of_ble_eq_true rfl), (Nat.le_of_ble_eq_true rfl)⟩ (Nat.le_of_ble_eq_true rfl) ⟨(Nat.le_of_ble_eq_true rfl), (Nat.le_of_ble_eq_true rfl)⟩ ?_
      rintro _ _ ⟨rfl, rfl⟩
      refine a_if_eq 18 16 dX12_move_13 rfl (by decide) (fun c_13 => absurd c_13 (by rw [if_neg hd]; decide)) (fun c_13 => ?_)
      refine a_iconst (-1) 17 dX12_move_16 rfl (by decide) ?_
      exact a_ireturn dX12_move_17 rfl rfl (Nat.le_of_ble_eq_true rfl) (Nat.le_of_ble_eq_true rfl) ⟨by rw [ea], by rw [et]; exact ⟨i, j, q⟩, fun _ _ _ => rfl⟩
    · have hk32 : k < 32 := Nat.lt_of_lt_of_le hk hn
      have ea : aMove T (nI x) (nI k) = if sitT T k = none then nI (T.se x) else -3 := by unfold aMove; rw [e, e2]
      have et : tMove T (nI x) (nI k) = if sitT T k = none then setO T (T.m, T.kd, (fun y => if y = x then k else T.se y), T.sl, T.ki, T.pa) else T := by unfold tMove; rw [e, e2]
      have hwho := k_X12_whoOn (l := l) hn q.2.1 hk32
      have hs0 := sit_lt0 o (k := k)
      by_cases hs : sitT T k = none
      · rw [if_pos hs] at ea et
        obtain ⟨o1, o2, o3, o4, ⟨f5, q5, q5'⟩, o6⟩ := id q.2.1
        have vx : vp_in (nI x) 12 := vp_in_nI (by omega) (by decide)
        have ex : (nI x).toNatClampNeg = x := nI_clamp (by omega)
        have e5 := (q5' x hx).1
        have hf : fr h (h.set 46 (.inl (gA G 0, 12, .inl (upd f5 (nI x).toNatClampNeg (nI k))))) [38, 45, 46, 47, 48] := fr_set (fr_refl _ _) (by decide)
        have hmo : moAt G (h.set 46 (.inl (gA G 0, 12, .inl (upd f5 (nI x).toNatClampNeg (nI k))))) i j T.n T.m T.kd (fun y => if y = x then k else T.se y) T.sl T.ki := by
          obtain ⟨f4, p4, p4'⟩ := o4
          obtain ⟨⟨f6, p6, p6'⟩, ⟨f7, p7, p7'⟩⟩ := o6
          refine ⟨rg_ne (by decide) o1, o2, o3, ⟨f4, rg_ne (by decide) p4, p4'⟩, ⟨_, rg_eq q5, fun y hy => ?_⟩, ⟨f6, rg_ne (by decide) p6, p6'⟩, ⟨f7, rg_ne (by decide) p7, p7'⟩⟩
          rw [ex]
          dsimp only
          by_cases ey : y = x
          · subst ey; rw [pk_us, if_pos rfl]; exact ⟨rfl, hk⟩
          · rw [pk_un ey, if_neg ey]; exact q5' y hy
        have q2 := mX_O (O := (T.m, T.kd, (fun y => if y = x then k else T.se y), T.sl, T.ki, T.pa)) q hmo (Nat.le_refl _) ⟨rfl, rfl, rfl, rfl, rfl, rfl, rfl⟩ hf
        refine rM_start (by decide) (Nat.le_of_ble_eq_true rfl) ?_
        refine a_aload_n 1 dX12_move_0 rfl rfl ?_
        refine a_iload_n 2 dX12_move_1 rfl rfl ?_
        refine a_callV ok_X12_noOne ln_X12_194 in_X12_noOne rfl 5 dX12_move_2 rfl (m_noOne q (nI x)) (by repeat (first | assumption | (refine rg_ne (by first | decide | omega) ?_) | apply rg_eq | refine rg_fr (by assumption) (by first | decide | (simp; omega)) ?_)) rfl rfl rfl ⟨(Nat.le_of_ble_eq_true rfl), (Nat.le_of_ble_eq_true rfl)⟩ (Nat.le_of_ble_eq_true rfl) ⟨(Nat.le_of_ble_eq_true rfl), (Nat.le_of_ble_eq_true rfl)⟩ ?_
        rintro _ _ ⟨rfl, rfl⟩
        refine a_if_ne 16 8 dX12_move_5 rfl (by decide) (fun c_5 => absurd (if_pos (oT_yes hx (by omega))) c_5) (fun c_5 => ?_)
        refine a_aload_n 9 dX12_move_8 rfl rfl ?_
        refine a_iload_n 10 dX12_move_9 rfl rfl ?_
        refine a_callV ok_X12_noSeat ln_X12_175 in_X12_noSeat rfl 13 dX12_move_10 rfl (m_noSeat q (nI k)) (by repeat (first | assumption | (refine rg_ne (by first | decide | omega) ?_) | apply rg_eq | refine rg_fr (by assumption) (by first | decide | (simp; omega)) ?_)) rfl rfl rfl ⟨(Nat.le_of_ble_eq_true rfl), (Nat.le_of_ble_eq_true rfl)⟩ (Nat.le_of_ble_eq_true rfl) ⟨(Nat.le_of_ble_eq_true rfl), (Nat.le_of_ble_eq_true rfl)⟩ ?_
        rintro _ _ ⟨rfl, rfl⟩
        refine a_if_eq 18 16 dX12_move_13 rfl (by decide) (fun c_13 => ?_) (fun c_13 => absurd (if_pos (oT_yes hk (Nat.lt_of_le_of_lt hn (by decide)))) c_13)
        refine a_aload_n 19 dX12_move_18 rfl rfl ?_
        refine a_iload_n 20 dX12_move_19 rfl rfl ?_
        refine a_callV ok_X12_whoOn ln_X12_182 in_X12_whoOn rfl 23 dX12_move_20 rfl (hwho) (by repeat (first | assumption | (refine rg_ne (by first | decide | omega) ?_) | apply rg_eq | refine rg_fr (by assumption) (by first | decide | (simp; omega)) ?_)) rfl rfl rfl ⟨(Nat.le_of_ble_eq_true rfl), (Nat.le_of_ble_eq_true rfl)⟩ (Nat.le_of_ble_eq_true rfl) ⟨(Nat.le_of_ble_eq_true rfl), (Nat.le_of_ble_eq_true rfl)⟩ ?_
        rintro _ _ ⟨rfl, rfl⟩
        refine a_if_lt 29 26 dX12_move_23 rfl (by decide) (fun c_23 => ?_) (fun c_23 => absurd (hs0.mpr hs) c_23)
        refine a_aload_n 30 dX12_move_29 rfl rfl ?_
        refine a_get fd_X12_32 rfl 33 dX12_move_30 rfl (by repeat (first | assumption | (refine rg_ne (by first | decide | omega) ?_) | apply rg_eq | refine rg_fr (by assumption) (by first | decide | (simp; omega)) ?_)) rfl ?_
        refine a_iload_n 34 dX12_move_33 rfl rfl ?_
        refine a_iaload 35 dX12_move_34 rfl (by repeat (first | assumption | (refine rg_ne (by first | decide | omega) ?_) | apply rg_eq | refine rg_fr (by assumption) (by first | decide | (simp; omega)) ?_)) vx ?_
        rw [ex, e5]
        refine a_istore_n 36 dX12_move_35 rfl (by decide) ?_
        refine a_aload_n 37 dX12_move_36 rfl rfl ?_
        refine a_get fd_X12_32 rfl 40 dX12_move_37 rfl (by repeat (first | assumption | (refine rg_ne (by first | decide | omega) ?_) | apply rg_eq | refine rg_fr (by assumption) (by first | decide | (simp; omega)) ?_)) rfl ?_
        refine a_iload_n 41 dX12_move_40 rfl rfl ?_
        refine a_iload_n 42 dX12_move_41 rfl rfl ?_
        refine a_iastore 43 dX12_move_42 rfl (by repeat (first | assumption | (refine rg_ne (by first | decide | omega) ?_) | apply rg_eq | refine rg_fr (by assumption) (by first | decide | (simp; omega)) ?_)) vx ?_
        refine a_iload_n 44 dX12_move_43 rfl rfl ?_
        exact a_ireturn dX12_move_44 rfl rfl (Nat.le_of_ble_eq_true rfl) (Nat.le_of_ble_eq_true rfl) ⟨by rw [ea], by rw [et]; exact ⟨i, j, q2⟩, kpm (fr_set (S := [46]) (fr_refl _ _) (by decide)) (by decide)⟩
      · rw [if_neg hs] at ea et
        refine rM_start (by decide) (Nat.le_of_ble_eq_true rfl) ?_
        refine a_aload_n 1 dX12_move_0 rfl rfl ?_
        refine a_iload_n 2 dX12_move_1 rfl rfl ?_
        refine a_callV ok_X12_noOne ln_X12_194 in_X12_noOne rfl 5 dX12_move_2 rfl (m_noOne q (nI x)) (by repeat (first | assumption | (refine rg_ne (by first | decide | omega) ?_) | apply rg_eq | refine rg_fr (by assumption) (by first | decide | (simp; omega)) ?_)) rfl rfl rfl ⟨(Nat.le_of_ble_eq_true rfl), (Nat.le_of_ble_eq_true rfl)⟩ (Nat.le_of_ble_eq_true rfl) ⟨(Nat.le_of_ble_eq_true rfl), (Nat.le_of_ble_eq_true rfl)⟩ ?_
        rintro _ _ ⟨rfl, rfl⟩
        refine a_if_ne 16 8 dX12_move_5 rfl (by decide) (fun c_5 => absurd (if_pos (oT_yes hx (by omega))) c_5) (fun c_5 => ?_)
        refine a_aload_n 9 dX12_move_8 rfl rfl ?_
        refine a_iload_n 10 dX12_move_9 rfl rfl ?_
        refine a_callV ok_X12_noSeat ln_X12_175 in_X12_noSeat rfl 13 dX12_move_10 rfl (m_noSeat q (nI k)) (by repeat (first | assumption | (refine rg_ne (by first | decide | omega) ?_) | apply rg_eq | refine rg_fr (by assumption) (by first | decide | (simp; omega)) ?_)) rfl rfl rfl ⟨(Nat.le_of_ble_eq_true rfl), (Nat.le_of_ble_eq_true rfl)⟩ (Nat.le_of_ble_eq_true rfl) ⟨(Nat.le_of_ble_eq_true rfl), (Nat.le_of_ble_eq_true rfl)⟩ ?_
        rintro _ _ ⟨rfl, rfl⟩
        refine a_if_eq 18 16 dX12_move_13 rfl (by decide) (fun c_13 => ?_) (fun c_13 => absurd (if_pos (oT_yes hk (Nat.lt_of_le_of_lt hn (by decide)))) c_13)
        refine a_aload_n 19 dX12_move_18 rfl rfl ?_
        refine a_iload_n 20 dX12_move_19 rfl rfl ?_
        refine a_callV ok_X12_whoOn ln_X12_182 in_X12_whoOn rfl 23 dX12_move_20 rfl (hwho) (by repeat (first | assumption | (refine rg_ne (by first | decide | omega) ?_) | apply rg_eq | refine rg_fr (by assumption) (by first | decide | (simp; omega)) ?_)) rfl rfl rfl ⟨(Nat.le_of_ble_eq_true rfl), (Nat.le_of_ble_eq_true rfl)⟩ (Nat.le_of_ble_eq_true rfl) ⟨(Nat.le_of_ble_eq_true rfl), (Nat.le_of_ble_eq_true rfl)⟩ ?_
        rintro _ _ ⟨rfl, rfl⟩
        refine a_if_lt 29 26 dX12_move_23 rfl (by decide) (fun c_23 => absurd c_23 (fun v => hs (hs0.mp v))) (fun c_23 => ?_)
        refine a_bipush (-3) 28 dX12_move_26 rfl (by decide) ?_
        exact a_ireturn dX12_move_28 rfl rfl (Nat.le_of_ble_eq_true rfl) (Nat.le_of_ble_eq_true rfl) ⟨by rw [ea], by rw [et]; exact ⟨i, j, q⟩, fun _ _ _ => rfl⟩
theorem in9 (c : Int32) : ((0 : Int64) ≤ c.toInt64 ∧ c.toInt64 ≤ 9) ↔ (0 ≤ c ∧ c ≤ 9) := by
  rw [in64c c 9 (by decide) rfl, isD_10]
set_option maxRecDepth 100000 in
set_option maxHeartbeats 400000 in
theorem m_one (q : mAll G h T) (o : T.ok) (hl : Nat) (k c s a : Int32) : rM l G 12 mX12_one 0 0 [.ref (gN G + 38), .int k, .int c, .int s, .int a] h (fun h' v => v = some (.int (aOne T k c s a)) ∧ mAll G h' (tOne T k c s a hl) ∧ kp h h' mL) := by
  obtain ⟨i, j, q⟩ := q
  have hn := o.n32
  have hm12 := o.m12
  have hm := q.at
  have e15 := q.2.1.2.1
  rcases oT_cases (n := T.n) (Nat.lt_of_le_of_lt hn (by decide)) c with ⟨e, hc⟩ | ⟨x, hx, rfl, e⟩
  · have ea : aOne T k c s a = -1 := by unfold aOne; rw [e]
    have et : tOne T k c s a hl = T := by unfold tOne; rw [e]
    refine rM_start (by decide) (Nat.le_of_ble_eq_true rfl) ?_
    refine a_aload_n 1 dX12_one_0 rfl rfl ?_
    refine a_iload_n 2 dX12_one_1 rfl rfl ?_
    refine a_callV ok_X12_noSeat ln_X12_175 in_X12_noSeat rfl 5 dX12_one_2 rfl (m_noSeat q c) (by repeat (first | assumption | (refine rg_ne (by first | decide | omega) ?_) | apply rg_eq | refine rg_fr (by assumption) (by first | decide | (simp; omega)) ?_)) rfl rfl rfl ⟨(Nat.le_of_ble_eq_true rfl), (Nat.le_of_ble_eq_true rfl)⟩ (Nat.le_of_ble_eq_true rfl) ⟨(Nat.le_of_ble_eq_true rfl), (Nat.le_of_ble_eq_true rfl)⟩ ?_
    rintro _ _ ⟨rfl, rfl⟩
    refine a_if_eq 10 8 dX12_one_5 rfl (by decide) (fun c_5 => absurd c_5 (by rw [if_neg hc]; decide)) (fun c_5 => ?_)
    refine a_iconst (-1) 9 dX12_one_8 rfl (by decide) ?_
    exact a_ireturn dX12_one_9 rfl rfl (Nat.le_of_ble_eq_true rfl) (Nat.le_of_ble_eq_true rfl) ⟨by rw [ea], by rw [et]; exact ⟨i, j, q⟩, fun _ _ _ => rfl⟩
  · have hx32 : x < 32 := Nat.lt_of_lt_of_le hx hn
    have ik := in02 k
    have is := in9 s
    have ia := in9 a
    by_cases hv : (0 ≤ k ∧ k ≤ 2) ∧ (0 ≤ s ∧ s ≤ 9) ∧ (0 ≤ a ∧ a ≤ 9)
    · obtain ⟨v1, v2, v3⟩ := hv
      rcases oT_cases (n := 3) (by decide) k with ⟨-, hc⟩ | ⟨k, hk, rfl, ek⟩
      · exact absurd (isK_3.mp v1) hc
      rcases oT_cases (n := 10) (by decide) s with ⟨-, hc⟩ | ⟨s, hsl, rfl, es2⟩
      · exact absurd (isD_10.mp v2) hc
      rcases oT_cases (n := 10) (by decide) a with ⟨-, hc⟩ | ⟨a, hil, rfl, ei⟩
      · exact absurd (isD_10.mp v3) hc
      have ea : aOne T (nI k) (nI x) (nI s) (nI a) = if sitT T x = none then (if T.m = 12 then -4 else nI T.m) else -3 := by unfold aOne; rw [e, ek, es2, ei]
      have et : tOne T (nI k) (nI x) (nI s) (nI a) hl = if sitT T x = none then (if T.m = 12 then T else newOne T k x s a hl) else T := by unfold tOne; rw [e, ek, es2, ei]
      have hwho := k_X12_whoOn (l := l) hn q.2.1 hx32
      have hs0 := sit_lt0 o (k := x)
      have hb := (if_pos (oT_yes hx (Nat.lt_of_le_of_lt hn (by decide))) : (if 0 ≤ nI x ∧ nI x < nI T.n then (0 : Int32) else 1) = 0)
      by_cases hs : sitT T x = none
      · rw [if_pos hs] at ea et
        have h12 : i 15 = 12 ↔ T.m = 12 := by rw [e15, show (12 : Int32) = nI 12 from rfl]; exact nI_eq (by omega) (by omega)
        by_cases hm2 : T.m = 12
        · rw [if_pos hm2] at ea et
          refine rM_start (by decide) (Nat.le_of_ble_eq_true rfl) ?_
          refine a_aload_n 1 dX12_one_0 rfl rfl ?_
          refine a_iload_n 2 dX12_one_1 rfl rfl ?_
          refine a_callV ok_X12_noSeat ln_X12_175 in_X12_noSeat rfl 5 dX12_one_2 rfl (m_noSeat q (nI x)) (by repeat (first | assumption | (refine rg_ne (by first | decide | omega) ?_) | apply rg_eq | refine rg_fr (by assumption) (by first | decide | (simp; omega)) ?_)) rfl rfl rfl ⟨(Nat.le_of_ble_eq_true rfl), (Nat.le_of_ble_eq_true rfl)⟩ (Nat.le_of_ble_eq_true rfl) ⟨(Nat.le_of_ble_eq_true rfl), (Nat.le_of_ble_eq_true rfl)⟩ ?_
          rintro _ _ ⟨rfl, rfl⟩
          refine a_if_eq 10 8 dX12_one_5 rfl (by decide) (fun c_5 => ?_) (fun c_5 => absurd hb c_5)
          refine a_iload_n 11 dX12_one_10 rfl rfl ?_
          refine a_i2l 12 dX12_one_11 rfl ?_
          refine a_lconst (0) 13 dX12_one_12 rfl (by decide) ?_
          refine a_ldc2 (2) 16 dX12_one_13 rfl lk_X12_95 ?_
          refine a_callS ok_X12_in ln_X12_97 is_X12_in rfl 19 dX12_one_16 rfl (k_X12_in _ _ _) rfl rfl ⟨(Nat.le_of_ble_eq_true rfl), (Nat.le_of_ble_eq_true rfl)⟩ (Nat.le_of_ble_eq_true rfl) ⟨(Nat.le_of_ble_eq_true rfl), (Nat.le_of_ble_eq_true rfl)⟩ ?_
          rintro _ _ ⟨rfl, rfl⟩
          refine a_if_eq 47 22 dX12_one_19 rfl (by decide) (fun c_19 => absurd c_19 (by rw [if_pos (ik.mpr v1)]; decide)) (fun c_19 => ?_)
          refine a_iload_n 23 dX12_one_22 rfl rfl ?_
          refine a_i2l 24 dX12_one_23 rfl ?_
          refine a_lconst (0) 25 dX12_one_24 rfl (by decide) ?_
          refine a_ldc2 (9) 28 dX12_one_25 rfl lk_X12_192 ?_
          refine a_callS ok_X12_in ln_X12_97 is_X12_in rfl 31 dX12_one_28 rfl (k_X12_in _ _ _) rfl rfl ⟨(Nat.le_of_ble_eq_true rfl), (Nat.le_of_ble_eq_true rfl)⟩ (Nat.le_of_ble_eq_true rfl) ⟨(Nat.le_of_ble_eq_true rfl), (Nat.le_of_ble_eq_true rfl)⟩ ?_
          rintro _ _ ⟨rfl, rfl⟩
          refine a_if_eq 47 34 dX12_one_31 rfl (by decide) (fun c_31 => absurd c_31 (by rw [if_pos (is.mpr v2)]; decide)) (fun c_31 => ?_)
          refine a_iload 36 dX12_one_34 rfl rfl ?_
          refine a_i2l 37 dX12_one_36 rfl ?_
          refine a_lconst (0) 38 dX12_one_37 rfl (by decide) ?_
          refine a_ldc2 (9) 41 dX12_one_38 rfl lk_X12_192 ?_
          refine a_callS ok_X12_in ln_X12_97 is_X12_in rfl 44 dX12_one_41 rfl (k_X12_in _ _ _) rfl rfl ⟨(Nat.le_of_ble_eq_true rfl), (Nat.le_of_ble_eq_true rfl)⟩ (Nat.le_of_ble_eq_true rfl) ⟨(Nat.le_of_ble_eq_true rfl), (Nat.le_of_ble_eq_true rfl)⟩ ?_
          rintro _ _ ⟨rfl, rfl⟩
          refine a_if_ne 50 47 dX12_one_44 rfl (by decide) (fun c_44 => ?_) (fun c_44 => absurd c_44 (by rw [if_pos (ia.mpr v3)]; decide))
          refine a_aload_n 51 dX12_one_50 rfl rfl ?_
          refine a_iload_n 52 dX12_one_51 rfl rfl ?_
          refine a_callV ok_X12_whoOn ln_X12_182 in_X12_whoOn rfl 55 dX12_one_52 rfl (hwho) (by repeat (first | assumption | (refine rg_ne (by first | decide | omega) ?_) | apply rg_eq | refine rg_fr (by assumption) (by first | decide | (simp; omega)) ?_)) rfl rfl rfl ⟨(Nat.le_of_ble_eq_true rfl), (Nat.le_of_ble_eq_true rfl)⟩ (Nat.le_of_ble_eq_true rfl) ⟨(Nat.le_of_ble_eq_true rfl), (Nat.le_of_ble_eq_true rfl)⟩ ?_
          rintro _ _ ⟨rfl, rfl⟩
          refine a_if_lt 61 58 dX12_one_55 rfl (by decide) (fun c_55 => ?_) (fun c_55 => absurd (hs0.mpr hs) c_55)
          refine a_aload_n 62 dX12_one_61 rfl rfl ?_
          refine a_get fd_X12_160 rfl 65 dX12_one_62 rfl (by repeat (first | assumption | (refine rg_ne (by first | decide | omega) ?_) | apply rg_eq | refine rg_fr (by assumption) (by first | decide | (simp; omega)) ?_)) rfl ?_
          refine a_bipush (12) 67 dX12_one_65 rfl (by decide) ?_
          refine a_icmp_ne 73 70 dX12_one_67 rfl (by decide) (fun c_67 => absurd (h12.mpr hm2) c_67) (fun c_67 => ?_)
          refine a_bipush (-4) 72 dX12_one_70 rfl (by decide) ?_
          exact a_ireturn dX12_one_72 rfl rfl (Nat.le_of_ble_eq_true rfl) (Nat.le_of_ble_eq_true rfl) ⟨by rw [ea], by rw [et]; exact ⟨i, j, q⟩, fun _ _ _ => rfl⟩
        · rw [if_neg hm2] at ea et
          obtain ⟨o1, o2, o3, ⟨f4, p4, p4'⟩, ⟨f5, p5, p5'⟩, ⟨f6, p6, p6'⟩, ⟨f7, p7, p7'⟩⟩ := id q.2.1
          have vm : vp_in (i 15) 12 := by rw [e15]; exact vp_in_nI (by omega) (by decide)
          have em : (i 15).toNatClampNeg = T.m := by rw [e15]; exact nI_clamp (by omega)
          have es : i 15 + 1 = nI (T.m + 1) := by rw [e15]; exact nI_1 _
          have hfin : ∀ {h2 : rH}, h2[38]? = some (mo G (upd i 15 (nI (T.m + 1))) j) → h2[45]? = some (.inl (gA G 0, 12, .inl (upd f4 (i 15).toNatClampNeg (nI k)))) → h2[46]? = some (.inl (gA G 0, 12, .inl (upd f5 (i 15).toNatClampNeg (nI x)))) → h2[47]? = some (.inl (gA G 0, 12, .inl (upd f6 (i 15).toNatClampNeg (nI s)))) → h2[48]? = some (.inl (gA G 0, 12, .inl (upd f7 (i 15).toNatClampNeg (nI a)))) → fr h h2 [38, 45, 46, 47, 48] → mX G h2 (newOne T k x s a hl) (upd i 15 (nI (T.m + 1))) j := by
            intro h2 r38 r45 r46 r47 r48 hf
            rw [em] at r45 r46 r47 r48
            exact mX_O (O := (newOne T k x s a hl).2.1) q ⟨r38, rfl, by show T.m + 1 ≤ 12; omega, ⟨_, r45, yaw_f p4' hk⟩, ⟨_, r46, yaw_f p5' hx⟩, ⟨_, r47, yaw_f p6' hsl⟩, ⟨_, r48, yaw_f p7' hil⟩⟩ (Nat.le_succ _) ⟨rfl, rfl, rfl, rfl, rfl, rfl, rfl⟩ hf
          refine rM_start (by decide) (Nat.le_of_ble_eq_true rfl) ?_
          refine a_aload_n 1 dX12_one_0 rfl rfl ?_
          refine a_iload_n 2 dX12_one_1 rfl rfl ?_
          refine a_callV ok_X12_noSeat ln_X12_175 in_X12_noSeat rfl 5 dX12_one_2 rfl (m_noSeat q (nI x)) (by repeat (first | assumption | (refine rg_ne (by first | decide | omega) ?_) | apply rg_eq | refine rg_fr (by assumption) (by first | decide | (simp; omega)) ?_)) rfl rfl rfl ⟨(Nat.le_of_ble_eq_true rfl), (Nat.le_of_ble_eq_true rfl)⟩ (Nat.le_of_ble_eq_true rfl) ⟨(Nat.le_of_ble_eq_true rfl), (Nat.le_of_ble_eq_true rfl)⟩ ?_
          rintro _ _ ⟨rfl, rfl⟩
          refine a_if_eq 10 8 dX12_one_5 rfl (by decide) (fun c_5 => ?_) (fun c_5 => absurd hb c_5)
          refine a_iload_n 11 dX12_one_10 rfl rfl ?_
          refine a_i2l 12 dX12_one_11 rfl ?_
          refine a_lconst (0) 13 dX12_one_12 rfl (by decide) ?_
          refine a_ldc2 (2) 16 dX12_one_13 rfl lk_X12_95 ?_
          refine a_callS ok_X12_in ln_X12_97 is_X12_in rfl 19 dX12_one_16 rfl (k_X12_in _ _ _) rfl rfl ⟨(Nat.le_of_ble_eq_true rfl), (Nat.le_of_ble_eq_true rfl)⟩ (Nat.le_of_ble_eq_true rfl) ⟨(Nat.le_of_ble_eq_true rfl), (Nat.le_of_ble_eq_true rfl)⟩ ?_
          rintro _ _ ⟨rfl, rfl⟩
          refine a_if_eq 47 22 dX12_one_19 rfl (by decide) (fun c_19 => absurd c_19 (by rw [if_pos (ik.mpr v1)]; decide)) (fun c_19 => ?_)
          refine a_iload_n 23 dX12_one_22 rfl rfl ?_
          refine a_i2l 24 dX12_one_23 rfl ?_
          refine a_lconst (0) 25 dX12_one_24 rfl (by decide) ?_
          refine a_ldc2 (9) 28 dX12_one_25 rfl lk_X12_192 ?_
          refine a_callS ok_X12_in ln_X12_97 is_X12_in rfl 31 dX12_one_28 rfl (k_X12_in _ _ _) rfl rfl ⟨(Nat.le_of_ble_eq_true rfl), (Nat.le_of_ble_eq_true rfl)⟩ (Nat.le_of_ble_eq_true rfl) ⟨(Nat.le_of_ble_eq_true rfl), (Nat.le_of_ble_eq_true rfl)⟩ ?_
          rintro _ _ ⟨rfl, rfl⟩
          refine a_if_eq 47 34 dX12_one_31 rfl (by decide) (fun c_31 => absurd c_31 (by rw [if_pos (is.mpr v2)]; decide)) (fun c_31 => ?_)
          refine a_iload 36 dX12_one_34 rfl rfl ?_
          refine a_i2l 37 dX12_one_36 rfl ?_
          refine a_lconst (0) 38 dX12_one_37 rfl (by decide) ?_
          refine a_ldc2 (9) 41 dX12_one_38 rfl lk_X12_192 ?_
          refine a_callS ok_X12_in ln_X12_97 is_X12_in rfl 44 dX12_one_41 rfl (k_X12_in _ _ _) rfl rfl ⟨(Nat.le_of_ble_eq_true rfl), (Nat.le_of_ble_eq_true rfl)⟩ (Nat.le_of_ble_eq_true rfl) ⟨(Nat.le_of_ble_eq_true rfl), (Nat.le_of_ble_eq_true rfl)⟩ ?_
          rintro _ _ ⟨rfl, rfl⟩
          refine a_if_ne 50 47 dX12_one_44 rfl (by decide) (fun c_44 => ?_) (fun c_44 => absurd c_44 (by rw [if_pos (ia.mpr v3)]; decide))
          refine a_aload_n 51 dX12_one_50 rfl rfl ?_
          refine a_iload_n 52 dX12_one_51 rfl rfl ?_
          refine a_callV ok_X12_whoOn ln_X12_182 in_X12_whoOn rfl 55 dX12_one_52 rfl (hwho) (by repeat (first | assumption | (refine rg_ne (by first | decide | omega) ?_) | apply rg_eq | refine rg_fr (by assumption) (by first | decide | (simp; omega)) ?_)) rfl rfl rfl ⟨(Nat.le_of_ble_eq_true rfl), (Nat.le_of_ble_eq_true rfl)⟩ (Nat.le_of_ble_eq_true rfl) ⟨(Nat.le_of_ble_eq_true rfl), (Nat.le_of_ble_eq_true rfl)⟩ ?_
          rintro _ _ ⟨rfl, rfl⟩
          refine a_if_lt 61 58 dX12_one_55 rfl (by decide) (fun c_55 => ?_) (fun c_55 => absurd (hs0.mpr hs) c_55)
          refine a_aload_n 62 dX12_one_61 rfl rfl ?_
          refine a_get fd_X12_160 rfl 65 dX12_one_62 rfl (by repeat (first | assumption | (refine rg_ne (by first | decide | omega) ?_) | apply rg_eq | refine rg_fr (by assumption) (by first | decide | (simp; omega)) ?_)) rfl ?_
          refine a_bipush (12) 67 dX12_one_65 rfl (by decide) ?_
          refine a_icmp_ne 73 70 dX12_one_67 rfl (by decide) (fun c_67 => ?_) (fun c_67 => absurd c_67 (fun v => hm2 (h12.mp v)))
          refine a_aload_n 74 dX12_one_73 rfl rfl ?_
          refine a_get fd_X12_29 rfl 77 dX12_one_74 rfl (by repeat (first | assumption | (refine rg_ne (by first | decide | omega) ?_) | apply rg_eq | refine rg_fr (by assumption) (by first | decide | (simp; omega)) ?_)) rfl ?_
          refine a_aload_n 78 dX12_one_77 rfl rfl ?_
          refine a_get fd_X12_160 rfl 81 dX12_one_78 rfl (by repeat (first | assumption | (refine rg_ne (by first | decide | omega) ?_) | apply rg_eq | refine rg_fr (by assumption) (by first | decide | (simp; omega)) ?_)) rfl ?_
          refine a_iload_n 82 dX12_one_81 rfl rfl ?_
          refine a_iastore 83 dX12_one_82 rfl (by repeat (first | assumption | (refine rg_ne (by first | decide | omega) ?_) | apply rg_eq | refine rg_fr (by assumption) (by first | decide | (simp; omega)) ?_)) vm ?_
          refine a_aload_n 84 dX12_one_83 rfl rfl ?_
          refine a_get fd_X12_32 rfl 87 dX12_one_84 rfl (by repeat (first | assumption | (refine rg_ne (by first | decide | omega) ?_) | apply rg_eq | refine rg_fr (by assumption) (by first | decide | (simp; omega)) ?_)) rfl ?_
          refine a_aload_n 88 dX12_one_87 rfl rfl ?_
          refine a_get fd_X12_160 rfl 91 dX12_one_88 rfl (by repeat (first | assumption | (refine rg_ne (by first | decide | omega) ?_) | apply rg_eq | refine rg_fr (by assumption) (by first | decide | (simp; omega)) ?_)) rfl ?_
          refine a_iload_n 92 dX12_one_91 rfl rfl ?_
          refine a_iastore 93 dX12_one_92 rfl (by repeat (first | assumption | (refine rg_ne (by first | decide | omega) ?_) | apply rg_eq | refine rg_fr (by assumption) (by first | decide | (simp; omega)) ?_)) vm ?_
          refine a_aload_n 94 dX12_one_93 rfl rfl ?_
          refine a_get fd_X12_35 rfl 97 dX12_one_94 rfl (by repeat (first | assumption | (refine rg_ne (by first | decide | omega) ?_) | apply rg_eq | refine rg_fr (by assumption) (by first | decide | (simp; omega)) ?_)) rfl ?_
          refine a_aload_n 98 dX12_one_97 rfl rfl ?_
          refine a_get fd_X12_160 rfl 101 dX12_one_98 rfl (by repeat (first | assumption | (refine rg_ne (by first | decide | omega) ?_) | apply rg_eq | refine rg_fr (by assumption) (by first | decide | (simp; omega)) ?_)) rfl ?_
          refine a_iload_n 102 dX12_one_101 rfl rfl ?_
          refine a_iastore 103 dX12_one_102 rfl (by repeat (first | assumption | (refine rg_ne (by first | decide | omega) ?_) | apply rg_eq | refine rg_fr (by assumption) (by first | decide | (simp; omega)) ?_)) vm ?_
          refine a_aload_n 104 dX12_one_103 rfl rfl ?_
          refine a_get fd_X12_38 rfl 107 dX12_one_104 rfl (by repeat (first | assumption | (refine rg_ne (by first | decide | omega) ?_) | apply rg_eq | refine rg_fr (by assumption) (by first | decide | (simp; omega)) ?_)) rfl ?_
          refine a_aload_n 108 dX12_one_107 rfl rfl ?_
          refine a_get fd_X12_160 rfl 111 dX12_one_108 rfl (by repeat (first | assumption | (refine rg_ne (by first | decide | omega) ?_) | apply rg_eq | refine rg_fr (by assumption) (by first | decide | (simp; omega)) ?_)) rfl ?_
          refine a_iload 113 dX12_one_111 rfl rfl ?_
          refine a_iastore 114 dX12_one_113 rfl (by repeat (first | assumption | (refine rg_ne (by first | decide | omega) ?_) | apply rg_eq | refine rg_fr (by assumption) (by first | decide | (simp; omega)) ?_)) vm ?_
          refine a_aload_n 115 dX12_one_114 rfl rfl ?_
          refine a_dup 116 dX12_one_115 rfl rfl ?_
          refine a_get fd_X12_160 rfl 119 dX12_one_116 rfl (by repeat (first | assumption | (refine rg_ne (by first | decide | omega) ?_) | apply rg_eq | refine rg_fr (by assumption) (by first | decide | (simp; omega)) ?_)) rfl ?_
          refine a_iconst (1) 120 dX12_one_119 rfl (by decide) ?_
          refine a_iadd 121 dX12_one_120 rfl ?_
          rw [es]
          refine a_put fd_X12_160 cl_X12 rfl 124 dX12_one_121 rfl (by repeat (first | assumption | (refine rg_ne (by first | decide | omega) ?_) | apply rg_eq | refine rg_fr (by assumption) (by first | decide | (simp; omega)) ?_)) (Nat.le_of_ble_eq_true rfl) rfl rfl rfl ?_
          refine a_aload_n 125 dX12_one_124 rfl rfl ?_
          refine a_get fd_X12_160 rfl 128 dX12_one_125 rfl (by repeat (first | assumption | (refine rg_ne (by first | decide | omega) ?_) | apply rg_eq | refine rg_fr (by assumption) (by first | decide | (simp; omega)) ?_)) rfl ?_
          refine a_iconst (1) 129 dX12_one_128 rfl (by decide) ?_
          refine a_isub 130 dX12_one_129 rfl ?_
          exact a_ireturn dX12_one_130 rfl rfl (Nat.le_of_ble_eq_true rfl) (Nat.le_of_ble_eq_true rfl) ⟨by rw [ea]; exact congrArg (fun v => some (Value.int v)) (nI_pred T.m), by rw [et]; exact ⟨_, j, hfin (rg_eq (rg_ne (by decide) (rg_ne (by decide) (rg_ne (by decide) (rg_ne (by decide) hm))))) (rg_ne (by decide) (rg_ne (by decide) (rg_ne (by decide) (rg_ne (by decide) (rg_eq p4))))) (rg_ne (by decide) (rg_ne (by decide) (rg_ne (by decide) (rg_eq (rg_ne (by decide) p5))))) (rg_ne (by decide) (rg_ne (by decide) (rg_eq (rg_ne (by decide) (rg_ne (by decide) p6))))) (rg_ne (by decide) (rg_eq (rg_ne (by decide) (rg_ne (by decide) (rg_ne (by decide) p7))))) (fr_set (fr_set (fr_set (fr_set (fr_set (fr_refl _ _) (by decide)) (by decide)) (by decide)) (by decide)) (by decide))⟩, kpm (fr_set (S := [38, 45, 46, 47, 48]) (fr_set (fr_set (fr_set (fr_set (fr_refl _ _) (by decide)) (by decide)) (by decide)) (by decide)) (by decide)) (by decide)⟩
      · rw [if_neg hs] at ea et
        refine rM_start (by decide) (Nat.le_of_ble_eq_true rfl) ?_
        refine a_aload_n 1 dX12_one_0 rfl rfl ?_
        refine a_iload_n 2 dX12_one_1 rfl rfl ?_
        refine a_callV ok_X12_noSeat ln_X12_175 in_X12_noSeat rfl 5 dX12_one_2 rfl (m_noSeat q (nI x)) (by repeat (first | assumption | (refine rg_ne (by first | decide | omega) ?_) | apply rg_eq | refine rg_fr (by assumption) (by first | decide | (simp; omega)) ?_)) rfl rfl rfl ⟨(Nat.le_of_ble_eq_true rfl), (Nat.le_of_ble_eq_true rfl)⟩ (Nat.le_of_ble_eq_true rfl) ⟨(Nat.le_of_ble_eq_true rfl), (Nat.le_of_ble_eq_true rfl)⟩ ?_
        rintro _ _ ⟨rfl, rfl⟩
        refine a_if_eq 10 8 dX12_one_5 rfl (by decide) (fun c_5 => ?_) (fun c_5 => absurd hb c_5)
        refine a_iload_n 11 dX12_one_10 rfl rfl ?_
        refine a_i2l 12 dX12_one_11 rfl ?_
        refine a_lconst (0) 13 dX12_one_12 rfl (by decide) ?_
        refine a_ldc2 (2) 16 dX12_one_13 rfl lk_X12_95 ?_
        refine a_callS ok_X12_in ln_X12_97 is_X12_in rfl 19 dX12_one_16 rfl (k_X12_in _ _ _) rfl rfl ⟨(Nat.le_of_ble_eq_true rfl), (Nat.le_of_ble_eq_true rfl)⟩ (Nat.le_of_ble_eq_true rfl) ⟨(Nat.le_of_ble_eq_true rfl), (Nat.le_of_ble_eq_true rfl)⟩ ?_
        rintro _ _ ⟨rfl, rfl⟩
        refine a_if_eq 47 22 dX12_one_19 rfl (by decide) (fun c_19 => absurd c_19 (by rw [if_pos (ik.mpr v1)]; decide)) (fun c_19 => ?_)
        refine a_iload_n 23 dX12_one_22 rfl rfl ?_
        refine a_i2l 24 dX12_one_23 rfl ?_
        refine a_lconst (0) 25 dX12_one_24 rfl (by decide) ?_
        refine a_ldc2 (9) 28 dX12_one_25 rfl lk_X12_192 ?_
        refine a_callS ok_X12_in ln_X12_97 is_X12_in rfl 31 dX12_one_28 rfl (k_X12_in _ _ _) rfl rfl ⟨(Nat.le_of_ble_eq_true rfl), (Nat.le_of_ble_eq_true rfl)⟩ (Nat.le_of_ble_eq_true rfl) ⟨(Nat.le_of_ble_eq_true rfl), (Nat.le_of_ble_eq_true rfl)⟩ ?_
        rintro _ _ ⟨rfl, rfl⟩
        refine a_if_eq 47 34 dX12_one_31 rfl (by decide) (fun c_31 => absurd c_31 (by rw [if_pos (is.mpr v2)]; decide)) (fun c_31 => ?_)
        refine a_iload 36 dX12_one_34 rfl rfl ?_
        refine a_i2l 37 dX12_one_36 rfl ?_
        refine a_lconst (0) 38 dX12_one_37 rfl (by decide) ?_
        refine a_ldc2 (9) 41 dX12_one_38 rfl lk_X12_192 ?_
        refine a_callS ok_X12_in ln_X12_97 is_X12_in rfl 44 dX12_one_41 rfl (k_X12_in _ _ _) rfl rfl ⟨(Nat.le_of_ble_eq_true rfl), (Nat.le_of_ble_eq_true rfl)⟩ (Nat.le_of_ble_eq_true rfl) ⟨(Nat.le_of_ble_eq_true rfl), (Nat.le_of_ble_eq_true rfl)⟩ ?_
        rintro _ _ ⟨rfl, rfl⟩
        refine a_if_ne 50 47 dX12_one_44 rfl (by decide) (fun c_44 => ?_) (fun c_44 => absurd c_44 (by rw [if_pos (ia.mpr v3)]; decide))
        refine a_aload_n 51 dX12_one_50 rfl rfl ?_
        refine a_iload_n 52 dX12_one_51 rfl rfl ?_
        refine a_callV ok_X12_whoOn ln_X12_182 in_X12_whoOn rfl 55 dX12_one_52 rfl (hwho) (by repeat (first | assumption | (refine rg_ne (by first | decide | omega) ?_) | apply rg_eq | refine rg_fr (by assumption) (by first | decide | (simp; omega)) ?_)) rfl rfl rfl ⟨(Nat.le_of_ble_eq_true rfl), (Nat.le_of_ble_eq_true rfl)⟩ (Nat.le_of_ble_eq_true rfl) ⟨(Nat.le_of_ble_eq_true rfl), (Nat.le_of_ble_eq_true rfl)⟩ ?_
        rintro _ _ ⟨rfl, rfl⟩
        refine a_if_lt 61 58 dX12_one_55 rfl (by decide) (fun c_55 => absurd c_55 (fun v => hs (hs0.mp v))) (fun c_55 => ?_)
        refine a_bipush (-3) 60 dX12_one_58 rfl (by decide) ?_
        exact a_ireturn dX12_one_60 rfl rfl (Nat.le_of_ble_eq_true rfl) (Nat.le_of_ble_eq_true rfl) ⟨by rw [ea], by rw [et]; exact ⟨i, j, q⟩, fun _ _ _ => rfl⟩
    · have ea : aOne T k (nI x) s a = -2 := by
        unfold aOne
        rw [e]
        dsimp only
        split
        · rename_i h1 h2 h3
          exact absurd ⟨isK_3.mpr (oT_some h1), isD_10.mpr (oT_some h2), isD_10.mpr (oT_some h3)⟩ hv
        · rfl
      have et : tOne T k (nI x) s a hl = T := by
        unfold tOne
        rw [e]
        dsimp only
        split
        · rename_i h1 h2 h3
          exact absurd ⟨isK_3.mpr (oT_some h1), isD_10.mpr (oT_some h2), isD_10.mpr (oT_some h3)⟩ hv
        · rfl
      refine rM_start (by decide) (Nat.le_of_ble_eq_true rfl) ?_
      refine a_aload_n 1 dX12_one_0 rfl rfl ?_
      refine a_iload_n 2 dX12_one_1 rfl rfl ?_
      refine a_callV ok_X12_noSeat ln_X12_175 in_X12_noSeat rfl 5 dX12_one_2 rfl (m_noSeat q (nI x)) (by repeat (first | assumption | (refine rg_ne (by first | decide | omega) ?_) | apply rg_eq | refine rg_fr (by assumption) (by first | decide | (simp; omega)) ?_)) rfl rfl rfl ⟨(Nat.le_of_ble_eq_true rfl), (Nat.le_of_ble_eq_true rfl)⟩ (Nat.le_of_ble_eq_true rfl) ⟨(Nat.le_of_ble_eq_true rfl), (Nat.le_of_ble_eq_true rfl)⟩ ?_
      rintro _ _ ⟨rfl, rfl⟩
      refine a_if_eq 10 8 dX12_one_5 rfl (by decide) (fun c_5 => ?_) (fun c_5 => absurd (if_pos (oT_yes hx (Nat.lt_of_le_of_lt hn (by decide)))) c_5)
      refine a_iload_n 11 dX12_one_10 rfl rfl ?_
      refine a_i2l 12 dX12_one_11 rfl ?_
      refine a_lconst (0) 13 dX12_one_12 rfl (by decide) ?_
      refine a_ldc2 (2) 16 dX12_one_13 rfl lk_X12_95 ?_
      refine a_callS ok_X12_in ln_X12_97 is_X12_in rfl 19 dX12_one_16 rfl (k_X12_in _ _ _) rfl rfl ⟨(Nat.le_of_ble_eq_true rfl), (Nat.le_of_ble_eq_true rfl)⟩ (Nat.le_of_ble_eq_true rfl) ⟨(Nat.le_of_ble_eq_true rfl), (Nat.le_of_ble_eq_true rfl)⟩ ?_
      rintro _ _ ⟨rfl, rfl⟩
      refine a_if_eq 47 22 dX12_one_19 rfl (by decide) (fun c_19 => ?_) (fun c_19 => ?_)
      · refine a_bipush (-2) 49 dX12_one_47 rfl (by decide) ?_
        exact a_ireturn dX12_one_49 rfl rfl (Nat.le_of_ble_eq_true rfl) (Nat.le_of_ble_eq_true rfl) ⟨by rw [ea], by rw [et]; exact ⟨i, j, q⟩, fun _ _ _ => rfl⟩
      · refine a_iload_n 23 dX12_one_22 rfl rfl ?_
        refine a_i2l 24 dX12_one_23 rfl ?_
        refine a_lconst (0) 25 dX12_one_24 rfl (by decide) ?_
        refine a_ldc2 (9) 28 dX12_one_25 rfl lk_X12_192 ?_
        refine a_callS ok_X12_in ln_X12_97 is_X12_in rfl 31 dX12_one_28 rfl (k_X12_in _ _ _) rfl rfl ⟨(Nat.le_of_ble_eq_true rfl), (Nat.le_of_ble_eq_true rfl)⟩ (Nat.le_of_ble_eq_true rfl) ⟨(Nat.le_of_ble_eq_true rfl), (Nat.le_of_ble_eq_true rfl)⟩ ?_
        rintro _ _ ⟨rfl, rfl⟩
        refine a_if_eq 47 34 dX12_one_31 rfl (by decide) (fun c_31 => ?_) (fun c_31 => ?_)
        · refine a_bipush (-2) 49 dX12_one_47 rfl (by decide) ?_
          exact a_ireturn dX12_one_49 rfl rfl (Nat.le_of_ble_eq_true rfl) (Nat.le_of_ble_eq_true rfl) ⟨by rw [ea], by rw [et]; exact ⟨i, j, q⟩, fun _ _ _ => rfl⟩
        · refine a_iload 36 dX12_one_34 rfl rfl ?_
          refine a_i2l 37 dX12_one_36 rfl ?_
          refine a_lconst (0) 38 dX12_one_37 rfl (by decide) ?_
          refine a_ldc2 (9) 41 dX12_one_38 rfl lk_X12_192 ?_
          refine a_callS ok_X12_in ln_X12_97 is_X12_in rfl 44 dX12_one_41 rfl (k_X12_in _ _ _) rfl rfl ⟨(Nat.le_of_ble_eq_true rfl), (Nat.le_of_ble_eq_true rfl)⟩ (Nat.le_of_ble_eq_true rfl) ⟨(Nat.le_of_ble_eq_true rfl), (Nat.le_of_ble_eq_true rfl)⟩ ?_
          rintro _ _ ⟨rfl, rfl⟩
          refine a_if_ne 50 47 dX12_one_44 rfl (by decide) (fun c_44 => absurd (if_neg (fun w => hv ⟨ik.mp (Decidable.not_not.mp (fun u => c_19 (if_neg u))), is.mp (Decidable.not_not.mp (fun u => c_31 (if_neg u))), ia.mp w⟩)) c_44) (fun c_44 => ?_)
          refine a_bipush (-2) 49 dX12_one_47 rfl (by decide) ?_
          exact a_ireturn dX12_one_49 rfl rfl (Nat.le_of_ble_eq_true rfl) (Nat.le_of_ble_eq_true rfl) ⟨by rw [ea], by rw [et]; exact ⟨i, j, q⟩, fun _ _ _ => rfl⟩
end MSET2
