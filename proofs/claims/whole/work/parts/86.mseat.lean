/-! THE MODEL's calls on seats and yawns -/
theorem seeN (T : Tn) (o : T.ok) {k : Nat} (hk : k < T.n) {s' : Nat → Int32} (hL : lineM T.nb T.bl T.mir (T.face k) k = some s') : s' = fun x => if seeB T.1 k x then 1 else 0 := by
  have e := (show lineM T.nb T.bl T.mir (T.face k) k = _ from lineM_see o.1 hk)
  rw [e] at hL
  exact (Option.some.inj hL).symm
theorem sum_pair (f : Nat → Nat) : ∀ n, sumN f (2 * n) = sumN (fun c => f (2 * c) + f (2 * c + 1)) n
  | 0 => rfl
  | n + 1 => by
    rw [show 2 * (n + 1) = 2 * n + 1 + 1 by omega, sumN, sumN, sumN, sum_pair f n]
    omega
section MSEAT
variable {l : Launch} {G : rG} {h : rH} {T : Tn}
theorem m_noSeat {i : Nat → Int32} {j : Nat → Int64} (q : mX G h T i j) (c : Int32) : rM l G 1 mX12_noSeat 0 0 [.ref (gN G + 38), .int c] h (rV h (some (.int (if 0 ≤ c ∧ c < nI T.n then 0 else 1)))) := by
  have e := k_X12_noSeat (l := l) q.at c
  rw [q.1.2.2.1] at e
  exact e
set_option maxRecDepth 100000 in
set_option maxHeartbeats 400000 in
theorem m_ofSeat (q : mAll G h T) (o : T.ok) (c d : Int32) : rM l G 12 mX12_ofSeat 0 0 [.ref (gN G + 38), .int c, .int d] h (fun h' v => v = some (.int (aOfSeat T c d)) ∧ mAll G h' T ∧ kp h h' mL) := by
  obtain ⟨i, j, q⟩ := q
  have hn := o.n32
  have hm := q.at
  rcases oT_cases (n := T.n) (Nat.lt_of_le_of_lt hn (by decide)) c with ⟨e, hc⟩ | ⟨k, hk, rfl, e⟩
  · have ea : aOfSeat T c d = -1 := by unfold aOfSeat; rw [e]
    refine rM_start (by decide) (Nat.le_of_ble_eq_true rfl) ?_
    refine a_aload_n 1 dX12_ofSeat_0 rfl rfl ?_
    refine a_iload_n 2 dX12_ofSeat_1 rfl rfl ?_
    refine a_callV ok_X12_noSeat ln_X12_175 in_X12_noSeat rfl 5 dX12_ofSeat_2 rfl (m_noSeat q c) (by repeat (first | assumption | (refine rg_ne (by first | decide | omega) ?_) | apply rg_eq | refine rg_fr (by assumption) (by first | decide | (simp; omega)) ?_)) rfl rfl rfl ⟨(Nat.le_of_ble_eq_true rfl), (Nat.le_of_ble_eq_true rfl)⟩ (Nat.le_of_ble_eq_true rfl) ⟨(Nat.le_of_ble_eq_true rfl), (Nat.le_of_ble_eq_true rfl)⟩ ?_
    rintro _ _ ⟨rfl, rfl⟩
    refine a_if_eq 10 8 dX12_ofSeat_5 rfl (by decide) (fun c_5 => absurd c_5 (by rw [if_neg hc]; decide)) (fun c_5 => ?_)
    refine a_iconst (-1) 9 dX12_ofSeat_8 rfl (by decide) ?_
    exact a_ireturn dX12_ofSeat_9 rfl rfl (Nat.le_of_ble_eq_true rfl) (Nat.le_of_ble_eq_true rfl) ⟨by rw [ea], ⟨i, j, q⟩, fun _ _ _ => rfl⟩
  · have hk32 : k < 32 := Nat.lt_of_lt_of_le hk hn
    have ea : aOfSeat T (nI k) d = if d.toInt = 0 then nI (T.face k) else if d.toInt = 1 then noI (firstN (fun x => decide (T.se x = k)) T.m 0) else if d.toInt = 2 then bsN (fun x => seeB T.1 k x) 31 else -2 := by unfold aOfSeat; rw [e]
    have vk : vp_in (nI k) 32 := vp_in_nI hk32 (by decide)
    have ek : (nI k).toNatClampNeg = k := nI_clamp (by omega)
    obtain ⟨⟨f, hg⟩, hn0, hsn, hmi, hfa, hface, ⟨s0, hs0, hs00⟩, hL⟩ := id q.1
    obtain ⟨s', hL', hB', hs0'⟩ := hL k hk
    have hlay := k_X12_layLine (l := l) hg hn0 hsn hmi hfa hk32 (hface k) rfl hs0 hs00 hL'
    have es' := seeN T o hk hL'
    have e2 : (2 : Int32).toInt = 2 := rfl
    have e1 : (1 : Int32).toInt = 1 := rfl
    have e0 : (0 : Int32).toInt = 0 := rfl
    by_cases hd : d = 2
    · subst hd
      have ea2 : aOfSeat T (nI k) 2 = bsN (fun x => seeB T.1 k x) 31 := by rw [ea, if_neg (by rw [e2]; decide), if_neg (by rw [e2]; decide), if_pos e2]
      have L : ∀ (r x : Nat) (s y : Int32) (h1 : rH), x + r = 31 → s = bsN (fun x => seeB T.1 k x) x → y = nI x → mX G h1 T i j → fr h h1 [44] → h1[44]? = some (.inl (gA G 1, 32, .inl s')) → rW l G (rRm 12 0 0) mX12_ofSeat (rZ G (fun h' v => v = some (.int (aOfSeat T (nI k) 2)) ∧ mAll G h' T ∧ kp h h' mL) 0 0) 0 0 25 [some (.ref (gN G + 38)), some (.int (nI k)), some (.int 2), some (.int s), some (.int y)] [] h1 := by
        intro r
        induction r with
        | zero =>
          intro x s y h1 hx hs hy q1 hf1 h44
          subst hs; subst hy
          have e : x = 31 := by omega
          subst e
          refine a_iload 27 dX12_ofSeat_25 rfl rfl ?_
          refine a_bipush (31) 29 dX12_ofSeat_27 rfl (by decide) ?_
          refine a_icmp_ge 59 32 dX12_ofSeat_29 rfl (by decide) (fun c_29 => ?_) (fun c_29 => absurd (by decide) c_29)
          refine a_iload_n 60 dX12_ofSeat_59 rfl rfl ?_
          exact a_ireturn dX12_ofSeat_60 rfl rfl (Nat.le_of_ble_eq_true rfl) (Nat.le_of_ble_eq_true rfl) ⟨by rw [ea2], ⟨i, j, q1⟩, kp_mono (kp_fr hf1) (by decide)⟩
        | succ r ih =>
          intro x s y h1 hx hs hy q1 hf1 h44
          subst hs; subst hy
          have hm1 := q1.at
          have vx : vp_in (nI x) 32 := vp_in_nI (by omega) (by decide)
          have ex : (nI x).toNatClampNeg = x := nI_clamp (by omega)
          have esx : s' x = if seeB T.1 k x then 1 else 0 := by rw [es']
          by_cases hS : seeB T.1 k x = true
          · have hs1 : s' x = 1 := by rw [esx, if_pos hS]
            refine a_iload 27 dX12_ofSeat_25 rfl rfl ?_
            refine a_bipush (31) 29 dX12_ofSeat_27 rfl (by decide) ?_
            refine a_icmp_ge 59 32 dX12_ofSeat_29 rfl (by decide) (fun c_29 => absurd c_29 (nI_ge (a := x) (b := 31) (by omega) (by decide))) (fun c_29 => ?_)
            refine a_iload_n 33 dX12_ofSeat_32 rfl rfl ?_
            refine a_aload_n 34 dX12_ofSeat_33 rfl rfl ?_
            refine a_get fd_X12_26 rfl 37 dX12_ofSeat_34 rfl (by repeat (first | assumption | (refine rg_ne (by first | decide | omega) ?_) | apply rg_eq | refine rg_fr (by assumption) (by first | decide | (simp; omega)) ?_)) rfl ?_
            refine a_iload 39 dX12_ofSeat_37 rfl rfl ?_
            refine a_baload 40 dX12_ofSeat_39 rfl (by repeat (first | assumption | (refine rg_ne (by first | decide | omega) ?_) | apply rg_eq | refine rg_fr (by assumption) (by first | decide | (simp; omega)) ?_)) vx ?_
            rw [ex, hs1]
            refine a_if_eq 50 43 dX12_ofSeat_40 rfl (by decide) (fun c_40 => absurd c_40 (by decide)) (fun c_40 => ?_)
            refine a_iconst (1) 44 dX12_ofSeat_43 rfl (by decide) ?_
            refine a_iload 46 dX12_ofSeat_44 rfl rfl ?_
            refine a_ishl 47 dX12_ofSeat_46 rfl ?_
            refine a_goto 51 dX12_ofSeat_47 (by decide) ?_
            refine a_ior 52 dX12_ofSeat_51 rfl ?_
            refine a_istore_n 53 dX12_ofSeat_52 rfl (by decide) ?_
            refine a_iinc _ 56 dX12_ofSeat_53 rfl rfl (by decide) rfl ?_
            refine a_goto 25 dX12_ofSeat_56 (by decide) ?_
            exact ih (x + 1) _ _ _ (by omega) (bsN_t (P := fun x => seeB T.1 k x) hS) (nI_1 x) q1 hf1 h44
          · have hs1 : s' x = 0 := by rw [esx, if_neg hS]
            refine a_iload 27 dX12_ofSeat_25 rfl rfl ?_
            refine a_bipush (31) 29 dX12_ofSeat_27 rfl (by decide) ?_
            refine a_icmp_ge 59 32 dX12_ofSeat_29 rfl (by decide) (fun c_29 => absurd c_29 (nI_ge (a := x) (b := 31) (by omega) (by decide))) (fun c_29 => ?_)
            refine a_iload_n 33 dX12_ofSeat_32 rfl rfl ?_
            refine a_aload_n 34 dX12_ofSeat_33 rfl rfl ?_
            refine a_get fd_X12_26 rfl 37 dX12_ofSeat_34 rfl (by repeat (first | assumption | (refine rg_ne (by first | decide | omega) ?_) | apply rg_eq | refine rg_fr (by assumption) (by first | decide | (simp; omega)) ?_)) rfl ?_
            refine a_iload 39 dX12_ofSeat_37 rfl rfl ?_
            refine a_baload 40 dX12_ofSeat_39 rfl (by repeat (first | assumption | (refine rg_ne (by first | decide | omega) ?_) | apply rg_eq | refine rg_fr (by assumption) (by first | decide | (simp; omega)) ?_)) vx ?_
            rw [ex, hs1]
            refine a_if_eq 50 43 dX12_ofSeat_40 rfl (by decide) (fun c_40 => ?_) (fun c_40 => absurd rfl c_40)
            refine a_iconst (0) 51 dX12_ofSeat_50 rfl (by decide) ?_
            refine a_ior 52 dX12_ofSeat_51 rfl ?_
            refine a_istore_n 53 dX12_ofSeat_52 rfl (by decide) ?_
            refine a_iinc _ 56 dX12_ofSeat_53 rfl rfl (by decide) rfl ?_
            refine a_goto 25 dX12_ofSeat_56 (by decide) ?_
            exact ih (x + 1) _ _ _ (by omega) (bsN_f (P := fun x => seeB T.1 k x) (Bool.eq_false_iff.mpr hS)) (nI_1 x) q1 hf1 h44
      refine rM_start (by decide) (Nat.le_of_ble_eq_true rfl) ?_
      refine a_aload_n 1 dX12_ofSeat_0 rfl rfl ?_
      refine a_iload_n 2 dX12_ofSeat_1 rfl rfl ?_
      refine a_callV ok_X12_noSeat ln_X12_175 in_X12_noSeat rfl 5 dX12_ofSeat_2 rfl (m_noSeat q (nI k)) (by repeat (first | assumption | (refine rg_ne (by first | decide | omega) ?_) | apply rg_eq | refine rg_fr (by assumption) (by first | decide | (simp; omega)) ?_)) rfl rfl rfl ⟨(Nat.le_of_ble_eq_true rfl), (Nat.le_of_ble_eq_true rfl)⟩ (Nat.le_of_ble_eq_true rfl) ⟨(Nat.le_of_ble_eq_true rfl), (Nat.le_of_ble_eq_true rfl)⟩ ?_
      rintro _ _ ⟨rfl, rfl⟩
      refine a_if_eq 10 8 dX12_ofSeat_5 rfl (by decide) (fun c_5 => ?_) (fun c_5 => absurd (if_pos (oT_yes hk (Nat.lt_of_le_of_lt hn (by decide)))) c_5)
      refine a_iload_n 11 dX12_ofSeat_10 rfl rfl ?_
      refine a_iconst (2) 12 dX12_ofSeat_11 rfl (by decide) ?_
      refine a_icmp_ne 61 15 dX12_ofSeat_12 rfl (by decide) (fun c_12 => absurd rfl c_12) (fun c_12 => ?_)
      refine a_aload_n 16 dX12_ofSeat_15 rfl rfl ?_
      refine a_iload_n 17 dX12_ofSeat_16 rfl rfl ?_
      refine a_callV ok_X12_layLine ln_X12_178 in_X12_layLine rfl 20 dX12_ofSeat_17 rfl (hlay) (by repeat (first | assumption | (refine rg_ne (by first | decide | omega) ?_) | apply rg_eq | refine rg_fr (by assumption) (by first | decide | (simp; omega)) ?_)) rfl rfl rfl ⟨(Nat.le_of_ble_eq_true rfl), (Nat.le_of_ble_eq_true rfl)⟩ (Nat.le_of_ble_eq_true rfl) ⟨(Nat.le_of_ble_eq_true rfl), (Nat.le_of_ble_eq_true rfl)⟩ ?_
      rintro h2 v ⟨rfl, hs2, hf2⟩
      refine a_iconst (0) 21 dX12_ofSeat_20 rfl (by decide) ?_
      refine a_istore_n 22 dX12_ofSeat_21 rfl (by decide) ?_
      refine a_iconst (0) 23 dX12_ofSeat_22 rfl (by decide) ?_
      refine a_istore 25 dX12_ofSeat_23 rfl (by decide) ?_
      exact L 31 0 _ _ _ (by omega) rfl rfl (q.line (q.1.line hs2 hs0' hf2 (by decide) (by decide) (by decide) (by decide) (by decide)) hf2) hf2 hs2
    · have hd2 : ¬ d.toInt = 2 := fun v => hd (i_eq.mpr (v.trans e2.symm))
      have hf2 := hfa
      have ef : (nI (T.face (nI k).toNatClampNeg)) = nI (T.face k) := by rw [ek]
      have hwho := k_X12_whoOn (l := l) hn q.2.1 hk32
      refine rM_start (by decide) (Nat.le_of_ble_eq_true rfl) ?_
      refine a_aload_n 1 dX12_ofSeat_0 rfl rfl ?_
      refine a_iload_n 2 dX12_ofSeat_1 rfl rfl ?_
      refine a_callV ok_X12_noSeat ln_X12_175 in_X12_noSeat rfl 5 dX12_ofSeat_2 rfl (m_noSeat q (nI k)) (by repeat (first | assumption | (refine rg_ne (by first | decide | omega) ?_) | apply rg_eq | refine rg_fr (by assumption) (by first | decide | (simp; omega)) ?_)) rfl rfl rfl ⟨(Nat.le_of_ble_eq_true rfl), (Nat.le_of_ble_eq_true rfl)⟩ (Nat.le_of_ble_eq_true rfl) ⟨(Nat.le_of_ble_eq_true rfl), (Nat.le_of_ble_eq_true rfl)⟩ ?_
      rintro _ _ ⟨rfl, rfl⟩
      refine a_if_eq 10 8 dX12_ofSeat_5 rfl (by decide) (fun c_5 => ?_) (fun c_5 => absurd (if_pos (oT_yes hk (Nat.lt_of_le_of_lt hn (by decide)))) c_5)
      refine a_iload_n 11 dX12_ofSeat_10 rfl rfl ?_
      refine a_iconst (2) 12 dX12_ofSeat_11 rfl (by decide) ?_
      refine a_icmp_ne 61 15 dX12_ofSeat_12 rfl (by decide) (fun c_12 => ?_) (fun c_12 => absurd c_12 hd)
      refine a_iload_n 62 dX12_ofSeat_61 rfl rfl ?_
      refine a_if_ne 74 65 dX12_ofSeat_62 rfl (by decide) (fun c_62 => ?_) (fun c_62 => ?_)
      · refine a_iload_n 75 dX12_ofSeat_74 rfl rfl ?_
        refine a_iconst (1) 76 dX12_ofSeat_75 rfl (by decide) ?_
        refine a_icmp_ne 87 79 dX12_ofSeat_76 rfl (by decide) (fun c_76 => ?_) (fun c_76 => ?_)
        · refine a_bipush (-2) 89 dX12_ofSeat_87 rfl (by decide) ?_
          exact a_ireturn dX12_ofSeat_89 rfl rfl (Nat.le_of_ble_eq_true rfl) (Nat.le_of_ble_eq_true rfl) ⟨by rw [ea, if_neg (fun v => c_62 (i_eq.mpr (v.trans e0.symm))), if_neg (fun v => c_76 (i_eq.mpr (v.trans e1.symm))), if_neg hd2], ⟨i, j, q⟩, fun _ _ _ => rfl⟩
        · refine a_aload_n 80 dX12_ofSeat_79 rfl rfl ?_
          refine a_iload_n 81 dX12_ofSeat_80 rfl rfl ?_
          refine a_callV ok_X12_whoOn ln_X12_182 in_X12_whoOn rfl 84 dX12_ofSeat_81 rfl (hwho) (by repeat (first | assumption | (refine rg_ne (by first | decide | omega) ?_) | apply rg_eq | refine rg_fr (by assumption) (by first | decide | (simp; omega)) ?_)) rfl rfl rfl ⟨(Nat.le_of_ble_eq_true rfl), (Nat.le_of_ble_eq_true rfl)⟩ (Nat.le_of_ble_eq_true rfl) ⟨(Nat.le_of_ble_eq_true rfl), (Nat.le_of_ble_eq_true rfl)⟩ ?_
          rintro _ _ ⟨rfl, rfl⟩
          refine a_goto 89 dX12_ofSeat_84 (by decide) ?_
          exact a_ireturn dX12_ofSeat_89 rfl rfl (Nat.le_of_ble_eq_true rfl) (Nat.le_of_ble_eq_true rfl) ⟨by rw [ea, if_neg (fun v => c_62 (i_eq.mpr (v.trans e0.symm))), if_pos (show d.toInt = 1 from congrArg Int32.toInt c_76)], ⟨i, j, q⟩, fun _ _ _ => rfl⟩
      · refine a_aload_n 66 dX12_ofSeat_65 rfl rfl ?_
        refine a_get fd_X12_7 rfl 69 dX12_ofSeat_66 rfl (by repeat (first | assumption | (refine rg_ne (by first | decide | omega) ?_) | apply rg_eq | refine rg_fr (by assumption) (by first | decide | (simp; omega)) ?_)) rfl ?_
        refine a_iload_n 70 dX12_ofSeat_69 rfl rfl ?_
        refine a_iaload 71 dX12_ofSeat_70 rfl (by repeat (first | assumption | (refine rg_ne (by first | decide | omega) ?_) | apply rg_eq | refine rg_fr (by assumption) (by first | decide | (simp; omega)) ?_)) vk ?_
        refine a_goto 89 dX12_ofSeat_71 (by decide) ?_
        exact a_ireturn dX12_ofSeat_89 rfl rfl (Nat.le_of_ble_eq_true rfl) (Nat.le_of_ble_eq_true rfl) ⟨by rw [ea, if_pos (show d.toInt = 0 from congrArg Int32.toInt c_62), ek], ⟨i, j, q⟩, fun _ _ _ => rfl⟩
set_option maxRecDepth 100000 in
set_option maxHeartbeats 400000 in
theorem m_line (q : mAll G h T) (o : T.ok) (c d : Int32) : rM l G 12 mX12_line 0 0 [.ref (gN G + 38), .int c, .int d] h (fun h' v => v = some (.int (aLine T c d)) ∧ mAll G h' T ∧ kp h h' mL) := by
  obtain ⟨i, j, q⟩ := q
  have hn := o.n32
  have hm := q.at
  rcases oT_cases (n := T.n) (Nat.lt_of_le_of_lt hn (by decide)) c with ⟨e, hc⟩ | ⟨k, hk, rfl, e⟩
  · have ea : aLine T c d = -1 := by unfold aLine; rw [e]
    refine rM_start (by decide) (Nat.le_of_ble_eq_true rfl) ?_
    refine a_aload_n 1 dX12_line_0 rfl rfl ?_
    refine a_iload_n 2 dX12_line_1 rfl rfl ?_
    refine a_callV ok_X12_noSeat ln_X12_175 in_X12_noSeat rfl 5 dX12_line_2 rfl (m_noSeat q c) (by repeat (first | assumption | (refine rg_ne (by first | decide | omega) ?_) | apply rg_eq | refine rg_fr (by assumption) (by first | decide | (simp; omega)) ?_)) rfl rfl rfl ⟨(Nat.le_of_ble_eq_true rfl), (Nat.le_of_ble_eq_true rfl)⟩ (Nat.le_of_ble_eq_true rfl) ⟨(Nat.le_of_ble_eq_true rfl), (Nat.le_of_ble_eq_true rfl)⟩ ?_
    rintro _ _ ⟨rfl, rfl⟩
    refine a_if_ne 16 8 dX12_line_5 rfl (by decide) (fun c_5 => ?_) (fun c_5 => absurd c_5 (by rw [if_neg hc]; decide))
    refine a_iconst (-1) 17 dX12_line_16 rfl (by decide) ?_
    exact a_ireturn dX12_line_17 rfl rfl (Nat.le_of_ble_eq_true rfl) (Nat.le_of_ble_eq_true rfl) ⟨by rw [ea], ⟨i, j, q⟩, fun _ _ _ => rfl⟩
  · have hk32 : k < 32 := Nat.lt_of_lt_of_le hk hn
    rcases oT_cases (n := T.n) (Nat.lt_of_le_of_lt hn (by decide)) d with ⟨e2, hd⟩ | ⟨x, hx, rfl, e2⟩
    · have ea : aLine T (nI k) d = -1 := by unfold aLine; rw [e, e2]
      refine rM_start (by decide) (Nat.le_of_ble_eq_true rfl) ?_
      refine a_aload_n 1 dX12_line_0 rfl rfl ?_
      refine a_iload_n 2 dX12_line_1 rfl rfl ?_
      refine a_callV ok_X12_noSeat ln_X12_175 in_X12_noSeat rfl 5 dX12_line_2 rfl (m_noSeat q (nI k)) (by repeat (first | assumption | (refine rg_ne (by first | decide | omega) ?_) | apply rg_eq | refine rg_fr (by assumption) (by first | decide | (simp; omega)) ?_)) rfl rfl rfl ⟨(Nat.le_of_ble_eq_true rfl), (Nat.le_of_ble_eq_true rfl)⟩ (Nat.le_of_ble_eq_true rfl) ⟨(Nat.le_of_ble_eq_true rfl), (Nat.le_of_ble_eq_true rfl)⟩ ?_
      rintro _ _ ⟨rfl, rfl⟩
      refine a_if_ne 16 8 dX12_line_5 rfl (by decide) (fun c_5 => absurd (if_pos (oT_yes hk (Nat.lt_of_le_of_lt hn (by decide)))) c_5) (fun c_5 => ?_)
      refine a_aload_n 9 dX12_line_8 rfl rfl ?_
      refine a_iload_n 10 dX12_line_9 rfl rfl ?_
      refine a_callV ok_X12_noSeat ln_X12_175 in_X12_noSeat rfl 13 dX12_line_10 rfl (m_noSeat q d) (by repeat (first | assumption | (refine rg_ne (by first | decide | omega) ?_) | apply rg_eq | refine rg_fr (by assumption) (by first | decide | (simp; omega)) ?_)) rfl rfl rfl ⟨(Nat.le_of_ble_eq_true rfl), (Nat.le_of_ble_eq_true rfl)⟩ (Nat.le_of_ble_eq_true rfl) ⟨(Nat.le_of_ble_eq_true rfl), (Nat.le_of_ble_eq_true rfl)⟩ ?_
      rintro _ _ ⟨rfl, rfl⟩
      refine a_if_eq 18 16 dX12_line_13 rfl (by decide) (fun c_13 => absurd c_13 (by rw [if_neg hd]; decide)) (fun c_13 => ?_)
      refine a_iconst (-1) 17 dX12_line_16 rfl (by decide) ?_
      exact a_ireturn dX12_line_17 rfl rfl (Nat.le_of_ble_eq_true rfl) (Nat.le_of_ble_eq_true rfl) ⟨by rw [ea], ⟨i, j, q⟩, fun _ _ _ => rfl⟩
    · have hx32 : x < 32 := Nat.lt_of_lt_of_le hx hn
      have ea : aLine T (nI k) (nI x) = if seeB T.1 k x then 1 else 0 := by unfold aLine; rw [e, e2]
      have vx : vp_in (nI x) 32 := vp_in_nI hx32 (by decide)
      have ex : (nI x).toNatClampNeg = x := nI_clamp (by omega)
      obtain ⟨⟨f, hg⟩, hn0, hsn, hmi, hfa, hface, ⟨s0, hs0, hs00⟩, hL⟩ := id q.1
      obtain ⟨s', hL', hB', hs0'⟩ := hL k hk
      have hlay := k_X12_layLine (l := l) hg hn0 hsn hmi hfa hk32 (hface k) rfl hs0 hs00 hL'
      have es' := seeN T o hk hL'
      have esx : s' x = if seeB T.1 k x then 1 else 0 := by rw [es']
      have efin : ∀ {h2 : rH}, h2[44]? = some (.inl (gA G 1, 32, .inl s')) → fr h h2 [44] → mX G h2 T i j := fun hs2 hf2 => q.line (q.1.line hs2 hs0' hf2 (by decide) (by decide) (by decide) (by decide) (by decide)) hf2
      by_cases hS : seeB T.1 k x = true
      · rw [if_pos hS] at ea esx
        refine rM_start (by decide) (Nat.le_of_ble_eq_true rfl) ?_
        refine a_aload_n 1 dX12_line_0 rfl rfl ?_
        refine a_iload_n 2 dX12_line_1 rfl rfl ?_
        refine a_callV ok_X12_noSeat ln_X12_175 in_X12_noSeat rfl 5 dX12_line_2 rfl (m_noSeat q (nI k)) (by repeat (first | assumption | (refine rg_ne (by first | decide | omega) ?_) | apply rg_eq | refine rg_fr (by assumption) (by first | decide | (simp; omega)) ?_)) rfl rfl rfl ⟨(Nat.le_of_ble_eq_true rfl), (Nat.le_of_ble_eq_true rfl)⟩ (Nat.le_of_ble_eq_true rfl) ⟨(Nat.le_of_ble_eq_true rfl), (Nat.le_of_ble_eq_true rfl)⟩ ?_
        rintro _ _ ⟨rfl, rfl⟩
        refine a_if_ne 16 8 dX12_line_5 rfl (by decide) (fun c_5 => absurd (if_pos (oT_yes hk (Nat.lt_of_le_of_lt hn (by decide)))) c_5) (fun c_5 => ?_)
        refine a_aload_n 9 dX12_line_8 rfl rfl ?_
        refine a_iload_n 10 dX12_line_9 rfl rfl ?_
        refine a_callV ok_X12_noSeat ln_X12_175 in_X12_noSeat rfl 13 dX12_line_10 rfl (m_noSeat q (nI x)) (by repeat (first | assumption | (refine rg_ne (by first | decide | omega) ?_) | apply rg_eq | refine rg_fr (by assumption) (by first | decide | (simp; omega)) ?_)) rfl rfl rfl ⟨(Nat.le_of_ble_eq_true rfl), (Nat.le_of_ble_eq_true rfl)⟩ (Nat.le_of_ble_eq_true rfl) ⟨(Nat.le_of_ble_eq_true rfl), (Nat.le_of_ble_eq_true rfl)⟩ ?_
        rintro _ _ ⟨rfl, rfl⟩
        refine a_if_eq 18 16 dX12_line_13 rfl (by decide) (fun c_13 => ?_) (fun c_13 => absurd (if_pos (oT_yes hx (Nat.lt_of_le_of_lt hn (by decide)))) c_13)
        refine a_aload_n 19 dX12_line_18 rfl rfl ?_
        refine a_iload_n 20 dX12_line_19 rfl rfl ?_
        refine a_callV ok_X12_layLine ln_X12_178 in_X12_layLine rfl 23 dX12_line_20 rfl (hlay) (by repeat (first | assumption | (refine rg_ne (by first | decide | omega) ?_) | apply rg_eq | refine rg_fr (by assumption) (by first | decide | (simp; omega)) ?_)) rfl rfl rfl ⟨(Nat.le_of_ble_eq_true rfl), (Nat.le_of_ble_eq_true rfl)⟩ (Nat.le_of_ble_eq_true rfl) ⟨(Nat.le_of_ble_eq_true rfl), (Nat.le_of_ble_eq_true rfl)⟩ ?_
        rintro h2 v ⟨rfl, hs2, hf2⟩
        have q2 := efin hs2 hf2
        have hm2 := q2.at
        refine a_aload_n 24 dX12_line_23 rfl rfl ?_
        refine a_get fd_X12_26 rfl 27 dX12_line_24 rfl (by repeat (first | assumption | (refine rg_ne (by first | decide | omega) ?_) | apply rg_eq | refine rg_fr (by assumption) (by first | decide | (simp; omega)) ?_)) rfl ?_
        refine a_iload_n 28 dX12_line_27 rfl rfl ?_
        refine a_baload 29 dX12_line_28 rfl (by repeat (first | assumption | (refine rg_ne (by first | decide | omega) ?_) | apply rg_eq | refine rg_fr (by assumption) (by first | decide | (simp; omega)) ?_)) vx ?_
        rw [ex, esx]
        refine a_if_eq 36 32 dX12_line_29 rfl (by decide) (fun c_29 => absurd c_29 (by decide)) (fun c_29 => ?_)
        refine a_iconst (1) 33 dX12_line_32 rfl (by decide) ?_
        refine a_goto 37 dX12_line_33 (by decide) ?_
        exact a_ireturn dX12_line_37 rfl rfl (Nat.le_of_ble_eq_true rfl) (Nat.le_of_ble_eq_true rfl) ⟨by rw [ea], ⟨i, j, q2⟩, kp_mono (kp_fr hf2) (by decide)⟩
      · rw [if_neg hS] at ea esx
        refine rM_start (by decide) (Nat.le_of_ble_eq_true rfl) ?_
        refine a_aload_n 1 dX12_line_0 rfl rfl ?_
        refine a_iload_n 2 dX12_line_1 rfl rfl ?_
        refine a_callV ok_X12_noSeat ln_X12_175 in_X12_noSeat rfl 5 dX12_line_2 rfl (m_noSeat q (nI k)) (by repeat (first | assumption | (refine rg_ne (by first | decide | omega) ?_) | apply rg_eq | refine rg_fr (by assumption) (by first | decide | (simp; omega)) ?_)) rfl rfl rfl ⟨(Nat.le_of_ble_eq_true rfl), (Nat.le_of_ble_eq_true rfl)⟩ (Nat.le_of_ble_eq_true rfl) ⟨(Nat.le_of_ble_eq_true rfl), (Nat.le_of_ble_eq_true rfl)⟩ ?_
        rintro _ _ ⟨rfl, rfl⟩
        refine a_if_ne 16 8 dX12_line_5 rfl (by decide) (fun c_5 => absurd (if_pos (oT_yes hk (Nat.lt_of_le_of_lt hn (by decide)))) c_5) (fun c_5 => ?_)
        refine a_aload_n 9 dX12_line_8 rfl rfl ?_
        refine a_iload_n 10 dX12_line_9 rfl rfl ?_
        refine a_callV ok_X12_noSeat ln_X12_175 in_X12_noSeat rfl 13 dX12_line_10 rfl (m_noSeat q (nI x)) (by repeat (first | assumption | (refine rg_ne (by first | decide | omega) ?_) | apply rg_eq | refine rg_fr (by assumption) (by first | decide | (simp; omega)) ?_)) rfl rfl rfl ⟨(Nat.le_of_ble_eq_true rfl), (Nat.le_of_ble_eq_true rfl)⟩ (Nat.le_of_ble_eq_true rfl) ⟨(Nat.le_of_ble_eq_true rfl), (Nat.le_of_ble_eq_true rfl)⟩ ?_
        rintro _ _ ⟨rfl, rfl⟩
        refine a_if_eq 18 16 dX12_line_13 rfl (by decide) (fun c_13 => ?_) (fun c_13 => absurd (if_pos (oT_yes hx (Nat.lt_of_le_of_lt hn (by decide)))) c_13)
        refine a_aload_n 19 dX12_line_18 rfl rfl ?_
        refine a_iload_n 20 dX12_line_19 rfl rfl ?_
        refine a_callV ok_X12_layLine ln_X12_178 in_X12_layLine rfl 23 dX12_line_20 rfl (hlay) (by repeat (first | assumption | (refine rg_ne (by first | decide | omega) ?_) | apply rg_eq | refine rg_fr (by assumption) (by first | decide | (simp; omega)) ?_)) rfl rfl rfl ⟨(Nat.le_of_ble_eq_true rfl), (Nat.le_of_ble_eq_true rfl)⟩ (Nat.le_of_ble_eq_true rfl) ⟨(Nat.le_of_ble_eq_true rfl), (Nat.le_of_ble_eq_true rfl)⟩ ?_
        rintro h2 v ⟨rfl, hs2, hf2⟩
        have q2 := efin hs2 hf2
        have hm2 := q2.at
        refine a_aload_n 24 dX12_line_23 rfl rfl ?_
        refine a_get fd_X12_26 rfl 27 dX12_line_24 rfl (by repeat (first | assumption | (refine rg_ne (by first | decide | omega) ?_) | apply rg_eq | refine rg_fr (by assumption) (by first | decide | (simp; omega)) ?_)) rfl ?_
        refine a_iload_n 28 dX12_line_27 rfl rfl ?_
        refine a_baload 29 dX12_line_28 rfl (by repeat (first | assumption | (refine rg_ne (by first | decide | omega) ?_) | apply rg_eq | refine rg_fr (by assumption) (by first | decide | (simp; omega)) ?_)) vx ?_
        rw [ex, esx]
        refine a_if_eq 36 32 dX12_line_29 rfl (by decide) (fun c_29 => ?_) (fun c_29 => absurd rfl c_29)
        refine a_iconst (0) 37 dX12_line_36 rfl (by decide) ?_
        exact a_ireturn dX12_line_37 rfl rfl (Nat.le_of_ble_eq_true rfl) (Nat.le_of_ble_eq_true rfl) ⟨by rw [ea], ⟨i, j, q2⟩, kp_mono (kp_fr hf2) (by decide)⟩
set_option maxRecDepth 100000 in
set_option maxHeartbeats 400000 in
theorem m_many (q : mAll G h T) (o : T.ok) (c : Int32) : rM l G 12 mX12_many 0 0 [.ref (gN G + 38), .int c] h (fun h' v => v = some (.int (aMany T c)) ∧ mAll G h' T ∧ kp h h' mL) := by
  obtain ⟨i, j, q⟩ := q
  have hm := q.at
  obtain ⟨⟨f, -, -, -, -, -, h40, h41, -, -⟩, -, hsn, -⟩ := id q.1
  have e15 := q.2.1.2.1
  have e20 := q.2.2.1.2.1
  have e23 := q.2.2.2.1.2.1
  have L : ∀ (r x : Nat) (s y : Int32), x + r = 32 → s = nI (sumN (fun c => (if T.B (2 * c) = 0 then 0 else 1) + (if T.B (2 * c + 1) = 0 then 0 else 1)) x) → y = nI x → rW l G (rRm 12 0 0) mX12_many (rZ G (fun h' v => v = some (.int (aMany T c)) ∧ mAll G h' T ∧ kp h h' mL) 0 0) 0 0 4 [some (.ref (gN G + 38)), some (.int c), some (.int s), some (.int y)] [] h := by
    intro r
    induction r with
    | zero =>
      intro x s y hx hs hy
      subst hs; subst hy
      have e : x = 32 := by omega
      subst e
      have esum := sum_pair (fun g => if T.B g = 0 then 0 else 1) 32
      refine a_iload_n 5 dX12_many_4 rfl rfl ?_
      refine a_bipush (32) 7 dX12_many_5 rfl (by decide) ?_
      refine a_icmp_ge 48 10 dX12_many_7 rfl (by decide) (fun c_7 => ?_) (fun c_7 => absurd (by decide) c_7)
      refine a_iload_n 49 dX12_many_48 rfl rfl ?_
      rcases (show (c).toInt = 0 ∨ (c).toInt = 1 ∨ (c).toInt = 2 ∨ (c).toInt = 3 ∨ (c).toInt = 4 ∨ ((c).toInt < 0 ∨ 4 < (c).toInt) by omega) with w_49 | w_49 | w_49 | w_49 | w_49 | w_49
      · refine a_tableIn 84 dX12_many_49 (by rw [w_49]; decide) (by rw [w_49]; decide) (by rw [w_49]; rfl) (by decide) ?_
        refine a_aload_n 85 dX12_many_84 rfl rfl ?_
        refine a_callV ok_X12_seats ln_X12_114 in_X12_seats rfl 88 dX12_many_85 rfl (k_X12_seats hm) (by repeat (first | assumption | (refine rg_ne (by first | decide | omega) ?_) | apply rg_eq | refine rg_fr (by assumption) (by first | decide | (simp; omega)) ?_)) rfl rfl rfl ⟨(Nat.le_of_ble_eq_true rfl), (Nat.le_of_ble_eq_true rfl)⟩ (Nat.le_of_ble_eq_true rfl) ⟨(Nat.le_of_ble_eq_true rfl), (Nat.le_of_ble_eq_true rfl)⟩ ?_
        rintro _ _ ⟨rfl, rfl⟩
        exact a_ireturn dX12_many_88 rfl rfl (Nat.le_of_ble_eq_true rfl) (Nat.le_of_ble_eq_true rfl) ⟨by unfold aMany; repeat (first | rfl | rw [hsn] | rw [e15] | rw [e20] | rw [e23] | rw [show (64 : Nat) = 2 * 32 from rfl, esum] | rw [if_pos (by omega)] | rw [if_neg (by omega)]), ⟨i, j, q⟩, fun _ _ _ => rfl⟩
      · refine a_tableIn 89 dX12_many_49 (by rw [w_49]; decide) (by rw [w_49]; decide) (by rw [w_49]; rfl) (by decide) ?_
        refine a_aload_n 90 dX12_many_89 rfl rfl ?_
        refine a_get fd_X12_160 rfl 93 dX12_many_90 rfl (by repeat (first | assumption | (refine rg_ne (by first | decide | omega) ?_) | apply rg_eq | refine rg_fr (by assumption) (by first | decide | (simp; omega)) ?_)) rfl ?_
        exact a_ireturn dX12_many_93 rfl rfl (Nat.le_of_ble_eq_true rfl) (Nat.le_of_ble_eq_true rfl) ⟨by unfold aMany; repeat (first | rfl | rw [hsn] | rw [e15] | rw [e20] | rw [e23] | rw [show (64 : Nat) = 2 * 32 from rfl, esum] | rw [if_pos (by omega)] | rw [if_neg (by omega)]), ⟨i, j, q⟩, fun _ _ _ => rfl⟩
      · refine a_tableIn 94 dX12_many_49 (by rw [w_49]; decide) (by rw [w_49]; decide) (by rw [w_49]; rfl) (by decide) ?_
        refine a_aload_n 95 dX12_many_94 rfl rfl ?_
        refine a_get fd_X12_203 rfl 98 dX12_many_95 rfl (by repeat (first | assumption | (refine rg_ne (by first | decide | omega) ?_) | apply rg_eq | refine rg_fr (by assumption) (by first | decide | (simp; omega)) ?_)) rfl ?_
        exact a_ireturn dX12_many_98 rfl rfl (Nat.le_of_ble_eq_true rfl) (Nat.le_of_ble_eq_true rfl) ⟨by unfold aMany; repeat (first | rfl | rw [hsn] | rw [e15] | rw [e20] | rw [e23] | rw [show (64 : Nat) = 2 * 32 from rfl, esum] | rw [if_pos (by omega)] | rw [if_neg (by omega)]), ⟨i, j, q⟩, fun _ _ _ => rfl⟩
      · refine a_tableIn 99 dX12_many_49 (by rw [w_49]; decide) (by rw [w_49]; decide) (by rw [w_49]; rfl) (by decide) ?_
        refine a_aload_n 100 dX12_many_99 rfl rfl ?_
        refine a_get fd_X12_163 rfl 103 dX12_many_100 rfl (by repeat (first | assumption | (refine rg_ne (by first | decide | omega) ?_) | apply rg_eq | refine rg_fr (by assumption) (by first | decide | (simp; omega)) ?_)) rfl ?_
        exact a_ireturn dX12_many_103 rfl rfl (Nat.le_of_ble_eq_true rfl) (Nat.le_of_ble_eq_true rfl) ⟨by unfold aMany; repeat (first | rfl | rw [hsn] | rw [e15] | rw [e20] | rw [e23] | rw [show (64 : Nat) = 2 * 32 from rfl, esum] | rw [if_pos (by omega)] | rw [if_neg (by omega)]), ⟨i, j, q⟩, fun _ _ _ => rfl⟩
      · refine a_tableIn 104 dX12_many_49 (by rw [w_49]; decide) (by rw [w_49]; decide) (by rw [w_49]; rfl) (by decide) ?_
        refine a_iload_n 105 dX12_many_104 rfl rfl ?_
        exact a_ireturn dX12_many_105 rfl rfl (Nat.le_of_ble_eq_true rfl) (Nat.le_of_ble_eq_true rfl) ⟨by unfold aMany; repeat (first | rfl | rw [hsn] | rw [e15] | rw [e20] | rw [e23] | rw [show (64 : Nat) = 2 * 32 from rfl, esum] | rw [if_pos (by omega)] | rw [if_neg (by omega)]), ⟨i, j, q⟩, fun _ _ _ => rfl⟩
      · refine a_tableOut 106 dX12_many_49 w_49 (by decide) ?_
        refine a_bipush (-2) 108 dX12_many_106 rfl (by decide) ?_
        exact a_ireturn dX12_many_108 rfl rfl (Nat.le_of_ble_eq_true rfl) (Nat.le_of_ble_eq_true rfl) ⟨by unfold aMany; repeat (first | rfl | rw [hsn] | rw [e15] | rw [e20] | rw [e23] | rw [show (64 : Nat) = 2 * 32 from rfl, esum] | rw [if_pos (by omega)] | rw [if_neg (by omega)]), ⟨i, j, q⟩, fun _ _ _ => rfl⟩
    | succ r ih =>
      intro x s y hx hs hy
      subst hs; subst hy
      have vx : vp_in (nI x) 32 := vp_in_nI (by omega) (by decide)
      have ex : (nI x).toNatClampNeg = x := nI_clamp (by omega)
      have st : ∀ a b : Int32, (a = nI (if T.B (2 * x) = 0 then 0 else 1)) → (b = nI (if T.B (2 * x + 1) = 0 then 0 else 1)) → nI (sumN (fun c => (if T.B (2 * c) = 0 then 0 else 1) + (if T.B (2 * c + 1) = 0 then 0 else 1)) x) + (a + b) = nI (sumN (fun c => (if T.B (2 * c) = 0 then 0 else 1) + (if T.B (2 * c + 1) = 0 then 0 else 1)) (x + 1)) := by
        intro a b ha hb
        rw [ha, hb, nI_add, nI_add]
        rfl
      refine a_iload_n 5 dX12_many_4 rfl rfl ?_
      refine a_bipush (32) 7 dX12_many_5 rfl (by decide) ?_
      refine a_icmp_ge 48 10 dX12_many_7 rfl (by decide) (fun c_7 => absurd c_7 (nI_ge (a := x) (b := 32) (by omega) (by decide))) (fun c_7 => ?_)
      refine a_iload_n 11 dX12_many_10 rfl rfl ?_
      refine a_aload_n 12 dX12_many_11 rfl rfl ?_
      refine a_get fd_X12_13 rfl 15 dX12_many_12 rfl (by repeat (first | assumption | (refine rg_ne (by first | decide | omega) ?_) | apply rg_eq | refine rg_fr (by assumption) (by first | decide | (simp; omega)) ?_)) rfl ?_
      refine a_iload_n 16 dX12_many_15 rfl rfl ?_
      refine a_baload 17 dX12_many_16 rfl (by repeat (first | assumption | (refine rg_ne (by first | decide | omega) ?_) | apply rg_eq | refine rg_fr (by assumption) (by first | decide | (simp; omega)) ?_)) vx ?_
      rw [ex]
      refine a_if_eq 24 20 dX12_many_17 rfl (by decide) (fun c_17 => ?_) (fun c_17 => ?_)
      · refine a_iconst (0) 25 dX12_many_24 rfl (by decide) ?_
        refine a_aload_n 26 dX12_many_25 rfl rfl ?_
        refine a_get fd_X12_17 rfl 29 dX12_many_26 rfl (by repeat (first | assumption | (refine rg_ne (by first | decide | omega) ?_) | apply rg_eq | refine rg_fr (by assumption) (by first | decide | (simp; omega)) ?_)) rfl ?_
        refine a_iload_n 30 dX12_many_29 rfl rfl ?_
        refine a_baload 31 dX12_many_30 rfl (by repeat (first | assumption | (refine rg_ne (by first | decide | omega) ?_) | apply rg_eq | refine rg_fr (by assumption) (by first | decide | (simp; omega)) ?_)) vx ?_
        rw [ex]
        refine a_if_eq 38 34 dX12_many_31 rfl (by decide) (fun c_31 => ?_) (fun c_31 => ?_)
        · refine a_iconst (0) 39 dX12_many_38 rfl (by decide) ?_
          refine a_iadd 40 dX12_many_39 rfl ?_
          refine a_iadd 41 dX12_many_40 rfl ?_
          refine a_istore_n 42 dX12_many_41 rfl (by decide) ?_
          refine a_iinc _ 45 dX12_many_42 rfl rfl (by decide) rfl ?_
          refine a_goto 4 dX12_many_45 (by decide) ?_
          exact ih (x + 1) _ _ (by omega) (st _ _ (by rw [if_pos (show T.B (2 * x) = 0 from c_17)]; rfl) (by rw [if_pos (show T.B (2 * x + 1) = 0 from c_31)]; rfl)) (nI_1 x)
        · refine a_iconst (1) 35 dX12_many_34 rfl (by decide) ?_
          refine a_goto 39 dX12_many_35 (by decide) ?_
          refine a_iadd 40 dX12_many_39 rfl ?_
          refine a_iadd 41 dX12_many_40 rfl ?_
          refine a_istore_n 42 dX12_many_41 rfl (by decide) ?_
          refine a_iinc _ 45 dX12_many_42 rfl rfl (by decide) rfl ?_
          refine a_goto 4 dX12_many_45 (by decide) ?_
          exact ih (x + 1) _ _ (by omega) (st _ _ (by rw [if_pos (show T.B (2 * x) = 0 from c_17)]; rfl) (by rw [if_neg (show ¬ T.B (2 * x + 1) = 0 from c_31)]; rfl)) (nI_1 x)
      · refine a_iconst (1) 21 dX12_many_20 rfl (by decide) ?_
        refine a_goto 25 dX12_many_21 (by decide) ?_
        refine a_aload_n 26 dX12_many_25 rfl rfl ?_
        refine a_get fd_X12_17 rfl 29 dX12_many_26 rfl (by repeat (first | assumption | (refine rg_ne (by first | decide | omega) ?_) | apply rg_eq | refine rg_fr (by assumption) (by first | decide | (simp; omega)) ?_)) rfl ?_
        refine a_iload_n 30 dX12_many_29 rfl rfl ?_
        refine a_baload 31 dX12_many_30 rfl (by repeat (first | assumption | (refine rg_ne (by first | decide | omega) ?_) | apply rg_eq | refine rg_fr (by assumption) (by first | decide | (simp; omega)) ?_)) vx ?_
        rw [ex]
        refine a_if_eq 38 34 dX12_many_31 rfl (by decide) (fun c_31 => ?_) (fun c_31 => ?_)
        · refine a_iconst (0) 39 dX12_many_38 rfl (by decide) ?_
          refine a_iadd 40 dX12_many_39 rfl ?_
          refine a_iadd 41 dX12_many_40 rfl ?_
          refine a_istore_n 42 dX12_many_41 rfl (by decide) ?_
          refine a_iinc _ 45 dX12_many_42 rfl rfl (by decide) rfl ?_
          refine a_goto 4 dX12_many_45 (by decide) ?_
          exact ih (x + 1) _ _ (by omega) (st _ _ (by rw [if_neg (show ¬ T.B (2 * x) = 0 from c_17)]; rfl) (by rw [if_pos (show T.B (2 * x + 1) = 0 from c_31)]; rfl)) (nI_1 x)
        · refine a_iconst (1) 35 dX12_many_34 rfl (by decide) ?_
          refine a_goto 39 dX12_many_35 (by decide) ?_
          refine a_iadd 40 dX12_many_39 rfl ?_
          refine a_iadd 41 dX12_many_40 rfl ?_
          refine a_istore_n 42 dX12_many_41 rfl (by decide) ?_
          refine a_iinc _ 45 dX12_many_42 rfl rfl (by decide) rfl ?_
          refine a_goto 4 dX12_many_45 (by decide) ?_
          exact ih (x + 1) _ _ (by omega) (st _ _ (by rw [if_neg (show ¬ T.B (2 * x) = 0 from c_17)]; rfl) (by rw [if_neg (show ¬ T.B (2 * x + 1) = 0 from c_31)]; rfl)) (nI_1 x)
  refine rM_start (by decide) (Nat.le_of_ble_eq_true rfl) ?_
  refine a_iconst (0) 1 dX12_many_0 rfl (by decide) ?_
  refine a_istore_n 2 dX12_many_1 rfl (by decide) ?_
  refine a_iconst (0) 3 dX12_many_2 rfl (by decide) ?_
  refine a_istore_n 4 dX12_many_3 rfl (by decide) ?_
  exact L 32 0 _ _ (by omega) rfl rfl
end MSEAT
