/-! THE MODEL's calls that set: blind, move, one, yawn, back -/
/-- lines of any carriage end -/
theorem mc_mk {G : rG} {h : rH} {T : Tn} {i : Nat → Int32} {j : Nat → Int64} (o : okC T.1) (hg : ∃ f, mgAt G h i j f T.bR T.bB T.nb T.wi) (hsn : i 1 * i 2 = nI T.n) (hmi : i 3 = (if T.mir then 1 else 0)) (hfa : h[39]? = some (.inl (gA G 0, 32, .inl (fun c => nI (T.face c))))) (hs : ∃ s, h[44]? = some (.inl (gA G 1, 32, .inl s)) ∧ ∀ d, T.n ≤ d → s d = 0) : mcAt G h i j T.nb T.bR T.bB T.wi T.n T.mir T.face := by
  refine ⟨hg, okC_n o, hsn, hmi, hfa, o.2.2.1, hs, fun c hc => ?_⟩
  have e := lineM_see o (c := c) hc
  refine ⟨_, e, fun x => ?_, fun d hd => ?_⟩
  · by_cases z : seeB T.1 c x = true
    · exact Or.inr (if_pos z)
    · exact Or.inl (if_neg z)
  · refine if_neg (fun z => ?_)
    have hlt : d < T.n := see_lt o hc z
    omega
theorem hal_no {P : Prop} (h : ¬ P) : ¬ P := h
theorem yaw_f {f : Nat → Int32} {y : Nat → Nat} {n a M : Nat} (h : ∀ p, p < n → f p = nI (y p) ∧ y p < M) (ha : a < M) : ∀ p, p < n + 1 → upd f n (nI a) p = nI (if p = n then a else y p) ∧ (if p = n then a else y p) < M := by
  intro p hp
  by_cases e : p = n
  · subst e; rw [pk_us, if_pos rfl]; exact ⟨rfl, ha⟩
  · rw [pk_un e, if_neg e]; exact h p (by omega)
section MSET
variable {l : Launch} {G : rG} {h : rH} {T : Tn}
theorem okC_B {C : CarT} (o : okC C) {B' : Nat → Int32} (hB : isB B') : okC (C.1, B', C.2.2) := ⟨o.1, o.2.1, o.2.2.1, hB, o.2.2.2.2.1, o.2.2.2.2.2⟩
theorem bR_upd {T : Tn} {k e : Nat} {x : Int32} : (fun c => upd T.B (gpN T.wi k e) x (2 * c)) = (if isBeh T.wi k e then T.bR else upd T.bR (min k e) x) := by
  funext c
  unfold gpN isBeh
  by_cases z : max k e - min k e = T.wi
  · rw [if_pos z, if_pos z, pk_un (by omega)]
  · rw [if_neg z, if_neg z]
    by_cases y : c = min k e
    · subst y; rw [pk_us, Nat.add_zero, pk_us]
    · rw [pk_un y, pk_un (by omega)]
theorem bB_upd {T : Tn} {k e : Nat} {x : Int32} : (fun c => upd T.B (gpN T.wi k e) x (2 * c + 1)) = (if isBeh T.wi k e then upd T.bB (min k e) x else T.bB) := by
  funext c
  unfold gpN isBeh
  by_cases z : max k e - min k e = T.wi
  · rw [if_pos z, if_pos z]
    by_cases y : c = min k e
    · subst y; rw [pk_us, pk_us]
    · rw [pk_un y, pk_un (by omega)]
  · rw [if_neg z, if_neg z, pk_un (by omega)]
/-- behind a change of blinds -/
theorem mX_B {h' : rH} {i : Nat → Int32} {j : Nat → Int64} {k e : Nat} {x : Int32} (q : mX G h T i j) (o : okC T.1) (hx : x = 0 ∨ x = 1) (h40 : h'[40]? = some (.inl (gA G 1, 32, .inl (if isBeh T.wi k e then T.bR else upd T.bR (min k e) x)))) (h41 : h'[41]? = some (.inl (gA G 1, 32, .inl (if isBeh T.wi k e then upd T.bB (min k e) x else T.bB)))) (hf : fr h h' [40, 41]) : mX G h' (setB T (upd T.B (gpN T.wi k e) x)) i j := by
  obtain ⟨⟨⟨f, a1, a2, a3, a4, a5, a6, a7, a8, a9⟩, b1, b2, b3, b4, b5, ⟨s, b6, b7⟩, -⟩, q2, q3, q4, q5, q6, q7⟩ := q
  have hB' : isB (upd T.B (gpN T.wi k e) x) := isB_upd o.2.2.2.1 hx
  refine ⟨mc_mk (T := setB T (upd T.B (gpN T.wi k e) x)) (okC_B o hB') ⟨f, rg_fr hf (by decide) a1, a2, a3, rg_fr hf (by decide) a4, a5, ?_, ?_, fun c => hB' _, fun c => hB' _⟩ b2 b3 (rg_fr hf (by decide) b4) ⟨s, rg_fr hf (by decide) b6, b7⟩, q2.fr hf (by decide) (by decide) (by decide) (by decide) (by decide), q3.fr hf (by decide) (by decide), q4.fr hf (by decide) (by decide) (by decide), q5.kp (kp_fr hf) (by decide), q6.kp (kp_fr hf) (by decide), q7⟩
  · rw [show (setB T (upd T.B (gpN T.wi k e) x)).bR = _ from bR_upd (T := T) (k := k) (e := e) (x := x)]; exact h40
  · rw [show (setB T (upd T.B (gpN T.wi k e) x)).bB = _ from bB_upd (T := T) (k := k) (e := e) (x := x)]; exact h41
theorem bl_gp {k e : Nat} : blM T.bR T.bB T.wi k e = T.B (gpN T.wi k e) := blC_gp T.1 k e
set_option maxRecDepth 100000 in
set_option maxHeartbeats 400000 in
theorem m_blind (q : mAll G h T) (o : T.ok) (c d x : Int32) (hx : x = 0 ∨ x = 1) : rM l G 12 mX12_blind 0 0 [.ref (gN G + 38), .int c, .int d, .int x] h (fun h' v => v = some (.int (aBlind T c d x)) ∧ mAll G h' (tBlind T c d x) ∧ kp h h' mL) := by
  obtain ⟨i, j, q⟩ := q
  have hn := o.n32
  have hm := q.at
  rcases oT_cases (n := T.n) (Nat.lt_of_le_of_lt hn (by decide)) c with ⟨e, hc⟩ | ⟨k, hk, rfl, e⟩
  · have ea : aBlind T c d x = -1 := by unfold aBlind; rw [e]
    have et : tBlind T c d x = T := by unfold tBlind; rw [e]
    refine rM_start (by decide) (Nat.le_of_ble_eq_true rfl) ?_
    refine a_aload_n 1 dX12_blind_0 rfl rfl ?_
    refine a_iload_n 2 dX12_blind_1 rfl rfl ?_
    refine a_callV ok_X12_noSeat ln_X12_175 in_X12_noSeat rfl 5 dX12_blind_2 rfl (m_noSeat q c) (by repeat (first | assumption | (refine rg_ne (by first | decide | omega) ?_) | apply rg_eq | refine rg_fr (by assumption) (by first | decide | (simp; omega)) ?_)) rfl rfl rfl ⟨(Nat.le_of_ble_eq_true rfl), (Nat.le_of_ble_eq_true rfl)⟩ (Nat.le_of_ble_eq_true rfl) ⟨(Nat.le_of_ble_eq_true rfl), (Nat.le_of_ble_eq_true rfl)⟩ ?_
    rintro _ _ ⟨rfl, rfl⟩
    refine a_if_ne 16 8 dX12_blind_5 rfl (by decide) (fun c_5 => ?_) (fun c_5 => absurd c_5 (by rw [if_neg hc]; decide))
    refine a_iconst (-1) 17 dX12_blind_16 rfl (by decide) ?_
    exact a_ireturn dX12_blind_17 rfl rfl (Nat.le_of_ble_eq_true rfl) (Nat.le_of_ble_eq_true rfl) ⟨by rw [ea], by rw [et]; exact ⟨i, j, q⟩, fun _ _ _ => rfl⟩
  · have hk32 : k < 32 := Nat.lt_of_lt_of_le hk hn
    rcases oT_cases (n := T.n) (Nat.lt_of_le_of_lt hn (by decide)) d with ⟨e2, hd⟩ | ⟨y, hy, rfl, e2⟩
    · have ea : aBlind T (nI k) d x = -1 := by unfold aBlind; rw [e, e2]
      have et : tBlind T (nI k) d x = T := by unfold tBlind; rw [e, e2]
      refine rM_start (by decide) (Nat.le_of_ble_eq_true rfl) ?_
      refine a_aload_n 1 dX12_blind_0 rfl rfl ?_
      refine a_iload_n 2 dX12_blind_1 rfl rfl ?_
      refine a_callV ok_X12_noSeat ln_X12_175 in_X12_noSeat rfl 5 dX12_blind_2 rfl (m_noSeat q (nI k)) (by repeat (first | assumption | (refine rg_ne (by first | decide | omega) ?_) | apply rg_eq | refine rg_fr (by assumption) (by first | decide | (simp; omega)) ?_)) rfl rfl rfl ⟨(Nat.le_of_ble_eq_true rfl), (Nat.le_of_ble_eq_true rfl)⟩ (Nat.le_of_ble_eq_true rfl) ⟨(Nat.le_of_ble_eq_true rfl), (Nat.le_of_ble_eq_true rfl)⟩ ?_
      rintro _ _ ⟨rfl, rfl⟩
      refine a_if_ne 16 8 dX12_blind_5 rfl (by decide) (fun c_5 => absurd (if_pos (oT_yes hk (Nat.lt_of_le_of_lt hn (by decide)))) c_5) (fun c_5 => ?_)
      refine a_aload_n 9 dX12_blind_8 rfl rfl ?_
      refine a_iload_n 10 dX12_blind_9 rfl rfl ?_
      refine a_callV ok_X12_noSeat ln_X12_175 in_X12_noSeat rfl 13 dX12_blind_10 rfl (m_noSeat q d) (by repeat (first | assumption | (refine rg_ne (by first | decide | omega) ?_) | apply rg_eq | refine rg_fr (by assumption) (by first | decide | (simp; omega)) ?_)) rfl rfl rfl ⟨(Nat.le_of_ble_eq_true rfl), (Nat.le_of_ble_eq_true rfl)⟩ (Nat.le_of_ble_eq_true rfl) ⟨(Nat.le_of_ble_eq_true rfl), (Nat.le_of_ble_eq_true rfl)⟩ ?_
      rintro _ _ ⟨rfl, rfl⟩
      refine a_if_eq 18 16 dX12_blind_13 rfl (by decide) (fun c_13 => absurd c_13 (by rw [if_neg hd]; decide)) (fun c_13 => ?_)
      refine a_iconst (-1) 17 dX12_blind_16 rfl (by decide) ?_
      exact a_ireturn dX12_blind_17 rfl rfl (Nat.le_of_ble_eq_true rfl) (Nat.le_of_ble_eq_true rfl) ⟨by rw [ea], by rw [et]; exact ⟨i, j, q⟩, fun _ _ _ => rfl⟩
    · have hy32 : y < 32 := Nat.lt_of_lt_of_le hy hn
      have ea : aBlind T (nI k) (nI y) x = if hearM T.nb k y then (if T.B (gpN T.wi k y) = x then 0 else 1) else -2 := by unfold aBlind; rw [e, e2]
      have et : tBlind T (nI k) (nI y) x = if hearM T.nb k y then setB T (upd T.B (gpN T.wi k y) x) else T := by unfold tBlind; rw [e, e2]
      obtain ⟨⟨f, a1, a2, a3, a4, a5, a6, a7, a8, a9⟩, -⟩ := id q.1
      by_cases hh : hearM T.nb k y = true
      · rw [if_pos hh] at ea et
        refine rM_start (by decide) (Nat.le_of_ble_eq_true rfl) ?_
        refine a_aload_n 1 dX12_blind_0 rfl rfl ?_
        refine a_iload_n 2 dX12_blind_1 rfl rfl ?_
        refine a_callV ok_X12_noSeat ln_X12_175 in_X12_noSeat rfl 5 dX12_blind_2 rfl (m_noSeat q (nI k)) (by repeat (first | assumption | (refine rg_ne (by first | decide | omega) ?_) | apply rg_eq | refine rg_fr (by assumption) (by first | decide | (simp; omega)) ?_)) rfl rfl rfl ⟨(Nat.le_of_ble_eq_true rfl), (Nat.le_of_ble_eq_true rfl)⟩ (Nat.le_of_ble_eq_true rfl) ⟨(Nat.le_of_ble_eq_true rfl), (Nat.le_of_ble_eq_true rfl)⟩ ?_
        rintro _ _ ⟨rfl, rfl⟩
        refine a_if_ne 16 8 dX12_blind_5 rfl (by decide) (fun c_5 => absurd (if_pos (oT_yes hk (Nat.lt_of_le_of_lt hn (by decide)))) c_5) (fun c_5 => ?_)
        refine a_aload_n 9 dX12_blind_8 rfl rfl ?_
        refine a_iload_n 10 dX12_blind_9 rfl rfl ?_
        refine a_callV ok_X12_noSeat ln_X12_175 in_X12_noSeat rfl 13 dX12_blind_10 rfl (m_noSeat q (nI y)) (by repeat (first | assumption | (refine rg_ne (by first | decide | omega) ?_) | apply rg_eq | refine rg_fr (by assumption) (by first | decide | (simp; omega)) ?_)) rfl rfl rfl ⟨(Nat.le_of_ble_eq_true rfl), (Nat.le_of_ble_eq_true rfl)⟩ (Nat.le_of_ble_eq_true rfl) ⟨(Nat.le_of_ble_eq_true rfl), (Nat.le_of_ble_eq_true rfl)⟩ ?_
        rintro _ _ ⟨rfl, rfl⟩
        refine a_if_eq 18 16 dX12_blind_13 rfl (by decide) (fun c_13 => ?_) (fun c_13 => absurd (if_pos (oT_yes hy (Nat.lt_of_le_of_lt hn (by decide)))) c_13)
        refine a_aload_n 19 dX12_blind_18 rfl rfl ?_
        refine a_iload_n 20 dX12_blind_19 rfl rfl ?_
        refine a_iload_n 21 dX12_blind_20 rfl rfl ?_
        refine a_callV ok_X12_isGap ln_X12_185 in_X12_isGap rfl 24 dX12_blind_21 rfl (k_X12_isGap a1 a4 a5 hk32 hy32) (by repeat (first | assumption | (refine rg_ne (by first | decide | omega) ?_) | apply rg_eq | refine rg_fr (by assumption) (by first | decide | (simp; omega)) ?_)) rfl rfl rfl ⟨(Nat.le_of_ble_eq_true rfl), (Nat.le_of_ble_eq_true rfl)⟩ (Nat.le_of_ble_eq_true rfl) ⟨(Nat.le_of_ble_eq_true rfl), (Nat.le_of_ble_eq_true rfl)⟩ ?_
        rintro _ _ ⟨rfl, rfl⟩
        refine a_if_ne 30 27 dX12_blind_24 rfl (by decide) (fun c_24 => ?_) (fun c_24 => absurd c_24 (by rw [if_pos hh]; decide))
        refine a_aload_n 31 dX12_blind_30 rfl rfl ?_
        refine a_iload_n 32 dX12_blind_31 rfl rfl ?_
        refine a_iload_n 33 dX12_blind_32 rfl rfl ?_
        refine a_callV ok_X12_isBlind ln_X12_169 in_X12_isBlind rfl 36 dX12_blind_33 rfl (k_X12_isBlind a1 a2 a3 a6 a7 a8 a9 hk32 hy32) (by repeat (first | assumption | (refine rg_ne (by first | decide | omega) ?_) | apply rg_eq | refine rg_fr (by assumption) (by first | decide | (simp; omega)) ?_)) rfl rfl rfl ⟨(Nat.le_of_ble_eq_true rfl), (Nat.le_of_ble_eq_true rfl)⟩ (Nat.le_of_ble_eq_true rfl) ⟨(Nat.le_of_ble_eq_true rfl), (Nat.le_of_ble_eq_true rfl)⟩ ?_
        rintro _ _ ⟨rfl, rfl⟩
        refine a_istore 38 dX12_blind_36 rfl (by decide) ?_
        refine a_aload_n 39 dX12_blind_38 rfl rfl ?_
        refine a_iload_n 40 dX12_blind_39 rfl rfl ?_
        refine a_iload_n 41 dX12_blind_40 rfl rfl ?_
        refine a_iload_n 42 dX12_blind_41 rfl rfl ?_
        refine a_callV ok_X12_hang ln_X12_188 in_X12_hang rfl 45 dX12_blind_42 rfl (k_X12_hang a1 a2 a3 a6 a7 hk32 hy32 hx) (by repeat (first | assumption | (refine rg_ne (by first | decide | omega) ?_) | apply rg_eq | refine rg_fr (by assumption) (by first | decide | (simp; omega)) ?_)) rfl rfl rfl ⟨(Nat.le_of_ble_eq_true rfl), (Nat.le_of_ble_eq_true rfl)⟩ (Nat.le_of_ble_eq_true rfl) ⟨(Nat.le_of_ble_eq_true rfl), (Nat.le_of_ble_eq_true rfl)⟩ ?_
        rintro h2 v ⟨rfl, h40, h41, hf2⟩
        have q2 := mX_B q o.1 hx h40 h41 hf2
        refine a_iload 47 dX12_blind_45 rfl rfl ?_
        refine a_iload_n 48 dX12_blind_47 rfl rfl ?_
        refine a_icmp_ne 55 51 dX12_blind_48 rfl (by decide) (fun c_48 => ?_) (fun c_48 => ?_)
        · refine a_iconst (1) 56 dX12_blind_55 rfl (by decide) ?_
          exact a_ireturn dX12_blind_56 rfl rfl (Nat.le_of_ble_eq_true rfl) (Nat.le_of_ble_eq_true rfl) ⟨by rw [ea, ← bl_gp, if_neg c_48], by rw [et]; exact ⟨i, j, q2⟩, kp_mono (kp_fr hf2) (by decide)⟩
        · refine a_iconst (0) 52 dX12_blind_51 rfl (by decide) ?_
          refine a_goto 56 dX12_blind_52 (by decide) ?_
          exact a_ireturn dX12_blind_56 rfl rfl (Nat.le_of_ble_eq_true rfl) (Nat.le_of_ble_eq_true rfl) ⟨by rw [ea, ← bl_gp, if_pos c_48], by rw [et]; exact ⟨i, j, q2⟩, kp_mono (kp_fr hf2) (by decide)⟩
      · rw [if_neg hh] at ea et
        refine rM_start (by decide) (Nat.le_of_ble_eq_true rfl) ?_
        refine a_aload_n 1 dX12_blind_0 rfl rfl ?_
        refine a_iload_n 2 dX12_blind_1 rfl rfl ?_
        refine a_callV ok_X12_noSeat ln_X12_175 in_X12_noSeat rfl 5 dX12_blind_2 rfl (m_noSeat q (nI k)) (by repeat (first | assumption | (refine rg_ne (by first | decide | omega) ?_) | apply rg_eq | refine rg_fr (by assumption) (by first | decide | (simp; omega)) ?_)) rfl rfl rfl ⟨(Nat.le_of_ble_eq_true rfl), (Nat.le_of_ble_eq_true rfl)⟩ (Nat.le_of_ble_eq_true rfl) ⟨(Nat.le_of_ble_eq_true rfl), (Nat.le_of_ble_eq_true rfl)⟩ ?_
        rintro _ _ ⟨rfl, rfl⟩
        refine a_if_ne 16 8 dX12_blind_5 rfl (by decide) (fun c_5 => absurd (if_pos (oT_yes hk (Nat.lt_of_le_of_lt hn (by decide)))) c_5) (fun c_5 => ?_)
        refine a_aload_n 9 dX12_blind_8 rfl rfl ?_
        refine a_iload_n 10 dX12_blind_9 rfl rfl ?_
        refine a_callV ok_X12_noSeat ln_X12_175 in_X12_noSeat rfl 13 dX12_blind_10 rfl (m_noSeat q (nI y)) (by repeat (first | assumption | (refine rg_ne (by first | decide | omega) ?_) | apply rg_eq | refine rg_fr (by assumption) (by first | decide | (simp; omega)) ?_)) rfl rfl rfl ⟨(Nat.le_of_ble_eq_true rfl), (Nat.le_of_ble_eq_true rfl)⟩ (Nat.le_of_ble_eq_true rfl) ⟨(Nat.le_of_ble_eq_true rfl), (Nat.le_of_ble_eq_true rfl)⟩ ?_
        rintro _ _ ⟨rfl, rfl⟩
        refine a_if_eq 18 16 dX12_blind_13 rfl (by decide) (fun c_13 => ?_) (fun c_13 => absurd (if_pos (oT_yes hy (Nat.lt_of_le_of_lt hn (by decide)))) c_13)
        refine a_aload_n 19 dX12_blind_18 rfl rfl ?_
        refine a_iload_n 20 dX12_blind_19 rfl rfl ?_
        refine a_iload_n 21 dX12_blind_20 rfl rfl ?_
        refine a_callV ok_X12_isGap ln_X12_185 in_X12_isGap rfl 24 dX12_blind_21 rfl (k_X12_isGap a1 a4 a5 hk32 hy32) (by repeat (first | assumption | (refine rg_ne (by first | decide | omega) ?_) | apply rg_eq | refine rg_fr (by assumption) (by first | decide | (simp; omega)) ?_)) rfl rfl rfl ⟨(Nat.le_of_ble_eq_true rfl), (Nat.le_of_ble_eq_true rfl)⟩ (Nat.le_of_ble_eq_true rfl) ⟨(Nat.le_of_ble_eq_true rfl), (Nat.le_of_ble_eq_true rfl)⟩ ?_
        rintro _ _ ⟨rfl, rfl⟩
        refine a_if_ne 30 27 dX12_blind_24 rfl (by decide) (fun c_24 => absurd (if_neg hh) c_24) (fun c_24 => ?_)
        refine a_bipush (-2) 29 dX12_blind_27 rfl (by decide) ?_
        exact a_ireturn dX12_blind_29 rfl rfl (Nat.le_of_ble_eq_true rfl) (Nat.le_of_ble_eq_true rfl) ⟨by rw [ea], by rw [et]; exact ⟨i, j, q⟩, fun _ _ _ => rfl⟩
theorem in599 (c : Int32) : ((0 : Int64) ≤ c.toInt64 ∧ c.toInt64 ≤ 599) ↔ (0 ≤ c ∧ c < nI 600) := in64c c 599 (by decide) rfl
theorem mX_Y {h' : rH} {i i' : Nat → Int32} {j : Nat → Int64} {Y : YawT} {f g : Nat → Int32} (q : mX G h T i j) (e38 : h'[38]? = some (mo G i' j)) (hi : i' 23 = nI Y.1) (hy : Y.1 ≤ 24) (hk : i' 0 = i 0 ∧ i' 39 = i 39 ∧ i' 1 = i 1 ∧ i' 2 = i 2 ∧ i' 3 = i 3 ∧ i' 15 = i 15 ∧ i' 20 = i 20) (h51 : h'[51]? = some (.inl (gA G 0, 24, .inl f))) (hf1 : ∀ p, p < Y.1 → f p = nI (Y.2.1 p) ∧ Y.2.1 p < 600) (h52 : h'[52]? = some (.inl (gA G 0, 24, .inl g))) (hg1 : ∀ p, p < Y.1 → g p = nI (Y.2.2 p) ∧ Y.2.2 p < T.m) (hf : fr h h' [38, 51, 52]) : mX G h' (setY T Y) i' j := by
  obtain ⟨k0, k39, k1, k2, k3, k15, k20⟩ := hk
  obtain ⟨⟨⟨fn, -, a2, a3, a4, a5, a6, a7, a8⟩, b1, b2, b3, b4, b5, ⟨s, b6, b7⟩, b8⟩, ⟨-, c2, c3, ⟨g1, c4, c5⟩, ⟨g2, c6, c7⟩, ⟨g3, c8, c9⟩, ⟨g4, c10, c11⟩⟩, ⟨-, d2, d3, g5, d4, d5⟩, -, q5, q6, q7, q8, q9⟩ := q
  have hp := kp_fr hf
  exact ⟨⟨⟨fn, e38, k2.trans a2, a3, rg_fr hf (by decide) a4, a5, rg_fr hf (by decide) a6, rg_fr hf (by decide) a7, a8⟩, b1, by rw [k1, k2]; exact b2, k3.trans b3, rg_fr hf (by decide) b4, b5, ⟨s, rg_fr hf (by decide) b6, b7⟩, b8⟩, ⟨e38, k15.trans c2, c3, ⟨g1, rg_fr hf (by decide) c4, c5⟩, ⟨g2, rg_fr hf (by decide) c6, c7⟩, ⟨g3, rg_fr hf (by decide) c8, c9⟩, ⟨g4, rg_fr hf (by decide) c10, c11⟩⟩, ⟨e38, k20.trans d2, d3, g5, rg_fr hf (by decide) d4, d5⟩, ⟨e38, hi, hy, ⟨f, h51, hf1⟩, ⟨g, h52, hg1⟩⟩, q5.kp hp (by decide), q6.kp hp (by decide), k0.trans q7, k39.trans q8, k1.trans q9⟩
set_option maxRecDepth 100000 in
set_option maxHeartbeats 400000 in
theorem m_ofYawn (q : mAll G h T) (o : T.ok) (c d : Int32) : rM l G 12 mX12_ofYawn 0 0 [.ref (gN G + 38), .int c, .int d] h (fun h' v => v = some (.int (aOfYawn T c d)) ∧ mAll G h' T ∧ kp h h' mL) := by
  obtain ⟨i, j, q⟩ := q
  have hny := o.ny24
  have hm := q.at
  rcases oT_cases (n := T.ny) (by omega) c with ⟨e, hc⟩ | ⟨x, hx, rfl, e⟩
  · have ea : aOfYawn T c d = -1 := by unfold aOfYawn; rw [e]
    refine rM_start (by decide) (Nat.le_of_ble_eq_true rfl) ?_
    refine a_aload_n 1 dX12_ofYawn_0 rfl rfl ?_
    refine a_iload_n 2 dX12_ofYawn_1 rfl rfl ?_
    refine a_callV ok_X12_noYawn ln_X12_243 in_X12_noYawn rfl 5 dX12_ofYawn_2 rfl (m_noYawn q c) (by repeat (first | assumption | (refine rg_ne (by first | decide | omega) ?_) | apply rg_eq | refine rg_fr (by assumption) (by first | decide | (simp; omega)) ?_)) rfl rfl rfl ⟨(Nat.le_of_ble_eq_true rfl), (Nat.le_of_ble_eq_true rfl)⟩ (Nat.le_of_ble_eq_true rfl) ⟨(Nat.le_of_ble_eq_true rfl), (Nat.le_of_ble_eq_true rfl)⟩ ?_
    rintro _ _ ⟨rfl, rfl⟩
    refine a_if_eq 10 8 dX12_ofYawn_5 rfl (by decide) (fun c_5 => absurd c_5 (by rw [if_neg hc]; decide)) (fun c_5 => ?_)
    refine a_iconst (-1) 9 dX12_ofYawn_8 rfl (by decide) ?_
    exact a_ireturn dX12_ofYawn_9 rfl rfl (Nat.le_of_ble_eq_true rfl) (Nat.le_of_ble_eq_true rfl) ⟨by rw [ea], ⟨i, j, q⟩, fun _ _ _ => rfl⟩
  · have ea : aOfYawn T (nI x) d = if d.toInt = 0 then nI (T.ym x) else if d.toInt = 1 then nI (T.yw x) else -2 := by unfold aOfYawn; rw [e]
    obtain ⟨-, -, -, ⟨f4, q4, q4'⟩, ⟨f5, q5, q5'⟩⟩ := id q.2.2.2.1
    have vx : vp_in (nI x) 24 := vp_in_nI (by omega) (by decide)
    have ex : (nI x).toNatClampNeg = x := nI_clamp (by omega)
    have e4 := (q4' x hx).1
    have e5 := (q5' x hx).1
    have e1 : (1 : Int32).toInt = 1 := rfl
    have e0 : (0 : Int32).toInt = 0 := rfl
    refine rM_start (by decide) (Nat.le_of_ble_eq_true rfl) ?_
    refine a_aload_n 1 dX12_ofYawn_0 rfl rfl ?_
    refine a_iload_n 2 dX12_ofYawn_1 rfl rfl ?_
    refine a_callV ok_X12_noYawn ln_X12_243 in_X12_noYawn rfl 5 dX12_ofYawn_2 rfl (m_noYawn q (nI x)) (by repeat (first | assumption | (refine rg_ne (by first | decide | omega) ?_) | apply rg_eq | refine rg_fr (by assumption) (by first | decide | (simp; omega)) ?_)) rfl rfl rfl ⟨(Nat.le_of_ble_eq_true rfl), (Nat.le_of_ble_eq_true rfl)⟩ (Nat.le_of_ble_eq_true rfl) ⟨(Nat.le_of_ble_eq_true rfl), (Nat.le_of_ble_eq_true rfl)⟩ ?_
    rintro _ _ ⟨rfl, rfl⟩
    refine a_if_eq 10 8 dX12_ofYawn_5 rfl (by decide) (fun c_5 => ?_) (fun c_5 => absurd (if_pos (oT_yes hx (by omega))) c_5)
    refine a_iload_n 11 dX12_ofYawn_10 rfl rfl ?_
    refine a_if_ne 23 14 dX12_ofYawn_11 rfl (by decide) (fun c_11 => ?_) (fun c_11 => ?_)
    · refine a_iload_n 24 dX12_ofYawn_23 rfl rfl ?_
      refine a_iconst (1) 25 dX12_ofYawn_24 rfl (by decide) ?_
      refine a_icmp_ne 37 28 dX12_ofYawn_25 rfl (by decide) (fun c_25 => ?_) (fun c_25 => ?_)
      · refine a_bipush (-2) 39 dX12_ofYawn_37 rfl (by decide) ?_
        exact a_ireturn dX12_ofYawn_39 rfl rfl (Nat.le_of_ble_eq_true rfl) (Nat.le_of_ble_eq_true rfl) ⟨by rw [ea, if_neg (fun v => c_11 (i_eq.mpr (v.trans e0.symm))), if_neg (fun v => c_25 (i_eq.mpr (v.trans e1.symm)))], ⟨i, j, q⟩, fun _ _ _ => rfl⟩
      · refine a_aload_n 29 dX12_ofYawn_28 rfl rfl ?_
        refine a_get fd_X12_50 rfl 32 dX12_ofYawn_29 rfl (by repeat (first | assumption | (refine rg_ne (by first | decide | omega) ?_) | apply rg_eq | refine rg_fr (by assumption) (by first | decide | (simp; omega)) ?_)) rfl ?_
        refine a_iload_n 33 dX12_ofYawn_32 rfl rfl ?_
        refine a_iaload 34 dX12_ofYawn_33 rfl (by repeat (first | assumption | (refine rg_ne (by first | decide | omega) ?_) | apply rg_eq | refine rg_fr (by assumption) (by first | decide | (simp; omega)) ?_)) vx ?_
        rw [ex, e5]
        refine a_goto 39 dX12_ofYawn_34 (by decide) ?_
        exact a_ireturn dX12_ofYawn_39 rfl rfl (Nat.le_of_ble_eq_true rfl) (Nat.le_of_ble_eq_true rfl) ⟨by rw [ea, if_neg (fun v => c_11 (i_eq.mpr (v.trans e0.symm))), if_pos (show d.toInt = 1 from congrArg Int32.toInt c_25)], ⟨i, j, q⟩, fun _ _ _ => rfl⟩
    · refine a_aload_n 15 dX12_ofYawn_14 rfl rfl ?_
      refine a_get fd_X12_47 rfl 18 dX12_ofYawn_15 rfl (by repeat (first | assumption | (refine rg_ne (by first | decide | omega) ?_) | apply rg_eq | refine rg_fr (by assumption) (by first | decide | (simp; omega)) ?_)) rfl ?_
      refine a_iload_n 19 dX12_ofYawn_18 rfl rfl ?_
      refine a_iaload 20 dX12_ofYawn_19 rfl (by repeat (first | assumption | (refine rg_ne (by first | decide | omega) ?_) | apply rg_eq | refine rg_fr (by assumption) (by first | decide | (simp; omega)) ?_)) vx ?_
      rw [ex, e4]
      refine a_goto 39 dX12_ofYawn_20 (by decide) ?_
      exact a_ireturn dX12_ofYawn_39 rfl rfl (Nat.le_of_ble_eq_true rfl) (Nat.le_of_ble_eq_true rfl) ⟨by rw [ea, if_pos (show d.toInt = 0 from congrArg Int32.toInt c_11)], ⟨i, j, q⟩, fun _ _ _ => rfl⟩
set_option maxRecDepth 100000 in
set_option maxHeartbeats 400000 in
theorem m_back (q : mAll G h T) (o : T.ok) (c : Int32) : rM l G 12 mX12_back 0 0 [.ref (gN G + 38), .int c] h (fun h' v => v = some (.int (aBack T c)) ∧ mAll G h' (setY T (tBack T c)) ∧ kp h h' mL) := by
  obtain ⟨i, j, q⟩ := q
  have hny := o.ny24
  have hm := q.at
  have e23 := q.2.2.2.1.2.1
  have hin : ((0 : Int64) ≤ c.toInt64 ∧ c.toInt64 ≤ (i 23).toInt64) ↔ (0 ≤ c ∧ c < nI (T.ny + 1)) := by
    rw [e23, nI_l (by omega)]
    exact in64c c T.ny (by omega) (lN_toInt (by omega))
  rcases oT_cases (n := T.ny + 1) (by omega) c with ⟨e, hc⟩ | ⟨k, hk, rfl, e⟩
  · have ea : aBack T c = -2 := by unfold aBack; rw [e]
    have et : tBack T c = T.2.2.2.1 := by unfold tBack; rw [e]
    refine rM_start (by decide) (Nat.le_of_ble_eq_true rfl) ?_
    refine a_iload_n 1 dX12_back_0 rfl rfl ?_
    refine a_i2l 2 dX12_back_1 rfl ?_
    refine a_lconst (0) 3 dX12_back_2 rfl (by decide) ?_
    refine a_aload_n 4 dX12_back_3 rfl rfl ?_
    refine a_get fd_X12_163 rfl 7 dX12_back_4 rfl (by repeat (first | assumption | (refine rg_ne (by first | decide | omega) ?_) | apply rg_eq | refine rg_fr (by assumption) (by first | decide | (simp; omega)) ?_)) rfl ?_
    refine a_i2l 8 dX12_back_7 rfl ?_
    refine a_callS ok_X12_in ln_X12_97 is_X12_in rfl 11 dX12_back_8 rfl (k_X12_in _ _ _) rfl rfl ⟨(Nat.le_of_ble_eq_true rfl), (Nat.le_of_ble_eq_true rfl)⟩ (Nat.le_of_ble_eq_true rfl) ⟨(Nat.le_of_ble_eq_true rfl), (Nat.le_of_ble_eq_true rfl)⟩ ?_
    rintro _ _ ⟨rfl, rfl⟩
    refine a_if_ne 17 14 dX12_back_11 rfl (by decide) (fun c_11 => absurd (if_neg (fun v => hc (hin.mp v))) c_11) (fun c_11 => ?_)
    refine a_bipush (-2) 16 dX12_back_14 rfl (by decide) ?_
    exact a_ireturn dX12_back_16 rfl rfl (Nat.le_of_ble_eq_true rfl) (Nat.le_of_ble_eq_true rfl) ⟨by rw [ea], by rw [et]; exact ⟨i, j, q⟩, fun _ _ _ => rfl⟩
  · have ea : aBack T (nI k) = nI (T.ny - k) := by unfold aBack; rw [e]
    have et : tBack T (nI k) = (T.ny - k, T.ym, T.yw) := by unfold tBack; rw [e]
    have es : i 23 - nI k = nI (T.ny - k) := by rw [e23]; exact pk_sub (by omega)
    obtain ⟨-, -, -, ⟨f4, q4, q4'⟩, ⟨f5, q5, q5'⟩⟩ := id q.2.2.2.1
    refine rM_start (by decide) (Nat.le_of_ble_eq_true rfl) ?_
    refine a_iload_n 1 dX12_back_0 rfl rfl ?_
    refine a_i2l 2 dX12_back_1 rfl ?_
    refine a_lconst (0) 3 dX12_back_2 rfl (by decide) ?_
    refine a_aload_n 4 dX12_back_3 rfl rfl ?_
    refine a_get fd_X12_163 rfl 7 dX12_back_4 rfl (by repeat (first | assumption | (refine rg_ne (by first | decide | omega) ?_) | apply rg_eq | refine rg_fr (by assumption) (by first | decide | (simp; omega)) ?_)) rfl ?_
    refine a_i2l 8 dX12_back_7 rfl ?_
    refine a_callS ok_X12_in ln_X12_97 is_X12_in rfl 11 dX12_back_8 rfl (k_X12_in _ _ _) rfl rfl ⟨(Nat.le_of_ble_eq_true rfl), (Nat.le_of_ble_eq_true rfl)⟩ (Nat.le_of_ble_eq_true rfl) ⟨(Nat.le_of_ble_eq_true rfl), (Nat.le_of_ble_eq_true rfl)⟩ ?_
    rintro _ _ ⟨rfl, rfl⟩
    refine a_if_ne 17 14 dX12_back_11 rfl (by decide) (fun c_11 => ?_) (fun c_11 => absurd c_11 (by rw [if_pos (hin.mpr (oT_yes hk (by omega)))]; decide))
    refine a_aload_n 18 dX12_back_17 rfl rfl ?_
    refine a_dup 19 dX12_back_18 rfl rfl ?_
    refine a_get fd_X12_163 rfl 22 dX12_back_19 rfl (by repeat (first | assumption | (refine rg_ne (by first | decide | omega) ?_) | apply rg_eq | refine rg_fr (by assumption) (by first | decide | (simp; omega)) ?_)) rfl ?_
    refine a_iload_n 23 dX12_back_22 rfl rfl ?_
    refine a_isub 24 dX12_back_23 rfl ?_
    rw [es]
    refine a_put fd_X12_163 cl_X12 rfl 27 dX12_back_24 rfl (by repeat (first | assumption | (refine rg_ne (by first | decide | omega) ?_) | apply rg_eq | refine rg_fr (by assumption) (by first | decide | (simp; omega)) ?_)) (Nat.le_of_ble_eq_true rfl) rfl rfl rfl ?_
    refine a_aload_n 28 dX12_back_27 rfl rfl ?_
    refine a_get fd_X12_163 rfl 31 dX12_back_28 rfl (by repeat (first | assumption | (refine rg_ne (by first | decide | omega) ?_) | apply rg_eq | refine rg_fr (by assumption) (by first | decide | (simp; omega)) ?_)) rfl ?_
    exact a_ireturn dX12_back_31 rfl rfl (Nat.le_of_ble_eq_true rfl) (Nat.le_of_ble_eq_true rfl) ⟨by rw [ea], by rw [et]; exact ⟨upd i 23 (nI (T.ny - k)), j, mX_Y (i' := upd i 23 (nI (T.ny - k))) q (rg_eq hm) rfl (by show T.ny - k ≤ 24; omega) ⟨rfl, rfl, rfl, rfl, rfl, rfl, rfl⟩ (rg_ne (by decide) q4) (fun p hp => q4' p (Nat.lt_of_lt_of_le hp (Nat.sub_le _ _))) (rg_ne (by decide) q5) (fun p hp => q5' p (Nat.lt_of_lt_of_le hp (Nat.sub_le _ _))) (fr_set (fr_refl _ _) (by decide))⟩, kpm (fr_set (S := [38]) (fr_refl _ _) (by decide)) (by decide)⟩
set_option maxRecDepth 100000 in
set_option maxHeartbeats 400000 in
theorem m_yawn (q : mAll G h T) (o : T.ok) (c d : Int32) : rM l G 12 mX12_yawn 0 0 [.ref (gN G + 38), .int c, .int d] h (fun h' v => v = some (.int (aYawn T c d)) ∧ mAll G h' (setY T (tYawn T c d)) ∧ kp h h' mL) := by
  obtain ⟨i, j, q⟩ := q
  have hny := o.ny24
  have hm12 := o.m12
  have hm := q.at
  have e23 := q.2.2.2.1.2.1
  have hin := in599 c
  rcases oT_cases (n := T.m) (by omega) d with ⟨e, hd⟩ | ⟨x, hx, rfl, e⟩
  · have ea : aYawn T c d = -1 := by unfold aYawn; rw [e]
    have et : tYawn T c d = T.2.2.2.1 := by unfold tYawn; rw [e]
    refine rM_start (by decide) (Nat.le_of_ble_eq_true rfl) ?_
    refine a_aload_n 1 dX12_yawn_0 rfl rfl ?_
    refine a_iload_n 2 dX12_yawn_1 rfl rfl ?_
    refine a_callV ok_X12_noOne ln_X12_194 in_X12_noOne rfl 5 dX12_yawn_2 rfl (m_noOne q d) (by repeat (first | assumption | (refine rg_ne (by first | decide | omega) ?_) | apply rg_eq | refine rg_fr (by assumption) (by first | decide | (simp; omega)) ?_)) rfl rfl rfl ⟨(Nat.le_of_ble_eq_true rfl), (Nat.le_of_ble_eq_true rfl)⟩ (Nat.le_of_ble_eq_true rfl) ⟨(Nat.le_of_ble_eq_true rfl), (Nat.le_of_ble_eq_true rfl)⟩ ?_
    rintro _ _ ⟨rfl, rfl⟩
    refine a_if_eq 10 8 dX12_yawn_5 rfl (by decide) (fun c_5 => absurd c_5 (by rw [if_neg hd]; decide)) (fun c_5 => ?_)
    refine a_iconst (-1) 9 dX12_yawn_8 rfl (by decide) ?_
    exact a_ireturn dX12_yawn_9 rfl rfl (Nat.le_of_ble_eq_true rfl) (Nat.le_of_ble_eq_true rfl) ⟨by rw [ea], by rw [et]; exact ⟨i, j, q⟩, fun _ _ _ => rfl⟩
  · rcases oT_cases (n := 600) (by omega) c with ⟨e2, hc⟩ | ⟨a, ha, rfl, e2⟩
    · have ea : aYawn T c (nI x) = -2 := by unfold aYawn; rw [e, e2]
      have et : tYawn T c (nI x) = T.2.2.2.1 := by unfold tYawn; rw [e, e2]
      refine rM_start (by decide) (Nat.le_of_ble_eq_true rfl) ?_
      refine a_aload_n 1 dX12_yawn_0 rfl rfl ?_
      refine a_iload_n 2 dX12_yawn_1 rfl rfl ?_
      refine a_callV ok_X12_noOne ln_X12_194 in_X12_noOne rfl 5 dX12_yawn_2 rfl (m_noOne q (nI x)) (by repeat (first | assumption | (refine rg_ne (by first | decide | omega) ?_) | apply rg_eq | refine rg_fr (by assumption) (by first | decide | (simp; omega)) ?_)) rfl rfl rfl ⟨(Nat.le_of_ble_eq_true rfl), (Nat.le_of_ble_eq_true rfl)⟩ (Nat.le_of_ble_eq_true rfl) ⟨(Nat.le_of_ble_eq_true rfl), (Nat.le_of_ble_eq_true rfl)⟩ ?_
      rintro _ _ ⟨rfl, rfl⟩
      refine a_if_eq 10 8 dX12_yawn_5 rfl (by decide) (fun c_5 => ?_) (fun c_5 => absurd (if_pos (oT_yes hx (by omega))) c_5)
      refine a_iload_n 11 dX12_yawn_10 rfl rfl ?_
      refine a_i2l 12 dX12_yawn_11 rfl ?_
      refine a_lconst (0) 13 dX12_yawn_12 rfl (by decide) ?_
      refine a_ldc2 (599) 16 dX12_yawn_13 rfl lk_X12_238 ?_
      refine a_callS ok_X12_in ln_X12_97 is_X12_in rfl 19 dX12_yawn_16 rfl (k_X12_in _ _ _) rfl rfl ⟨(Nat.le_of_ble_eq_true rfl), (Nat.le_of_ble_eq_true rfl)⟩ (Nat.le_of_ble_eq_true rfl) ⟨(Nat.le_of_ble_eq_true rfl), (Nat.le_of_ble_eq_true rfl)⟩ ?_
      rintro _ _ ⟨rfl, rfl⟩
      refine a_if_ne 25 22 dX12_yawn_19 rfl (by decide) (fun c_19 => absurd (if_neg (fun v => hc (hin.mp v))) c_19) (fun c_19 => ?_)
      refine a_bipush (-2) 24 dX12_yawn_22 rfl (by decide) ?_
      exact a_ireturn dX12_yawn_24 rfl rfl (Nat.le_of_ble_eq_true rfl) (Nat.le_of_ble_eq_true rfl) ⟨by rw [ea], by rw [et]; exact ⟨i, j, q⟩, fun _ _ _ => rfl⟩
    · have ea : aYawn T (nI a) (nI x) = if a < lastT T then -3 else if T.ny = 24 then -4 else nI T.ny := by unfold aYawn; rw [e, e2]
      have et : tYawn T (nI a) (nI x) = if a < lastT T then T.2.2.2.1 else if T.ny = 24 then T.2.2.2.1 else (T.ny + 1, (fun q => if q = T.ny then a else T.ym q), (fun q => if q = T.ny then x else T.yw q)) := by unfold tYawn; rw [e, e2]
      have hl6 := lastT_lt o
      have hla : (if T.ny = 0 then (0 : Int32) else nI (T.ym (T.ny - 1))) = nI (lastT T) := by
        by_cases z : T.ny = 0
        · rw [if_pos z, show lastT T = 0 from if_pos z]; rfl
        · rw [if_neg z, show lastT T = T.ym (T.ny - 1) from if_neg z]
      have hcmp : nI (lastT T) ≤ nI a ↔ ¬ a < lastT T := by rw [nI_leI (by omega) (by omega)]; omega
      have h24 : i 23 = 24 ↔ T.ny = 24 := by rw [e23, show (24 : Int32) = nI 24 from rfl]; exact nI_eq (by omega) (by omega)
      obtain ⟨-, -, -, ⟨f4, q4, q4'⟩, ⟨f5, q5, q5'⟩⟩ := id q.2.2.2.1
      by_cases hal : a < lastT T
      · rw [if_pos hal] at ea et
        refine rM_start (by decide) (Nat.le_of_ble_eq_true rfl) ?_
        refine a_aload_n 1 dX12_yawn_0 rfl rfl ?_
        refine a_iload_n 2 dX12_yawn_1 rfl rfl ?_
        refine a_callV ok_X12_noOne ln_X12_194 in_X12_noOne rfl 5 dX12_yawn_2 rfl (m_noOne q (nI x)) (by repeat (first | assumption | (refine rg_ne (by first | decide | omega) ?_) | apply rg_eq | refine rg_fr (by assumption) (by first | decide | (simp; omega)) ?_)) rfl rfl rfl ⟨(Nat.le_of_ble_eq_true rfl), (Nat.le_of_ble_eq_true rfl)⟩ (Nat.le_of_ble_eq_true rfl) ⟨(Nat.le_of_ble_eq_true rfl), (Nat.le_of_ble_eq_true rfl)⟩ ?_
        rintro _ _ ⟨rfl, rfl⟩
        refine a_if_eq 10 8 dX12_yawn_5 rfl (by decide) (fun c_5 => ?_) (fun c_5 => absurd (if_pos (oT_yes hx (by omega))) c_5)
        refine a_iload_n 11 dX12_yawn_10 rfl rfl ?_
        refine a_i2l 12 dX12_yawn_11 rfl ?_
        refine a_lconst (0) 13 dX12_yawn_12 rfl (by decide) ?_
        refine a_ldc2 (599) 16 dX12_yawn_13 rfl lk_X12_238 ?_
        refine a_callS ok_X12_in ln_X12_97 is_X12_in rfl 19 dX12_yawn_16 rfl (k_X12_in _ _ _) rfl rfl ⟨(Nat.le_of_ble_eq_true rfl), (Nat.le_of_ble_eq_true rfl)⟩ (Nat.le_of_ble_eq_true rfl) ⟨(Nat.le_of_ble_eq_true rfl), (Nat.le_of_ble_eq_true rfl)⟩ ?_
        rintro _ _ ⟨rfl, rfl⟩
        refine a_if_ne 25 22 dX12_yawn_19 rfl (by decide) (fun c_19 => ?_) (fun c_19 => absurd c_19 (by rw [if_pos (hin.mpr (oT_yes ha (by omega)))]; decide))
        refine a_iload_n 26 dX12_yawn_25 rfl rfl ?_
        refine a_aload_n 27 dX12_yawn_26 rfl rfl ?_
        refine a_callV ok_X12_lastMinute ln_X12_240 in_X12_lastMinute rfl 30 dX12_yawn_27 rfl (k_X12_lastMinute q.2.2.2.1) (by repeat (first | assumption | (refine rg_ne (by first | decide | omega) ?_) | apply rg_eq | refine rg_fr (by assumption) (by first | decide | (simp; omega)) ?_)) rfl rfl rfl ⟨(Nat.le_of_ble_eq_true rfl), (Nat.le_of_ble_eq_true rfl)⟩ (Nat.le_of_ble_eq_true rfl) ⟨(Nat.le_of_ble_eq_true rfl), (Nat.le_of_ble_eq_true rfl)⟩ ?_
        rintro _ _ ⟨rfl, rfl⟩
        rw [hla]
        refine a_icmp_ge 36 33 dX12_yawn_30 rfl (by decide) (fun c_30 => absurd hal (hcmp.mp c_30)) (fun c_30 => ?_)
        refine a_bipush (-3) 35 dX12_yawn_33 rfl (by decide) ?_
        exact a_ireturn dX12_yawn_35 rfl rfl (Nat.le_of_ble_eq_true rfl) (Nat.le_of_ble_eq_true rfl) ⟨by rw [ea], by rw [et]; exact ⟨i, j, q⟩, fun _ _ _ => rfl⟩
      · rw [if_neg hal] at ea et
        by_cases h4 : T.ny = 24
        · rw [if_pos h4] at ea et
          refine rM_start (by decide) (Nat.le_of_ble_eq_true rfl) ?_
          refine a_aload_n 1 dX12_yawn_0 rfl rfl ?_
          refine a_iload_n 2 dX12_yawn_1 rfl rfl ?_
          refine a_callV ok_X12_noOne ln_X12_194 in_X12_noOne rfl 5 dX12_yawn_2 rfl (m_noOne q (nI x)) (by repeat (first | assumption | (refine rg_ne (by first | decide | omega) ?_) | apply rg_eq | refine rg_fr (by assumption) (by first | decide | (simp; omega)) ?_)) rfl rfl rfl ⟨(Nat.le_of_ble_eq_true rfl), (Nat.le_of_ble_eq_true rfl)⟩ (Nat.le_of_ble_eq_true rfl) ⟨(Nat.le_of_ble_eq_true rfl), (Nat.le_of_ble_eq_true rfl)⟩ ?_
          rintro _ _ ⟨rfl, rfl⟩
          refine a_if_eq 10 8 dX12_yawn_5 rfl (by decide) (fun c_5 => ?_) (fun c_5 => absurd (if_pos (oT_yes hx (by omega))) c_5)
          refine a_iload_n 11 dX12_yawn_10 rfl rfl ?_
          refine a_i2l 12 dX12_yawn_11 rfl ?_
          refine a_lconst (0) 13 dX12_yawn_12 rfl (by decide) ?_
          refine a_ldc2 (599) 16 dX12_yawn_13 rfl lk_X12_238 ?_
          refine a_callS ok_X12_in ln_X12_97 is_X12_in rfl 19 dX12_yawn_16 rfl (k_X12_in _ _ _) rfl rfl ⟨(Nat.le_of_ble_eq_true rfl), (Nat.le_of_ble_eq_true rfl)⟩ (Nat.le_of_ble_eq_true rfl) ⟨(Nat.le_of_ble_eq_true rfl), (Nat.le_of_ble_eq_true rfl)⟩ ?_
          rintro _ _ ⟨rfl, rfl⟩
          refine a_if_ne 25 22 dX12_yawn_19 rfl (by decide) (fun c_19 => ?_) (fun c_19 => absurd c_19 (by rw [if_pos (hin.mpr (oT_yes ha (by omega)))]; decide))
          refine a_iload_n 26 dX12_yawn_25 rfl rfl ?_
          refine a_aload_n 27 dX12_yawn_26 rfl rfl ?_
          refine a_callV ok_X12_lastMinute ln_X12_240 in_X12_lastMinute rfl 30 dX12_yawn_27 rfl (k_X12_lastMinute q.2.2.2.1) (by repeat (first | assumption | (refine rg_ne (by first | decide | omega) ?_) | apply rg_eq | refine rg_fr (by assumption) (by first | decide | (simp; omega)) ?_)) rfl rfl rfl ⟨(Nat.le_of_ble_eq_true rfl), (Nat.le_of_ble_eq_true rfl)⟩ (Nat.le_of_ble_eq_true rfl) ⟨(Nat.le_of_ble_eq_true rfl), (Nat.le_of_ble_eq_true rfl)⟩ ?_
          rintro _ _ ⟨rfl, rfl⟩
          rw [hla]
          refine a_icmp_ge 36 33 dX12_yawn_30 rfl (by decide) (fun c_30 => ?_) (fun c_30 => absurd (hcmp.mpr hal) c_30)
          refine a_aload_n 37 dX12_yawn_36 rfl rfl ?_
          refine a_get fd_X12_163 rfl 40 dX12_yawn_37 rfl (by repeat (first | assumption | (refine rg_ne (by first | decide | omega) ?_) | apply rg_eq | refine rg_fr (by assumption) (by first | decide | (simp; omega)) ?_)) rfl ?_
          refine a_bipush (24) 42 dX12_yawn_40 rfl (by decide) ?_
          refine a_icmp_ne 48 45 dX12_yawn_42 rfl (by decide) (fun c_42 => absurd (h24.mpr h4) c_42) (fun c_42 => ?_)
          refine a_bipush (-4) 47 dX12_yawn_45 rfl (by decide) ?_
          exact a_ireturn dX12_yawn_47 rfl rfl (Nat.le_of_ble_eq_true rfl) (Nat.le_of_ble_eq_true rfl) ⟨by rw [ea], by rw [et]; exact ⟨i, j, q⟩, fun _ _ _ => rfl⟩
        · rw [if_neg h4] at ea et
          have vy : vp_in (nI T.ny) 24 := vp_in_nI (by omega) (by decide)
          have vy2 : vp_in (i 23) 24 := by rw [e23]; exact vy
          have ey : (i 23).toNatClampNeg = T.ny := by rw [e23]; exact nI_clamp (by omega)
          have es : i 23 + 1 = nI (T.ny + 1) := by rw [e23]; exact nI_1 _
          refine rM_start (by decide) (Nat.le_of_ble_eq_true rfl) ?_
          refine a_aload_n 1 dX12_yawn_0 rfl rfl ?_
          refine a_iload_n 2 dX12_yawn_1 rfl rfl ?_
          refine a_callV ok_X12_noOne ln_X12_194 in_X12_noOne rfl 5 dX12_yawn_2 rfl (m_noOne q (nI x)) (by repeat (first | assumption | (refine rg_ne (by first | decide | omega) ?_) | apply rg_eq | refine rg_fr (by assumption) (by first | decide | (simp; omega)) ?_)) rfl rfl rfl ⟨(Nat.le_of_ble_eq_true rfl), (Nat.le_of_ble_eq_true rfl)⟩ (Nat.le_of_ble_eq_true rfl) ⟨(Nat.le_of_ble_eq_true rfl), (Nat.le_of_ble_eq_true rfl)⟩ ?_
          rintro _ _ ⟨rfl, rfl⟩
          refine a_if_eq 10 8 dX12_yawn_5 rfl (by decide) (fun c_5 => ?_) (fun c_5 => absurd (if_pos (oT_yes hx (by omega))) c_5)
          refine a_iload_n 11 dX12_yawn_10 rfl rfl ?_
          refine a_i2l 12 dX12_yawn_11 rfl ?_
          refine a_lconst (0) 13 dX12_yawn_12 rfl (by decide) ?_
          refine a_ldc2 (599) 16 dX12_yawn_13 rfl lk_X12_238 ?_
          refine a_callS ok_X12_in ln_X12_97 is_X12_in rfl 19 dX12_yawn_16 rfl (k_X12_in _ _ _) rfl rfl ⟨(Nat.le_of_ble_eq_true rfl), (Nat.le_of_ble_eq_true rfl)⟩ (Nat.le_of_ble_eq_true rfl) ⟨(Nat.le_of_ble_eq_true rfl), (Nat.le_of_ble_eq_true rfl)⟩ ?_
          rintro _ _ ⟨rfl, rfl⟩
          refine a_if_ne 25 22 dX12_yawn_19 rfl (by decide) (fun c_19 => ?_) (fun c_19 => absurd c_19 (by rw [if_pos (hin.mpr (oT_yes ha (by omega)))]; decide))
          refine a_iload_n 26 dX12_yawn_25 rfl rfl ?_
          refine a_aload_n 27 dX12_yawn_26 rfl rfl ?_
          refine a_callV ok_X12_lastMinute ln_X12_240 in_X12_lastMinute rfl 30 dX12_yawn_27 rfl (k_X12_lastMinute q.2.2.2.1) (by repeat (first | assumption | (refine rg_ne (by first | decide | omega) ?_) | apply rg_eq | refine rg_fr (by assumption) (by first | decide | (simp; omega)) ?_)) rfl rfl rfl ⟨(Nat.le_of_ble_eq_true rfl), (Nat.le_of_ble_eq_true rfl)⟩ (Nat.le_of_ble_eq_true rfl) ⟨(Nat.le_of_ble_eq_true rfl), (Nat.le_of_ble_eq_true rfl)⟩ ?_
          rintro _ _ ⟨rfl, rfl⟩
          rw [hla]
          refine a_icmp_ge 36 33 dX12_yawn_30 rfl (by decide) (fun c_30 => ?_) (fun c_30 => absurd (hcmp.mpr hal) c_30)
          refine a_aload_n 37 dX12_yawn_36 rfl rfl ?_
          refine a_get fd_X12_163 rfl 40 dX12_yawn_37 rfl (by repeat (first | assumption | (refine rg_ne (by first | decide | omega) ?_) | apply rg_eq | refine rg_fr (by assumption) (by first | decide | (simp; omega)) ?_)) rfl ?_
          refine a_bipush (24) 42 dX12_yawn_40 rfl (by decide) ?_
          refine a_icmp_ne 48 45 dX12_yawn_42 rfl (by decide) (fun c_42 => ?_) (fun c_42 => absurd c_42 (fun v => h4 (h24.mp v)))
          refine a_aload_n 49 dX12_yawn_48 rfl rfl ?_
          refine a_get fd_X12_47 rfl 52 dX12_yawn_49 rfl (by repeat (first | assumption | (refine rg_ne (by first | decide | omega) ?_) | apply rg_eq | refine rg_fr (by assumption) (by first | decide | (simp; omega)) ?_)) rfl ?_
          refine a_aload_n 53 dX12_yawn_52 rfl rfl ?_
          refine a_get fd_X12_163 rfl 56 dX12_yawn_53 rfl (by repeat (first | assumption | (refine rg_ne (by first | decide | omega) ?_) | apply rg_eq | refine rg_fr (by assumption) (by first | decide | (simp; omega)) ?_)) rfl ?_
          refine a_iload_n 57 dX12_yawn_56 rfl rfl ?_
          refine a_iastore 58 dX12_yawn_57 rfl (by repeat (first | assumption | (refine rg_ne (by first | decide | omega) ?_) | apply rg_eq | refine rg_fr (by assumption) (by first | decide | (simp; omega)) ?_)) vy2 ?_
          refine a_aload_n 59 dX12_yawn_58 rfl rfl ?_
          refine a_get fd_X12_50 rfl 62 dX12_yawn_59 rfl (by repeat (first | assumption | (refine rg_ne (by first | decide | omega) ?_) | apply rg_eq | refine rg_fr (by assumption) (by first | decide | (simp; omega)) ?_)) rfl ?_
          refine a_aload_n 63 dX12_yawn_62 rfl rfl ?_
          refine a_get fd_X12_163 rfl 66 dX12_yawn_63 rfl (by repeat (first | assumption | (refine rg_ne (by first | decide | omega) ?_) | apply rg_eq | refine rg_fr (by assumption) (by first | decide | (simp; omega)) ?_)) rfl ?_
          refine a_iload_n 67 dX12_yawn_66 rfl rfl ?_
          refine a_iastore 68 dX12_yawn_67 rfl (by repeat (first | assumption | (refine rg_ne (by first | decide | omega) ?_) | apply rg_eq | refine rg_fr (by assumption) (by first | decide | (simp; omega)) ?_)) vy2 ?_
          refine a_aload_n 69 dX12_yawn_68 rfl rfl ?_
          refine a_dup 70 dX12_yawn_69 rfl rfl ?_
          refine a_get fd_X12_163 rfl 73 dX12_yawn_70 rfl (by repeat (first | assumption | (refine rg_ne (by first | decide | omega) ?_) | apply rg_eq | refine rg_fr (by assumption) (by first | decide | (simp; omega)) ?_)) rfl ?_
          refine a_iconst (1) 74 dX12_yawn_73 rfl (by decide) ?_
          refine a_iadd 75 dX12_yawn_74 rfl ?_
          rw [es]
          refine a_put fd_X12_163 cl_X12 rfl 78 dX12_yawn_75 rfl (by repeat (first | assumption | (refine rg_ne (by first | decide | omega) ?_) | apply rg_eq | refine rg_fr (by assumption) (by first | decide | (simp; omega)) ?_)) (Nat.le_of_ble_eq_true rfl) rfl rfl rfl ?_
          refine a_aload_n 79 dX12_yawn_78 rfl rfl ?_
          refine a_get fd_X12_163 rfl 82 dX12_yawn_79 rfl (by repeat (first | assumption | (refine rg_ne (by first | decide | omega) ?_) | apply rg_eq | refine rg_fr (by assumption) (by first | decide | (simp; omega)) ?_)) rfl ?_
          refine a_iconst (1) 83 dX12_yawn_82 rfl (by decide) ?_
          refine a_isub 84 dX12_yawn_83 rfl ?_
          exact a_ireturn dX12_yawn_84 rfl rfl (Nat.le_of_ble_eq_true rfl) (Nat.le_of_ble_eq_true rfl) ⟨by rw [ea]; exact congrArg (fun v => some (Value.int v)) (nI_pred T.ny), by rw [et]; exact ⟨upd i 23 (nI (T.ny + 1)), j, mX_Y (i' := upd i 23 (nI (T.ny + 1))) q (rg_eq (rg_ne (by decide) (rg_ne (by decide) hm))) rfl (by show T.ny + 1 ≤ 24; omega) ⟨rfl, rfl, rfl, rfl, rfl, rfl, rfl⟩ (rg_ne (by decide) (rg_ne (by decide) (rg_eq q4))) (by rw [ey]; exact yaw_f (fun p hp => q4' p hp) ha) (rg_ne (by decide) (rg_eq (rg_ne (by decide) q5))) (by rw [ey]; exact yaw_f (fun p hp => q5' p hp) hx) (fr_set (fr_set (fr_set (fr_refl _ _) (by decide)) (by decide)) (by decide))⟩, kpm (fr_set (S := [38, 51, 52]) (fr_set (fr_set (fr_refl _ _) (by decide)) (by decide)) (by decide)) (by decide)⟩
end MSET
