/-! THE MODEL: sheets -/
section MSHE
variable {l : Launch} {G : rG} {h : rH} {T : Tn}
theorem mX_sh {h' : rH} {i : Nat → Int32} {j : Nat → Int64} {z : Nat} {hb : Bool} {ln : Int32} {sz : Nat} {ce : Nat → Int32} (q : mX G h T i j) (hf : fr h h' [57, 58, 59]) (hS : msAt G h' (setS T T.fa z hb ln sz ce).2.2.2.2.1) : mX G h' (setS T T.fa z hb ln sz ce) i j := by
  obtain ⟨⟨⟨fn, a1, a2, a3, a4, a5, a6, a7, a8⟩, b1, b2, b3, b4, b5, ⟨s, b6, b7⟩, b8⟩, ⟨c1, c2, c3, ⟨g1, c4, c5⟩, ⟨g2, c6, c7⟩, ⟨g3, c8, c9⟩, ⟨g4, c10, c11⟩⟩, ⟨d1, d2, d3, g5, d4, d5⟩, ⟨e1, e2, e3, ⟨g6, e4, e5⟩, ⟨g7, e6, e7⟩⟩, q5, q6, q7⟩ := q
  exact ⟨⟨⟨fn, rg_fr hf (by decide) a1, a2, a3, rg_fr hf (by decide) a4, a5, rg_fr hf (by decide) a6, rg_fr hf (by decide) a7, a8⟩, b1, b2, b3, rg_fr hf (by decide) b4, b5, ⟨s, rg_fr hf (by decide) b6, b7⟩, b8⟩, ⟨rg_fr hf (by decide) c1, c2, c3, ⟨g1, rg_fr hf (by decide) c4, c5⟩, ⟨g2, rg_fr hf (by decide) c6, c7⟩, ⟨g3, rg_fr hf (by decide) c8, c9⟩, ⟨g4, rg_fr hf (by decide) c10, c11⟩⟩, ⟨rg_fr hf (by decide) d1, d2, d3, g5, rg_fr hf (by decide) d4, d5⟩, ⟨rg_fr hf (by decide) e1, e2, e3, ⟨g6, rg_fr hf (by decide) e4, e5⟩, ⟨g7, rg_fr hf (by decide) e6, e7⟩⟩, hS, q6.kp (kp_fr hf) (by decide), q7⟩
theorem ms_set {h' : rH} {F : Int32} {z : Nat} {hb : Bool} {ln : Int32} {sz : Nat} {ce : Nat → Int32} {f g w : Nat → Int32} (e57 : h'[57]? = some (.inl (gA G 0, 4, .inl f))) (e58 : h'[58]? = some (.inl (gA G 0, 4, .inl g))) (e59 : h'[59]? = some (.inl (gA G 0, 240, .inl w))) (h1 : f z = if hb then nI sz else -1) (h2 : g z = ln) (h3 : ∀ c, c < sz → w (60 * z + c) = ce c) (ho : ∀ q, q < 4 → q ≠ z → f q = (if T.has q then nI (T.sz q) else -1) ∧ g q = T.ln q ∧ ∀ c, c < T.sz q → w (60 * q + c) = T.ce q c) : msAt G h' (setS T F z hb ln sz ce).2.2.2.2.1 := by
  refine ⟨f, g, w, e57, e58, e59, fun q hq => ?_⟩
  by_cases e : q = z
  · subst e
    simp only [if_true]
    exact ⟨h1, h2, h3⟩
  · simp only [if_neg e]
    exact ho q hq e
theorem lose_t {b : Bool} {sz : Nat} {x : Int32} (hx : x = if b then nI sz else -1) (h : 0 ≤ x) : some (Value.int 1) = some (.int (bI b)) := by
  cases b
  · rw [hx, if_neg Bool.false_ne_true] at h; exact absurd h (by decide)
  · rfl
theorem lose_f {b : Bool} {sz : Nat} {x : Int32} (hx : x = if b then nI sz else -1) (hs : sz < 2 ^ 31) (h : ¬ 0 ≤ x) : some (Value.int 0) = some (.int (bI b)) := by
  cases b
  · rfl
  · rw [hx, if_pos rfl, ← nI_0] at h
    exact absurd (nI_le (Nat.zero_le _) hs) h
set_option maxRecDepth 100000 in
set_option maxHeartbeats 400000 in
theorem m_lose (q : mAll G h T) (o : T.ok) (c : Int32) : rM l G 12 mX12_lose 0 0 [.ref (gN G + 38), .int c] h (fun h' v => v = some (.int (aLose T c)) ∧ mAll G h' (tLose T c) ∧ kp h h' mL) := by
  obtain ⟨i, j, q⟩ := q
  have hm := q.at
  rcases oT_cases (n := 4) (by decide) c with ⟨e, hc⟩ | ⟨z, hz, rfl, e⟩
  · have ea : aLose T c = -1 := by unfold aLose; rw [e]
    have et : tLose T c = T := by unfold tLose; rw [e]
    refine rM_start (by decide) (Nat.le_of_ble_eq_true rfl) ?_
    refine a_iload_n 1 dX12_lose_0 rfl rfl ?_
    refine a_callS ok_X12_noSheet ln_X12_87 is_X12_noSheet rfl 4 dX12_lose_1 rfl (k_X12_noSheet c) rfl rfl ⟨(Nat.le_of_ble_eq_true rfl), (Nat.le_of_ble_eq_true rfl)⟩ (Nat.le_of_ble_eq_true rfl) ⟨(Nat.le_of_ble_eq_true rfl), (Nat.le_of_ble_eq_true rfl)⟩ ?_
    rintro _ _ ⟨rfl, rfl⟩
    refine a_if_eq 9 7 dX12_lose_4 rfl (by decide) (fun c_4 => absurd c_4 (by rw [if_neg (show ¬ (0 ≤ c ∧ c < 4) from hc)]; decide)) (fun c_4 => ?_)
    refine a_iconst (-1) 8 dX12_lose_7 rfl (by decide) ?_
    exact a_ireturn dX12_lose_8 rfl rfl (Nat.le_of_ble_eq_true rfl) (Nat.le_of_ble_eq_true rfl) ⟨by rw [ea], by rw [et]; exact ⟨i, j, q⟩, fun _ _ _ => rfl⟩
  · have ea : aLose T (nI z) = bI (T.has z) := by unfold aLose; rw [e]
    have et : tLose T (nI z) = setS T T.fa z false (T.ln z) (T.sz z) (T.ce z) := by unfold tLose; rw [e]
    obtain ⟨f, g, w, h57, h58, h59, hx⟩ := q.2.2.2.2.1
    have vz : vp_in (nI z) 4 := vp_in_nI hz (by decide)
    have ez : (nI z).toNatClampNeg = z := nI_clamp (by omega)
    have hfin : ∀ {h2 : rH}, h2[57]? = some (.inl (gA G 0, 4, .inl (upd f z (-1)))) → fr h h2 [57] → mX G h2 (setS T T.fa z false (T.ln z) (T.sz z) (T.ce z)) i j := by
      intro h2 e57 hf
      exact mX_sh q (fr_mono hf (by decide)) (ms_set e57 (rg_fr hf (by decide) h58) (rg_fr hf (by decide) h59) pk_us (hx z hz).2.1 (hx z hz).2.2 (fun y hy ey => ⟨(pk_un ey).trans (hx y hy).1, (hx y hy).2⟩))
    have hsz : T.sz z < 2 ^ 31 := by have := o.sz60 hz; omega
    have hans : f z = (if T.has z then nI (T.sz z) else -1) := (hx z hz).1
    refine rM_start (by decide) (Nat.le_of_ble_eq_true rfl) ?_
    refine a_iload_n 1 dX12_lose_0 rfl rfl ?_
    refine a_callS ok_X12_noSheet ln_X12_87 is_X12_noSheet rfl 4 dX12_lose_1 rfl (k_X12_noSheet (nI z)) rfl rfl ⟨(Nat.le_of_ble_eq_true rfl), (Nat.le_of_ble_eq_true rfl)⟩ (Nat.le_of_ble_eq_true rfl) ⟨(Nat.le_of_ble_eq_true rfl), (Nat.le_of_ble_eq_true rfl)⟩ ?_
    rintro _ _ ⟨rfl, rfl⟩
    refine a_if_eq 9 7 dX12_lose_4 rfl (by decide) (fun c_4 => ?_) (fun c_4 => absurd (if_pos (oT_yes hz (by decide))) c_4)
    refine a_aload_n 10 dX12_lose_9 rfl rfl ?_
    refine a_get fd_X12_65 rfl 13 dX12_lose_10 rfl (by repeat (first | assumption | (refine rg_ne (by first | decide | omega) ?_) | apply rg_eq | refine rg_fr (by assumption) (by first | decide | (simp; omega)) ?_)) rfl ?_
    refine a_iload_n 14 dX12_lose_13 rfl rfl ?_
    refine a_iaload 15 dX12_lose_14 rfl (by repeat (first | assumption | (refine rg_ne (by first | decide | omega) ?_) | apply rg_eq | refine rg_fr (by assumption) (by first | decide | (simp; omega)) ?_)) vz ?_
    rw [ez]
    refine a_if_ge 22 18 dX12_lose_15 rfl (by decide) (fun c_15 => ?_) (fun c_15 => ?_)
    · refine a_iconst (1) 23 dX12_lose_22 rfl (by decide) ?_
      refine a_istore_n 24 dX12_lose_23 rfl (by decide) ?_
      refine a_aload_n 25 dX12_lose_24 rfl rfl ?_
      refine a_get fd_X12_65 rfl 28 dX12_lose_25 rfl (by repeat (first | assumption | (refine rg_ne (by first | decide | omega) ?_) | apply rg_eq | refine rg_fr (by assumption) (by first | decide | (simp; omega)) ?_)) rfl ?_
      refine a_iload_n 29 dX12_lose_28 rfl rfl ?_
      refine a_iconst (-1) 30 dX12_lose_29 rfl (by decide) ?_
      refine a_iastore 31 dX12_lose_30 rfl (by repeat (first | assumption | (refine rg_ne (by first | decide | omega) ?_) | apply rg_eq | refine rg_fr (by assumption) (by first | decide | (simp; omega)) ?_)) vz ?_
      refine a_iload_n 32 dX12_lose_31 rfl rfl ?_
      exact a_ireturn dX12_lose_32 rfl rfl (Nat.le_of_ble_eq_true rfl) (Nat.le_of_ble_eq_true rfl) ⟨by rw [ea]; exact lose_t hans c_15, by rw [et]; exact ⟨i, j, hfin (by rw [ez]; exact rg_eq h57) (by rw [ez]; exact fr_set (fr_refl _ _) (by decide))⟩, kp_mono (kp_fr (fr_set (fr_refl _ _) (by decide) : fr _ _ [57])) (by decide)⟩
    · refine a_iconst (0) 19 dX12_lose_18 rfl (by decide) ?_
      refine a_goto 23 dX12_lose_19 (by decide) ?_
      refine a_istore_n 24 dX12_lose_23 rfl (by decide) ?_
      refine a_aload_n 25 dX12_lose_24 rfl rfl ?_
      refine a_get fd_X12_65 rfl 28 dX12_lose_25 rfl (by repeat (first | assumption | (refine rg_ne (by first | decide | omega) ?_) | apply rg_eq | refine rg_fr (by assumption) (by first | decide | (simp; omega)) ?_)) rfl ?_
      refine a_iload_n 29 dX12_lose_28 rfl rfl ?_
      refine a_iconst (-1) 30 dX12_lose_29 rfl (by decide) ?_
      refine a_iastore 31 dX12_lose_30 rfl (by repeat (first | assumption | (refine rg_ne (by first | decide | omega) ?_) | apply rg_eq | refine rg_fr (by assumption) (by first | decide | (simp; omega)) ?_)) vz ?_
      refine a_iload_n 32 dX12_lose_31 rfl rfl ?_
      exact a_ireturn dX12_lose_32 rfl rfl (Nat.le_of_ble_eq_true rfl) (Nat.le_of_ble_eq_true rfl) ⟨by rw [ea]; exact lose_f hans hsz c_15, by rw [et]; exact ⟨i, j, hfin (by rw [ez]; exact rg_eq h57) (by rw [ez]; exact fr_set (fr_refl _ _) (by decide))⟩, kp_mono (kp_fr (fr_set (fr_refl _ _) (by decide) : fr _ _ [57])) (by decide)⟩
set_option maxRecDepth 100000 in
set_option maxHeartbeats 400000 in
theorem m_sheet (q : mAll G h T) (o : T.ok) (c d n : Int32) : rM l G 12 mX12_sheet 0 0 [.ref (gN G + 38), .int c, .int d, .int n] h (fun h' v => v = some (.int (aSheet T c d n)) ∧ mAll G h' (tSheet T c d n) ∧ kp h h' mL) := by
  obtain ⟨i, j, q⟩ := q
  have hm := q.at
  rcases oT_cases (n := 4) (by decide) c with ⟨e, hc⟩ | ⟨z, hz, rfl, e⟩
  · have ea : aSheet T c d n = -1 := by unfold aSheet; rw [e]
    have et : tSheet T c d n = setFT T 0 T.tr := by unfold tSheet; rw [e]
    refine rM_start (by decide) (Nat.le_of_ble_eq_true rfl) ?_
    refine a_iload_n 1 dX12_sheet_0 rfl rfl ?_
    refine a_callS ok_X12_noSheet ln_X12_87 is_X12_noSheet rfl 4 dX12_sheet_1 rfl (k_X12_noSheet c) rfl rfl ⟨(Nat.le_of_ble_eq_true rfl), (Nat.le_of_ble_eq_true rfl)⟩ (Nat.le_of_ble_eq_true rfl) ⟨(Nat.le_of_ble_eq_true rfl), (Nat.le_of_ble_eq_true rfl)⟩ ?_
    rintro _ _ ⟨rfl, rfl⟩
    refine a_if_eq 13 7 dX12_sheet_4 rfl (by decide) (fun c_4 => absurd c_4 (by rw [if_neg (show ¬ (0 ≤ c ∧ c < 4) from hc)]; decide)) (fun c_4 => ?_)
    refine a_aload_n 8 dX12_sheet_7 rfl rfl ?_
    refine a_iconst (-1) 9 dX12_sheet_8 rfl (by decide) ?_
    refine a_callV ok_X12_refused ln_X12_91 in_X12_refused rfl 12 dX12_sheet_9 rfl (k_X12_refused hm (-1)) (by repeat (first | assumption | (refine rg_ne (by first | decide | omega) ?_) | apply rg_eq | refine rg_fr (by assumption) (by first | decide | (simp; omega)) ?_)) rfl rfl rfl ⟨(Nat.le_of_ble_eq_true rfl), (Nat.le_of_ble_eq_true rfl)⟩ (Nat.le_of_ble_eq_true rfl) ⟨(Nat.le_of_ble_eq_true rfl), (Nat.le_of_ble_eq_true rfl)⟩ ?_
    rintro h2 v ⟨rfl, e2, hf2⟩
    exact a_ireturn dX12_sheet_12 rfl rfl (Nat.le_of_ble_eq_true rfl) (Nat.le_of_ble_eq_true rfl) ⟨by rw [ea], by rw [et]; exact ⟨_, j, mX_fa q e2 hf2⟩, kpm hf2 (by decide)⟩
  have ea : aSheet T (nI z) d n = if laneI d ∧ n ≤ 60 then (if n < 0 then -14 else 1) else -2 := by unfold aSheet; rw [e]
  have et : tSheet T (nI z) d n = if laneI d ∧ n ≤ 60 then (if n < 0 then setFT T 4 T.tr else setS T 0 z true d n.toNatClampNeg (fun _ => 0)) else setFT T 0 T.tr := by unfold tSheet; rw [e]
  have hBR : (if (0 : Int64) ≤ d.toInt64 ∧ d.toInt64 ≤ 2 then (1 : Int32) else 0) = 0 ↔ ¬ laneI d := by rw [b_eq0, in02 d]
  obtain ⟨f, g, w, h57, h58, h59, hx⟩ := q.2.2.2.2.1
  have vz : vp_in (nI z) 4 := vp_in_nI hz (by decide)
  have ez : (nI z).toNatClampNeg = z := nI_clamp (by omega)
  have A : ∀ (k : Nat), k ≤ 60 → laneI d → n = nI k → ∀ (r t : Nat) (y : Int32) (w1 : Nat → Int32) (h1 : rH), t + r = k → y = nI t → h1[57]? = some (.inl (gA G 0, 4, .inl (upd f z (nI k)))) → h1[58]? = some (.inl (gA G 0, 4, .inl (upd g z d))) → h1[59]? = some (.inl (gA G 0, 240, .inl w1)) → (∀ c, c < t → w1 (60 * z + c) = 0) → (∀ p, p < 60 * z ∨ 60 * z + 60 ≤ p → w1 p = w p) → fr h h1 [57, 58, 59] → rW l G (rRm 12 0 0) mX12_sheet (rZ G (fun h' v => v = some (.int (aSheet T (nI z) d n)) ∧ mAll G h' (tSheet T (nI z) d n) ∧ kp h h' mL) 0 0) 0 0 65 [some (.ref (gN G + 38)), some (.int (nI z)), some (.int d), some (.int (nI k)), some (.int y)] [] h1 := by
    intro k hk hd en r
    have hn0 : ¬ n < 0 := by rw [en, ← nI_0]; exact nI_nlt (Nat.zero_le _) (by omega)
    have hn60 : n ≤ 60 := by rw [en, show (60 : Int32) = nI 60 from rfl]; exact nI_le hk (by decide)
    have eac : aSheet T (nI z) d n = 1 := by rw [ea, if_pos ⟨hd, hn60⟩, if_neg hn0]
    have etc' : tSheet T (nI z) d n = setFT (setS T T.fa z true d k (fun _ => 0)) 0 T.tr := by rw [et, if_pos ⟨hd, hn60⟩, if_neg hn0, en, nI_clamp (by omega)]
    induction r with
    | zero =>
      intro t y w1 h1 ht hy e57 e58 e59 hw0 hwx hf1
      subst hy
      have etk : t = k := by omega
      subst etk
      have q1 : mX G h1 (setS T T.fa z true d t (fun _ => 0)) i j := mX_sh q hf1 (ms_set e57 e58 e59 pk_us pk_us hw0 (fun y hy ey => ⟨(pk_un ey).trans (hx y hy).1, (pk_un ey).trans (hx y hy).2.1, fun c hc => (hwx _ (by have := o.sz60 hy; omega)).trans ((hx y hy).2.2 c hc)⟩))
      have hm1 := q1.at
      refine a_iload 67 dX12_sheet_65 rfl rfl ?_
      refine a_iload_n 68 dX12_sheet_67 rfl rfl ?_
      refine a_icmp_ge 90 71 dX12_sheet_68 rfl (by decide) (fun c_68 => ?_) (fun c_68 => absurd (Int32.le_refl _) c_68)
      refine a_aload_n 91 dX12_sheet_90 rfl rfl ?_
      refine a_iconst (1) 92 dX12_sheet_91 rfl (by decide) ?_
      refine a_callV ok_X12_refused ln_X12_91 in_X12_refused rfl 95 dX12_sheet_92 rfl (k_X12_refused hm1 1) (by repeat (first | assumption | (refine rg_ne (by first | decide | omega) ?_) | apply rg_eq | refine rg_fr (by assumption) (by first | decide | (simp; omega)) ?_)) rfl rfl rfl ⟨(Nat.le_of_ble_eq_true rfl), (Nat.le_of_ble_eq_true rfl)⟩ (Nat.le_of_ble_eq_true rfl) ⟨(Nat.le_of_ble_eq_true rfl), (Nat.le_of_ble_eq_true rfl)⟩ ?_
      rintro h2 v ⟨rfl, e2, hf2⟩
      exact a_ireturn dX12_sheet_95 rfl rfl (Nat.le_of_ble_eq_true rfl) (Nat.le_of_ble_eq_true rfl) ⟨by rw [eac], by rw [etc']; exact ⟨_, j, mX_fa q1 e2 hf2⟩, kpm (fr_trans (fr_mono hf1 (T := [38, 57, 58, 59]) (by decide)) hf2 (by decide)) (by decide)⟩
    | succ r ih =>
      intro t y w1 h1 ht hy e57 e58 e59 hw0 hwx hf1
      subst hy
      have e83 : (60 : Int32) * nI z + nI t = nI (60 * z + t) := by rw [show (60 : Int32) = nI 60 from rfl, pk_mul, nI_add]
      have v83 : vp_in (60 * nI z + nI t) 240 := by rw [e83]; exact vp_in_nI (by omega) (by decide)
      have c83 : (60 * nI z + nI t).toNatClampNeg = 60 * z + t := by rw [e83]; exact nI_clamp (by omega)
      have hm1 : h1[38]? = some (mo G i j) := rg_fr hf1 (by decide) hm
      have hw2 : ∀ c, c < t + 1 → upd w1 (60 * z + t) 0 (60 * z + c) = 0 := by
        intro c hc
        by_cases ec : c = t
        · rw [ec, pk_us]
        · rw [pk_un (by omega)]; exact hw0 c (by omega)
      refine a_iload 67 dX12_sheet_65 rfl rfl ?_
      refine a_iload_n 68 dX12_sheet_67 rfl rfl ?_
      refine a_icmp_ge 90 71 dX12_sheet_68 rfl (by decide) (fun c_68 => absurd c_68 (nI_ge (a := t) (b := k) (by omega) (by omega))) (fun c_68 => ?_)
      refine a_aload_n 72 dX12_sheet_71 rfl rfl ?_
      refine a_get fd_X12_71 rfl 75 dX12_sheet_72 rfl (by repeat (first | assumption | (refine rg_ne (by first | decide | omega) ?_) | apply rg_eq | refine rg_fr (by assumption) (by first | decide | (simp; omega)) ?_)) rfl ?_
      refine a_bipush (60) 77 dX12_sheet_75 rfl (by decide) ?_
      refine a_iload_n 78 dX12_sheet_77 rfl rfl ?_
      refine a_imul 79 dX12_sheet_78 rfl ?_
      refine a_iload 81 dX12_sheet_79 rfl rfl ?_
      refine a_iadd 82 dX12_sheet_81 rfl ?_
      refine a_iconst (0) 83 dX12_sheet_82 rfl (by decide) ?_
      refine a_iastore 84 dX12_sheet_83 rfl (by repeat (first | assumption | (refine rg_ne (by first | decide | omega) ?_) | apply rg_eq | refine rg_fr (by assumption) (by first | decide | (simp; omega)) ?_)) v83 ?_
      refine a_iinc _ 87 dX12_sheet_84 rfl rfl (by decide) rfl ?_
      refine a_goto 65 dX12_sheet_87 (by decide) ?_
      exact ih (t + 1) _ _ _ (by omega) (nI_1 t) (rg_ne (by decide) e57) (rg_ne (by decide) e58) (rg_eq e59) (fun c hc => by rw [c83]; exact hw2 c hc) (fun p hp => by rw [c83, pk_un (by omega)]; exact hwx p hp) (fr_set hf1 (by decide))
  refine rM_start (by decide) (Nat.le_of_ble_eq_true rfl) ?_
  refine a_iload_n 1 dX12_sheet_0 rfl rfl ?_
  refine a_callS ok_X12_noSheet ln_X12_87 is_X12_noSheet rfl 4 dX12_sheet_1 rfl (k_X12_noSheet (nI z)) rfl rfl ⟨(Nat.le_of_ble_eq_true rfl), (Nat.le_of_ble_eq_true rfl)⟩ (Nat.le_of_ble_eq_true rfl) ⟨(Nat.le_of_ble_eq_true rfl), (Nat.le_of_ble_eq_true rfl)⟩ ?_
  rintro _ _ ⟨rfl, rfl⟩
  refine a_if_eq 13 7 dX12_sheet_4 rfl (by decide) (fun c_4 => ?_) (fun c_4 => absurd (if_pos (oT_yes hz (by decide))) c_4)
  refine a_iload_n 14 dX12_sheet_13 rfl rfl ?_
  refine a_i2l 15 dX12_sheet_14 rfl ?_
  refine a_lconst (0) 16 dX12_sheet_15 rfl (by decide) ?_
  refine a_ldc2 (2) 19 dX12_sheet_16 rfl lk_X12_95 ?_
  refine a_callS ok_X12_in ln_X12_97 is_X12_in rfl 22 dX12_sheet_19 rfl (k_X12_in _ _ _) rfl rfl ⟨(Nat.le_of_ble_eq_true rfl), (Nat.le_of_ble_eq_true rfl)⟩ (Nat.le_of_ble_eq_true rfl) ⟨(Nat.le_of_ble_eq_true rfl), (Nat.le_of_ble_eq_true rfl)⟩ ?_
  rintro _ _ ⟨rfl, rfl⟩
  refine a_if_eq 31 25 dX12_sheet_22 rfl (by decide) (fun c_22 => ?_) (fun c_22 => ?_)
  · refine a_aload_n 32 dX12_sheet_31 rfl rfl ?_
    refine a_bipush (-2) 34 dX12_sheet_32 rfl (by decide) ?_
    refine a_callV ok_X12_refused ln_X12_91 in_X12_refused rfl 37 dX12_sheet_34 rfl (k_X12_refused hm (-2)) (by repeat (first | assumption | (refine rg_ne (by first | decide | omega) ?_) | apply rg_eq | refine rg_fr (by assumption) (by first | decide | (simp; omega)) ?_)) rfl rfl rfl ⟨(Nat.le_of_ble_eq_true rfl), (Nat.le_of_ble_eq_true rfl)⟩ (Nat.le_of_ble_eq_true rfl) ⟨(Nat.le_of_ble_eq_true rfl), (Nat.le_of_ble_eq_true rfl)⟩ ?_
    rintro h2 v ⟨rfl, e2, hf2⟩
    exact a_ireturn dX12_sheet_37 rfl rfl (Nat.le_of_ble_eq_true rfl) (Nat.le_of_ble_eq_true rfl) ⟨by rw [ea, if_neg (fun v => hBR.mp c_22 v.1)], by rw [et, if_neg (fun v => hBR.mp c_22 v.1)]; exact ⟨_, j, mX_fa q e2 hf2⟩, kpm hf2 (by decide)⟩
  · refine a_iload_n 26 dX12_sheet_25 rfl rfl ?_
    refine a_bipush (60) 28 dX12_sheet_26 rfl (by decide) ?_
    refine a_icmp_le 38 31 dX12_sheet_28 rfl (by decide) (fun c_28 => ?_) (fun c_28 => ?_)
    · refine a_iload_n 39 dX12_sheet_38 rfl rfl ?_
      refine a_if_ge 48 42 dX12_sheet_39 rfl (by decide) (fun c_39 => ?_) (fun c_39 => ?_)
      · refine a_aload_n 49 dX12_sheet_48 rfl rfl ?_
        refine a_get fd_X12_65 rfl 52 dX12_sheet_49 rfl (by repeat (first | assumption | (refine rg_ne (by first | decide | omega) ?_) | apply rg_eq | refine rg_fr (by assumption) (by first | decide | (simp; omega)) ?_)) rfl ?_
        refine a_iload_n 53 dX12_sheet_52 rfl rfl ?_
        refine a_iload_n 54 dX12_sheet_53 rfl rfl ?_
        refine a_iastore 55 dX12_sheet_54 rfl (by repeat (first | assumption | (refine rg_ne (by first | decide | omega) ?_) | apply rg_eq | refine rg_fr (by assumption) (by first | decide | (simp; omega)) ?_)) vz ?_
        refine a_aload_n 56 dX12_sheet_55 rfl rfl ?_
        refine a_get fd_X12_68 rfl 59 dX12_sheet_56 rfl (by repeat (first | assumption | (refine rg_ne (by first | decide | omega) ?_) | apply rg_eq | refine rg_fr (by assumption) (by first | decide | (simp; omega)) ?_)) rfl ?_
        refine a_iload_n 60 dX12_sheet_59 rfl rfl ?_
        refine a_iload_n 61 dX12_sheet_60 rfl rfl ?_
        refine a_iastore 62 dX12_sheet_61 rfl (by repeat (first | assumption | (refine rg_ne (by first | decide | omega) ?_) | apply rg_eq | refine rg_fr (by assumption) (by first | decide | (simp; omega)) ?_)) vz ?_
        refine a_iconst (0) 63 dX12_sheet_62 rfl (by decide) ?_
        refine a_istore 65 dX12_sheet_63 rfl (by decide) ?_
        obtain ⟨k, hk, ek⟩ := sheet_n (Int32.not_lt.mpr c_39) c_28
        subst ek
        exact A k hk (Decidable.not_not.mp (fun v => c_22 (hBR.mpr v))) rfl k 0 _ w _ (Nat.zero_add _) rfl (by rw [ez]; exact rg_ne (by decide) (rg_eq h57)) (by rw [ez]; exact rg_eq (rg_ne (by decide) h58)) (rg_ne (by decide) (rg_ne (by decide) h59)) (fun c hc => absurd hc (by omega)) (fun _ _ => rfl) (fr_set (fr_set (fr_refl _ _) (by decide)) (by decide))
      · refine a_aload_n 43 dX12_sheet_42 rfl rfl ?_
        refine a_iconst (4) 44 dX12_sheet_43 rfl (by decide) ?_
        refine a_callV ok_X12_failed ln_X12_101 in_X12_failed rfl 47 dX12_sheet_44 rfl (k_X12_failed hm 4) (by repeat (first | assumption | (refine rg_ne (by first | decide | omega) ?_) | apply rg_eq | refine rg_fr (by assumption) (by first | decide | (simp; omega)) ?_)) rfl rfl rfl ⟨(Nat.le_of_ble_eq_true rfl), (Nat.le_of_ble_eq_true rfl)⟩ (Nat.le_of_ble_eq_true rfl) ⟨(Nat.le_of_ble_eq_true rfl), (Nat.le_of_ble_eq_true rfl)⟩ ?_
        rintro h2 v ⟨rfl, e2, hf2⟩
        exact a_ireturn dX12_sheet_47 rfl rfl (Nat.le_of_ble_eq_true rfl) (Nat.le_of_ble_eq_true rfl) ⟨by rw [ea, if_pos ⟨Decidable.not_not.mp (fun v => c_22 (hBR.mpr v)), c_28⟩, if_pos (Int32.not_le.mp c_39)]; rfl, by rw [et, if_pos ⟨Decidable.not_not.mp (fun v => c_22 (hBR.mpr v)), c_28⟩, if_pos (Int32.not_le.mp c_39)]; exact ⟨_, j, mX_fa q e2 hf2⟩, kpm hf2 (by decide)⟩
    · refine a_aload_n 32 dX12_sheet_31 rfl rfl ?_
      refine a_bipush (-2) 34 dX12_sheet_32 rfl (by decide) ?_
      refine a_callV ok_X12_refused ln_X12_91 in_X12_refused rfl 37 dX12_sheet_34 rfl (k_X12_refused hm (-2)) (by repeat (first | assumption | (refine rg_ne (by first | decide | omega) ?_) | apply rg_eq | refine rg_fr (by assumption) (by first | decide | (simp; omega)) ?_)) rfl rfl rfl ⟨(Nat.le_of_ble_eq_true rfl), (Nat.le_of_ble_eq_true rfl)⟩ (Nat.le_of_ble_eq_true rfl) ⟨(Nat.le_of_ble_eq_true rfl), (Nat.le_of_ble_eq_true rfl)⟩ ?_
      rintro h2 v ⟨rfl, e2, hf2⟩
      exact a_ireturn dX12_sheet_37 rfl rfl (Nat.le_of_ble_eq_true rfl) (Nat.le_of_ble_eq_true rfl) ⟨by rw [ea, if_neg (fun v => c_28 v.2)], by rw [et, if_neg (fun v => c_28 v.2)]; exact ⟨_, j, mX_fa q e2 hf2⟩, kpm hf2 (by decide)⟩
end MSHE
