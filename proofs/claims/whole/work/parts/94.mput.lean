/-! THE MODEL: put -/
theorem nc_no {x i : Int32} {b : Bool} {sz : Nat} (hx : x = if b then nI sz else -1) (hb : b = false) : (if x < 0 then (1 : Int32) else if 0 ≤ i ∧ i < x then 0 else 3) = 1 := by
  subst hb
  rw [hx, if_neg Bool.false_ne_true]; exact if_pos (by decide)
theorem nc_out {x i : Int32} {b : Bool} {sz : Nat} (hx : x = if b then nI sz else -1) (hb : b = true) (hs : sz ≤ 60) (hi : ¬ (0 ≤ i ∧ i < nI sz)) : (if x < 0 then (1 : Int32) else if 0 ≤ i ∧ i < x then 0 else 3) = 3 := by
  subst hb
  rw [hx, if_pos rfl, if_neg (by rw [← nI_0]; exact nI_nlt (Nat.zero_le _) (by omega)), if_neg hi]
theorem nc_in {x i : Int32} {b : Bool} {sz : Nat} (hx : x = if b then nI sz else -1) (hb : b = true) (hs : sz ≤ 60) (hi : 0 ≤ i ∧ i < nI sz) : (if x < 0 then (1 : Int32) else if 0 ≤ i ∧ i < x then 0 else 3) = 0 := by
  subst hb
  rw [hx, if_pos rfl, if_neg (by rw [← nI_0]; exact nI_nlt (Nat.zero_le _) (by omega)), if_pos hi]
section MPUT
variable {l : Launch} {G : rG} {h : rH} {T : Tn}
set_option maxRecDepth 100000 in
set_option maxHeartbeats 400000 in
theorem m_put (q : mAll G h T) (o : T.ok) (c a v : Int32) : rM l G 12 mX12_put 0 0 [.ref (gN G + 38), .int c, .int a, .int v] h (fun h' w => w = some (.int (aPut T c a v)) ∧ mAll G h' (tPut T c a v) ∧ kp h h' mL) := by
  obtain ⟨i, j, q⟩ := q
  have hm := q.at
  rcases oT_cases (n := 4) (by decide) c with ⟨e, hc⟩ | ⟨z, hz, rfl, e⟩
  · have ea : aPut T c a v = -1 := by unfold aPut; rw [e]
    have et : tPut T c a v = setFT T 0 T.tr := by unfold tPut; rw [e]
    refine rM_start (by decide) (Nat.le_of_ble_eq_true rfl) ?_
    refine a_iload_n 1 dX12_put_0 rfl rfl ?_
    refine a_callS ok_X12_noSheet ln_X12_87 is_X12_noSheet rfl 4 dX12_put_1 rfl (k_X12_noSheet c) rfl rfl ⟨(Nat.le_of_ble_eq_true rfl), (Nat.le_of_ble_eq_true rfl)⟩ (Nat.le_of_ble_eq_true rfl) ⟨(Nat.le_of_ble_eq_true rfl), (Nat.le_of_ble_eq_true rfl)⟩ ?_
    rintro _ _ ⟨rfl, rfl⟩
    refine a_if_eq 13 7 dX12_put_4 rfl (by decide) (fun c_4 => absurd c_4 (by rw [if_neg (show ¬ (0 ≤ c ∧ c < 4) from hc)]; decide)) (fun c_4 => ?_)
    refine a_aload_n 8 dX12_put_7 rfl rfl ?_
    refine a_iconst (-1) 9 dX12_put_8 rfl (by decide) ?_
    refine a_callV ok_X12_refused ln_X12_91 in_X12_refused rfl 12 dX12_put_9 rfl (k_X12_refused hm (-1)) (by repeat (first | assumption | (refine rg_ne (by first | decide | omega) ?_) | apply rg_eq | refine rg_fr (by assumption) (by first | decide | (simp; omega)) ?_)) rfl rfl rfl ⟨(Nat.le_of_ble_eq_true rfl), (Nat.le_of_ble_eq_true rfl)⟩ (Nat.le_of_ble_eq_true rfl) ⟨(Nat.le_of_ble_eq_true rfl), (Nat.le_of_ble_eq_true rfl)⟩ ?_
    rintro h2 v ⟨rfl, e2, hf2⟩
    exact a_ireturn dX12_put_12 rfl rfl (Nat.le_of_ble_eq_true rfl) (Nat.le_of_ble_eq_true rfl) ⟨by rw [ea], by rw [et]; exact ⟨_, j, mX_fa q e2 hf2⟩, kpm hf2 (by decide)⟩
  obtain ⟨f, g, w, h57, h58, h59, hx⟩ := q.2.2.2.2.1
  have hsz := o.sz60 hz
  have vz : vp_in (nI z) 4 := vp_in_nI hz (by decide)
  have ez : (nI z).toNatClampNeg = z := nI_clamp (by omega)
  have hfz : f z = if T.has z then nI (T.sz z) else -1 := (hx z hz).1
  have hgz : g z = T.ln z := (hx z hz).2.1
  cases hb : T.has z with
  | false =>
    have ea : aPut T (nI z) a v = -11 := by unfold aPut; rw [e]; dsimp only; rw [hb]; rfl
    have et : tPut T (nI z) a v = setFT T 1 T.tr := by unfold tPut; rw [e]; dsimp only; rw [hb]; rfl
    have hnc := nc_no (i := a) hfz hb
    refine rM_start (by decide) (Nat.le_of_ble_eq_true rfl) ?_
    refine a_iload_n 1 dX12_put_0 rfl rfl ?_
    refine a_callS ok_X12_noSheet ln_X12_87 is_X12_noSheet rfl 4 dX12_put_1 rfl (k_X12_noSheet (nI z)) rfl rfl ⟨(Nat.le_of_ble_eq_true rfl), (Nat.le_of_ble_eq_true rfl)⟩ (Nat.le_of_ble_eq_true rfl) ⟨(Nat.le_of_ble_eq_true rfl), (Nat.le_of_ble_eq_true rfl)⟩ ?_
    rintro _ _ ⟨rfl, rfl⟩
    refine a_if_eq 13 7 dX12_put_4 rfl (by decide) (fun c_4 => ?_) (fun c_4 => absurd (if_pos (oT_yes hz (by decide))) c_4)
    refine a_aload_n 14 dX12_put_13 rfl rfl ?_
    refine a_iload_n 15 dX12_put_14 rfl rfl ?_
    refine a_iload_n 16 dX12_put_15 rfl rfl ?_
    refine a_callV ok_X12_noCell ln_X12_320 in_X12_noCell rfl 19 dX12_put_16 rfl (k_X12_noCell hm h57 hz a) (by repeat (first | assumption | (refine rg_ne (by first | decide | omega) ?_) | apply rg_eq | refine rg_fr (by assumption) (by first | decide | (simp; omega)) ?_)) rfl rfl rfl ⟨(Nat.le_of_ble_eq_true rfl), (Nat.le_of_ble_eq_true rfl)⟩ (Nat.le_of_ble_eq_true rfl) ⟨(Nat.le_of_ble_eq_true rfl), (Nat.le_of_ble_eq_true rfl)⟩ ?_
    rintro _ _ ⟨rfl, rfl⟩
    rw [hnc]
    refine a_if_le 33 22 dX12_put_19 rfl (by decide) (fun c_19 => absurd c_19 (by decide)) (fun c_19 => ?_)
    refine a_aload_n 23 dX12_put_22 rfl rfl ?_
    refine a_aload_n 24 dX12_put_23 rfl rfl ?_
    refine a_iload_n 25 dX12_put_24 rfl rfl ?_
    refine a_iload_n 26 dX12_put_25 rfl rfl ?_
    refine a_callV ok_X12_noCell ln_X12_320 in_X12_noCell rfl 29 dX12_put_26 rfl (k_X12_noCell hm h57 hz a) (by repeat (first | assumption | (refine rg_ne (by first | decide | omega) ?_) | apply rg_eq | refine rg_fr (by assumption) (by first | decide | (simp; omega)) ?_)) rfl rfl rfl ⟨(Nat.le_of_ble_eq_true rfl), (Nat.le_of_ble_eq_true rfl)⟩ (Nat.le_of_ble_eq_true rfl) ⟨(Nat.le_of_ble_eq_true rfl), (Nat.le_of_ble_eq_true rfl)⟩ ?_
    rintro _ _ ⟨rfl, rfl⟩
    rw [hnc]
    refine a_callV ok_X12_failed ln_X12_101 in_X12_failed rfl 32 dX12_put_29 rfl (k_X12_failed hm 1) (by repeat (first | assumption | (refine rg_ne (by first | decide | omega) ?_) | apply rg_eq | refine rg_fr (by assumption) (by first | decide | (simp; omega)) ?_)) rfl rfl rfl ⟨(Nat.le_of_ble_eq_true rfl), (Nat.le_of_ble_eq_true rfl)⟩ (Nat.le_of_ble_eq_true rfl) ⟨(Nat.le_of_ble_eq_true rfl), (Nat.le_of_ble_eq_true rfl)⟩ ?_
    rintro h2 v ⟨rfl, e2, hf2⟩
    exact a_ireturn dX12_put_32 rfl rfl (Nat.le_of_ble_eq_true rfl) (Nat.le_of_ble_eq_true rfl) ⟨by rw [ea]; rfl, by rw [et]; exact ⟨_, j, mX_fa q e2 hf2⟩, kpm hf2 (by decide)⟩
  | true =>
    rcases oT_cases (n := T.sz z) (by omega) a with ⟨e2, ha⟩ | ⟨k, hk, rfl, e2⟩
    · have ea : aPut T (nI z) a v = -13 := by unfold aPut; rw [e]; dsimp only; rw [hb, e2]; rfl
      have et : tPut T (nI z) a v = setFT T 3 T.tr := by unfold tPut; rw [e]; dsimp only; rw [hb, e2]; rfl
      have hnc := nc_out (i := a) hfz hb hsz ha
      refine rM_start (by decide) (Nat.le_of_ble_eq_true rfl) ?_
      refine a_iload_n 1 dX12_put_0 rfl rfl ?_
      refine a_callS ok_X12_noSheet ln_X12_87 is_X12_noSheet rfl 4 dX12_put_1 rfl (k_X12_noSheet (nI z)) rfl rfl ⟨(Nat.le_of_ble_eq_true rfl), (Nat.le_of_ble_eq_true rfl)⟩ (Nat.le_of_ble_eq_true rfl) ⟨(Nat.le_of_ble_eq_true rfl), (Nat.le_of_ble_eq_true rfl)⟩ ?_
      rintro _ _ ⟨rfl, rfl⟩
      refine a_if_eq 13 7 dX12_put_4 rfl (by decide) (fun c_4 => ?_) (fun c_4 => absurd (if_pos (oT_yes hz (by decide))) c_4)
      refine a_aload_n 14 dX12_put_13 rfl rfl ?_
      refine a_iload_n 15 dX12_put_14 rfl rfl ?_
      refine a_iload_n 16 dX12_put_15 rfl rfl ?_
      refine a_callV ok_X12_noCell ln_X12_320 in_X12_noCell rfl 19 dX12_put_16 rfl (k_X12_noCell hm h57 hz a) (by repeat (first | assumption | (refine rg_ne (by first | decide | omega) ?_) | apply rg_eq | refine rg_fr (by assumption) (by first | decide | (simp; omega)) ?_)) rfl rfl rfl ⟨(Nat.le_of_ble_eq_true rfl), (Nat.le_of_ble_eq_true rfl)⟩ (Nat.le_of_ble_eq_true rfl) ⟨(Nat.le_of_ble_eq_true rfl), (Nat.le_of_ble_eq_true rfl)⟩ ?_
      rintro _ _ ⟨rfl, rfl⟩
      rw [hnc]
      refine a_if_le 33 22 dX12_put_19 rfl (by decide) (fun c_19 => absurd c_19 (by decide)) (fun c_19 => ?_)
      refine a_aload_n 23 dX12_put_22 rfl rfl ?_
      refine a_aload_n 24 dX12_put_23 rfl rfl ?_
      refine a_iload_n 25 dX12_put_24 rfl rfl ?_
      refine a_iload_n 26 dX12_put_25 rfl rfl ?_
      refine a_callV ok_X12_noCell ln_X12_320 in_X12_noCell rfl 29 dX12_put_26 rfl (k_X12_noCell hm h57 hz a) (by repeat (first | assumption | (refine rg_ne (by first | decide | omega) ?_) | apply rg_eq | refine rg_fr (by assumption) (by first | decide | (simp; omega)) ?_)) rfl rfl rfl ⟨(Nat.le_of_ble_eq_true rfl), (Nat.le_of_ble_eq_true rfl)⟩ (Nat.le_of_ble_eq_true rfl) ⟨(Nat.le_of_ble_eq_true rfl), (Nat.le_of_ble_eq_true rfl)⟩ ?_
      rintro _ _ ⟨rfl, rfl⟩
      rw [hnc]
      refine a_callV ok_X12_failed ln_X12_101 in_X12_failed rfl 32 dX12_put_29 rfl (k_X12_failed hm 3) (by repeat (first | assumption | (refine rg_ne (by first | decide | omega) ?_) | apply rg_eq | refine rg_fr (by assumption) (by first | decide | (simp; omega)) ?_)) rfl rfl rfl ⟨(Nat.le_of_ble_eq_true rfl), (Nat.le_of_ble_eq_true rfl)⟩ (Nat.le_of_ble_eq_true rfl) ⟨(Nat.le_of_ble_eq_true rfl), (Nat.le_of_ble_eq_true rfl)⟩ ?_
      rintro h2 v ⟨rfl, e2, hf2⟩
      exact a_ireturn dX12_put_32 rfl rfl (Nat.le_of_ble_eq_true rfl) (Nat.le_of_ble_eq_true rfl) ⟨by rw [ea]; rfl, by rw [et]; exact ⟨_, j, mX_fa q e2 hf2⟩, kpm hf2 (by decide)⟩
    · have ea : aPut T (nI z) (nI k) v = 1 := by unfold aPut; rw [e]; dsimp only; rw [hb, e2]; rfl
      have et : tPut T (nI z) (nI k) v = setFT (setS T T.fa z true (T.ln z) (T.sz z) (upd (T.ce z) k (cutI (T.ln z) v))) 0 T.tr := by unfold tPut; rw [e]; dsimp only; rw [hb, e2]; rfl
      have hnc := nc_in (i := nI k) hfz hb hsz (oT_yes hk (by omega))
      have e73 : (60 : Int32) * nI z + nI k = nI (60 * z + k) := by rw [show (60 : Int32) = nI 60 from rfl, pk_mul, nI_add]
      have v73 : vp_in (60 * nI z + nI k) 240 := by rw [e73]; exact vp_in_nI (by omega) (by decide)
      have c73 : (60 * nI z + nI k).toNatClampNeg = 60 * z + k := by rw [e73]; exact nI_clamp (by omega)
      have hfin : ∀ (x : Int32), x = cutI (T.ln z) v → ∀ {h2 : rH}, h2[38]? = some (mo G (upd i 0 0) j) → fr (h.set 59 (.inl (gA G 0, 240, .inl (upd w (60 * nI z + nI k).toNatClampNeg x)))) h2 [38] → mAll G h2 (tPut T (nI z) (nI k) v) ∧ kp h h2 mL := by
        intro x ex h2 e38 hf2
        rw [c73] at hf2
        have hf1 : fr h (h.set 59 (.inl (gA G 0, 240, .inl (upd w (60 * z + k) x)))) [57, 58, 59] := fr_set (fr_refl _ _) (by decide)
        have q1 : mX G (h.set 59 (.inl (gA G 0, 240, .inl (upd w (60 * z + k) x)))) (setS T T.fa z true (T.ln z) (T.sz z) (upd (T.ce z) k (cutI (T.ln z) v))) i j := mX_sh q hf1 (ms_set (rg_ne (by decide) h57) (rg_ne (by decide) h58) (rg_eq h59) (by rw [hfz, hb]) hgz (fun c hc => by
          by_cases ec : c = k
          · rw [ec, pk_us, pk_us]; exact ex
          · rw [pk_un (by omega), pk_un ec]; exact (hx z hz).2.2 c hc) (fun y hy ey => ⟨(hx y hy).1, (hx y hy).2.1, fun c hc => by have := o.sz60 hy; rw [pk_un (by omega)]; exact (hx y hy).2.2 c hc⟩))
        exact ⟨by rw [et]; exact ⟨_, j, mX_fa q1 e38 hf2⟩, kpm (fr_trans (fr_mono hf1 (T := [38, 57, 58, 59]) (by decide)) hf2 (by decide)) (by decide)⟩
      refine rM_start (by decide) (Nat.le_of_ble_eq_true rfl) ?_
      refine a_iload_n 1 dX12_put_0 rfl rfl ?_
      refine a_callS ok_X12_noSheet ln_X12_87 is_X12_noSheet rfl 4 dX12_put_1 rfl (k_X12_noSheet (nI z)) rfl rfl ⟨(Nat.le_of_ble_eq_true rfl), (Nat.le_of_ble_eq_true rfl)⟩ (Nat.le_of_ble_eq_true rfl) ⟨(Nat.le_of_ble_eq_true rfl), (Nat.le_of_ble_eq_true rfl)⟩ ?_
      rintro _ _ ⟨rfl, rfl⟩
      refine a_if_eq 13 7 dX12_put_4 rfl (by decide) (fun c_4 => ?_) (fun c_4 => absurd (if_pos (oT_yes hz (by decide))) c_4)
      refine a_aload_n 14 dX12_put_13 rfl rfl ?_
      refine a_iload_n 15 dX12_put_14 rfl rfl ?_
      refine a_iload_n 16 dX12_put_15 rfl rfl ?_
      refine a_callV ok_X12_noCell ln_X12_320 in_X12_noCell rfl 19 dX12_put_16 rfl (k_X12_noCell hm h57 hz (nI k)) (by repeat (first | assumption | (refine rg_ne (by first | decide | omega) ?_) | apply rg_eq | refine rg_fr (by assumption) (by first | decide | (simp; omega)) ?_)) rfl rfl rfl ⟨(Nat.le_of_ble_eq_true rfl), (Nat.le_of_ble_eq_true rfl)⟩ (Nat.le_of_ble_eq_true rfl) ⟨(Nat.le_of_ble_eq_true rfl), (Nat.le_of_ble_eq_true rfl)⟩ ?_
      rintro _ _ ⟨rfl, rfl⟩
      rw [hnc]
      refine a_if_le 33 22 dX12_put_19 rfl (by decide) (fun c_19 => ?_) (fun c_19 => absurd (Int32.le_refl _) c_19)
      refine a_aload_n 34 dX12_put_33 rfl rfl ?_
      refine a_get fd_X12_71 rfl 37 dX12_put_34 rfl (by repeat (first | assumption | (refine rg_ne (by first | decide | omega) ?_) | apply rg_eq | refine rg_fr (by assumption) (by first | decide | (simp; omega)) ?_)) rfl ?_
      refine a_bipush (60) 39 dX12_put_37 rfl (by decide) ?_
      refine a_iload_n 40 dX12_put_39 rfl rfl ?_
      refine a_imul 41 dX12_put_40 rfl ?_
      refine a_iload_n 42 dX12_put_41 rfl rfl ?_
      refine a_iadd 43 dX12_put_42 rfl ?_
      refine a_aload_n 44 dX12_put_43 rfl rfl ?_
      refine a_get fd_X12_68 rfl 47 dX12_put_44 rfl (by repeat (first | assumption | (refine rg_ne (by first | decide | omega) ?_) | apply rg_eq | refine rg_fr (by assumption) (by first | decide | (simp; omega)) ?_)) rfl ?_
      refine a_iload_n 48 dX12_put_47 rfl rfl ?_
      refine a_iaload 49 dX12_put_48 rfl (by repeat (first | assumption | (refine rg_ne (by first | decide | omega) ?_) | apply rg_eq | refine rg_fr (by assumption) (by first | decide | (simp; omega)) ?_)) vz ?_
      rw [ez, hgz]
      refine a_if_ne 57 52 dX12_put_49 rfl (by decide) (fun c_49 => ?_) (fun c_49 => ?_)
      · refine a_aload_n 58 dX12_put_57 rfl rfl ?_
        refine a_get fd_X12_68 rfl 61 dX12_put_58 rfl (by repeat (first | assumption | (refine rg_ne (by first | decide | omega) ?_) | apply rg_eq | refine rg_fr (by assumption) (by first | decide | (simp; omega)) ?_)) rfl ?_
        refine a_iload_n 62 dX12_put_61 rfl rfl ?_
        refine a_iaload 63 dX12_put_62 rfl (by repeat (first | assumption | (refine rg_ne (by first | decide | omega) ?_) | apply rg_eq | refine rg_fr (by assumption) (by first | decide | (simp; omega)) ?_)) vz ?_
        rw [ez, hgz]
        refine a_iconst (1) 64 dX12_put_63 rfl (by decide) ?_
        refine a_icmp_ne 72 67 dX12_put_64 rfl (by decide) (fun c_64 => ?_) (fun c_64 => ?_)
        · refine a_iload_n 73 dX12_put_72 rfl rfl ?_
          refine a_iastore 74 dX12_put_73 rfl (by repeat (first | assumption | (refine rg_ne (by first | decide | omega) ?_) | apply rg_eq | refine rg_fr (by assumption) (by first | decide | (simp; omega)) ?_)) v73 ?_
          refine a_aload_n 75 dX12_put_74 rfl rfl ?_
          refine a_iconst (1) 76 dX12_put_75 rfl (by decide) ?_
          refine a_callV ok_X12_refused ln_X12_91 in_X12_refused rfl 79 dX12_put_76 rfl (k_X12_refused (rg_ne (by decide) hm) 1) (by repeat (first | assumption | (refine rg_ne (by first | decide | omega) ?_) | apply rg_eq | refine rg_fr (by assumption) (by first | decide | (simp; omega)) ?_)) rfl rfl rfl ⟨(Nat.le_of_ble_eq_true rfl), (Nat.le_of_ble_eq_true rfl)⟩ (Nat.le_of_ble_eq_true rfl) ⟨(Nat.le_of_ble_eq_true rfl), (Nat.le_of_ble_eq_true rfl)⟩ ?_
          rintro h2 v ⟨rfl, e2, hf2⟩
          exact a_ireturn dX12_put_79 rfl rfl (Nat.le_of_ble_eq_true rfl) (Nat.le_of_ble_eq_true rfl) ⟨by rw [ea], hfin _ (by unfold cutI; rw [if_neg c_49, if_neg c_64]) e2 hf2⟩
        · refine a_iload_n 68 dX12_put_67 rfl rfl ?_
          refine a_i2s 69 dX12_put_68 rfl ?_
          refine a_goto 73 dX12_put_69 (by decide) ?_
          refine a_iastore 74 dX12_put_73 rfl (by repeat (first | assumption | (refine rg_ne (by first | decide | omega) ?_) | apply rg_eq | refine rg_fr (by assumption) (by first | decide | (simp; omega)) ?_)) v73 ?_
          refine a_aload_n 75 dX12_put_74 rfl rfl ?_
          refine a_iconst (1) 76 dX12_put_75 rfl (by decide) ?_
          refine a_callV ok_X12_refused ln_X12_91 in_X12_refused rfl 79 dX12_put_76 rfl (k_X12_refused (rg_ne (by decide) hm) 1) (by repeat (first | assumption | (refine rg_ne (by first | decide | omega) ?_) | apply rg_eq | refine rg_fr (by assumption) (by first | decide | (simp; omega)) ?_)) rfl rfl rfl ⟨(Nat.le_of_ble_eq_true rfl), (Nat.le_of_ble_eq_true rfl)⟩ (Nat.le_of_ble_eq_true rfl) ⟨(Nat.le_of_ble_eq_true rfl), (Nat.le_of_ble_eq_true rfl)⟩ ?_
          rintro h2 v ⟨rfl, e2, hf2⟩
          exact a_ireturn dX12_put_79 rfl rfl (Nat.le_of_ble_eq_true rfl) (Nat.le_of_ble_eq_true rfl) ⟨by rw [ea], hfin _ (by unfold cutI; rw [if_neg c_49, if_pos c_64]) e2 hf2⟩
      · refine a_iload_n 53 dX12_put_52 rfl rfl ?_
        refine a_i2b 54 dX12_put_53 rfl ?_
        refine a_goto 73 dX12_put_54 (by decide) ?_
        refine a_iastore 74 dX12_put_73 rfl (by repeat (first | assumption | (refine rg_ne (by first | decide | omega) ?_) | apply rg_eq | refine rg_fr (by assumption) (by first | decide | (simp; omega)) ?_)) v73 ?_
        refine a_aload_n 75 dX12_put_74 rfl rfl ?_
        refine a_iconst (1) 76 dX12_put_75 rfl (by decide) ?_
        refine a_callV ok_X12_refused ln_X12_91 in_X12_refused rfl 79 dX12_put_76 rfl (k_X12_refused (rg_ne (by decide) hm) 1) (by repeat (first | assumption | (refine rg_ne (by first | decide | omega) ?_) | apply rg_eq | refine rg_fr (by assumption) (by first | decide | (simp; omega)) ?_)) rfl rfl rfl ⟨(Nat.le_of_ble_eq_true rfl), (Nat.le_of_ble_eq_true rfl)⟩ (Nat.le_of_ble_eq_true rfl) ⟨(Nat.le_of_ble_eq_true rfl), (Nat.le_of_ble_eq_true rfl)⟩ ?_
        rintro h2 v ⟨rfl, e2, hf2⟩
        exact a_ireturn dX12_put_79 rfl rfl (Nat.le_of_ble_eq_true rfl) (Nat.le_of_ble_eq_true rfl) ⟨by rw [ea], hfin _ (by unfold cutI; rw [if_pos c_49]) e2 hf2⟩
end MPUT
