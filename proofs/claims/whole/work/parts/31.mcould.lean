/-- the set of the numbers below n for which P holds, as the model lays it -/
def bsN (P : Nat → Bool) : Nat → Int32
  | 0 => 0
  | n + 1 => bsN P n ||| (if P n then 1 <<< (nI n &&& 31) else 0)
theorem bsN_t {P : Nat → Bool} {n : Nat} (h : P n = true) : bsN P n ||| 1 <<< (nI n &&& 31) = bsN P (n + 1) := by
  rw [bsN, if_pos h]
theorem bsN_f {P : Nat → Bool} {n : Nat} (h : P n = false) : bsN P n ||| 0 = bsN P (n + 1) := by
  rw [bsN, h]; rfl
section MCOULD
variable {l : Launch} {G : rG} {h : rH} {i : Nat → Int32} {j : Nat → Int64} {bR bB : Nat → Int32} {nb : Nat → Nat → Option Nat} {wi n m nl ny : Nat} {mir : Bool} {face kd se sl ki ym yw : Nat → Nat} {nu : Nat → Nat → Nat}
theorem srcN_le {nb : Nat → Nat → Option Nat} {bl : Nat → Nat → Int32} {z q p : Nat} (hu : ∀ w, w < 7 → nu z w < 10) : srcN nu (mightN nb bl mir face kd se ki nu z) ym yw z q p < 1000 := by
  unfold srcN fromN
  repeat' split
  all_goals first | decide | exact mightN_le hu
theorem nI_le0 {k : Nat} (hk : k < 2 ^ 31) : nI k ≤ 0 ↔ k = 0 := by
  rw [← nI_0, nI_leI hk (by decide)]
  omega
set_option maxRecDepth 100000 in
set_option maxHeartbeats 400000 in
theorem k_X12_couldN (hc : mcAt G h i j nb bR bB wi n mir face) (ho : moAt G h i j n m kd se sl ki) (hl : mlAt G h i j nl nu) (hw : mwAt G h i j m ny ym yw) {z q : Nat} (hz : z < nl) (hq : q < ny) : rM l G 8 mX12_could 0 0 [.ref (gN G + 38), .int (nI z), .int (nI q)] h (fun h' v => v = some (.int (bsN (fun p => decide (0 < srcN nu (mightN nb (blM bR bB wi) mir face kd se ki nu z) ym yw z q p)) q)) ∧ mcAt G h' i j nb bR bB wi n mir face ∧ fr h h' [44]) := by
  have hm := hw.1
  have hny := hw.2.1
  have hn24 := hw.2.2.1
  have hnl := hl.2.1
  have hl6 := hl.2.2.1
  obtain ⟨-, -, -, f, -, qf⟩ := id hl
  have hu : ∀ w, w < 7 → nu z w < 10 := fun w hw => (qf z w hz hw).2
  refine rM_start (by decide) (Nat.le_of_ble_eq_true rfl) ?_
  have L : ∀ (r p : Nat) (s y : Int32) (h1 : rH), p + r = q → s = bsN (fun p => decide (0 < srcN nu (mightN nb (blM bR bB wi) mir face kd se ki nu z) ym yw z q p)) p → y = nI p → mcAt G h1 i j nb bR bB wi n mir face → fr h h1 [44] → rW l G (rRm 8 0 0) mX12_could (rZ G (fun h' v => v = some (.int (bsN (fun p => decide (0 < srcN nu (mightN nb (blM bR bB wi) mir face kd se ki nu z) ym yw z q p)) q)) ∧ mcAt G h' i j nb bR bB wi n mir face ∧ fr h h' [44]) 0 0) 0 0 23 [some (.ref (gN G + 38)), some (.int (nI z)), some (.int (nI q)), some (.int s), some (.int y)] [] h1 := by
    intro r
    induction r with
    | zero =>
      intro p s y h1 hp hs hy hc1 hf1
      subst hs; subst hy
      have e : p = q := by omega
      subst e
      refine a_iload 25 dX12_could_23 rfl rfl ?_
      refine a_iload_n 26 dX12_could_25 rfl rfl ?_
      refine a_icmp_ge 57 29 dX12_could_26 rfl (by decide) (fun c_26 => ?_) (fun c_26 => absurd (Int32.le_refl _) c_26)
      refine a_iload_n 58 dX12_could_57 rfl rfl ?_
      exact a_ireturn dX12_could_58 rfl rfl (Nat.le_of_ble_eq_true rfl) (Nat.le_of_ble_eq_true rfl) ⟨rfl, hc1, hf1⟩
    | succ r ih =>
      intro p s y h1 hp hs hy hc1 hf1
      subst hs; subst hy
      have hm1 := rg_fr hf1 (by decide) hm
      have hsl := srcN_le (nb := nb) (bl := blM bR bB wi) (mir := mir) (face := face) (kd := kd) (se := se) (ki := ki) (ym := ym) (yw := yw) (q := q) (p := p) hu
      have hle := nI_le0 (k := srcN nu (mightN nb (blM bR bB wi) mir face kd se ki nu z) ym yw z q p) (by omega)
      refine a_iload 25 dX12_could_23 rfl rfl ?_
      refine a_iload_n 26 dX12_could_25 rfl rfl ?_
      refine a_icmp_ge 57 29 dX12_could_26 rfl (by decide) (fun c_26 => absurd c_26 (nI_ge (a := p) (b := q) (by omega) (by omega))) (fun c_26 => ?_)
      refine a_iload_n 30 dX12_could_29 rfl rfl ?_
      refine a_aload_n 31 dX12_could_30 rfl rfl ?_
      refine a_iload_n 32 dX12_could_31 rfl rfl ?_
      refine a_iload_n 33 dX12_could_32 rfl rfl ?_
      refine a_iload 35 dX12_could_33 rfl rfl ?_
      refine a_callV ok_X12_source ln_X12_250 in_X12_source rfl 38 dX12_could_35 rfl (k_X12_sourceS hc1 (ho.fr hf1 (by decide) (by decide) (by decide) (by decide) (by decide)) (hl.fr hf1 (by decide) (by decide)) (hw.fr hf1 (by decide) (by decide) (by decide)) hz hq (by omega)) (by repeat (first | assumption | (refine rg_ne (by first | decide | omega) ?_) | apply rg_eq | refine rg_fr (by assumption) (by first | decide | (simp; omega)) ?_)) rfl rfl rfl ⟨(Nat.le_of_ble_eq_true rfl), (Nat.le_of_ble_eq_true rfl)⟩ (Nat.le_of_ble_eq_true rfl) ⟨(Nat.le_of_ble_eq_true rfl), (Nat.le_of_ble_eq_true rfl)⟩ ?_
      rintro h2 v ⟨rfl, hc2, hf2⟩
      refine a_if_le 48 41 dX12_could_38 rfl (by decide) (fun c_38 => ?_) (fun c_38 => ?_)
      · refine a_iconst (0) 49 dX12_could_48 rfl (by decide) ?_
        refine a_ior 50 dX12_could_49 rfl ?_
        refine a_istore_n 51 dX12_could_50 rfl (by decide) ?_
        refine a_iinc _ 54 dX12_could_51 rfl rfl (by decide) rfl ?_
        refine a_goto 23 dX12_could_54 (by decide) ?_
        exact ih (p + 1) _ _ _ (by omega) (bsN_f (decide_eq_false (by rw [hle.mp c_38]; decide))) (nI_1 p) hc2 (fr_trans hf1 hf2 (fun _ q => q))
      · refine a_iconst (1) 42 dX12_could_41 rfl (by decide) ?_
        refine a_iload 44 dX12_could_42 rfl rfl ?_
        refine a_ishl 45 dX12_could_44 rfl ?_
        refine a_goto 49 dX12_could_45 (by decide) ?_
        refine a_ior 50 dX12_could_49 rfl ?_
        refine a_istore_n 51 dX12_could_50 rfl (by decide) ?_
        refine a_iinc _ 54 dX12_could_51 rfl rfl (by decide) rfl ?_
        refine a_goto 23 dX12_could_54 (by decide) ?_
        exact ih (p + 1) _ _ _ (by omega) (bsN_t (decide_eq_true (Nat.pos_of_ne_zero (fun q => c_38 (hle.mpr q))))) (nI_1 p) hc2 (fr_trans hf1 hf2 (fun _ q => q))
  refine a_aload_n 1 dX12_could_0 rfl rfl ?_
  refine a_iload_n 2 dX12_could_1 rfl rfl ?_
  refine a_callV ok_X12_noLaw ln_X12_218 in_X12_noLaw rfl 5 dX12_could_2 rfl (k_X12_noLaw hm _) (by repeat (first | assumption | (refine rg_ne (by first | decide | omega) ?_) | apply rg_eq | refine rg_fr (by assumption) (by first | decide | (simp; omega)) ?_)) rfl rfl rfl ⟨(Nat.le_of_ble_eq_true rfl), (Nat.le_of_ble_eq_true rfl)⟩ (Nat.le_of_ble_eq_true rfl) ⟨(Nat.le_of_ble_eq_true rfl), (Nat.le_of_ble_eq_true rfl)⟩ ?_
  rintro _ _ ⟨rfl, rfl⟩
  refine a_if_ne 16 8 dX12_could_5 rfl (by decide) (fun c_5 => absurd (if_pos ⟨nI_pos' (by omega), by rw [hnl]; exact nI_lt hz (by omega)⟩) c_5) (fun c_5 => ?_)
  refine a_aload_n 9 dX12_could_8 rfl rfl ?_
  refine a_iload_n 10 dX12_could_9 rfl rfl ?_
  refine a_callV ok_X12_noYawn ln_X12_243 in_X12_noYawn rfl 13 dX12_could_10 rfl (k_X12_noYawn hm _) (by repeat (first | assumption | (refine rg_ne (by first | decide | omega) ?_) | apply rg_eq | refine rg_fr (by assumption) (by first | decide | (simp; omega)) ?_)) rfl rfl rfl ⟨(Nat.le_of_ble_eq_true rfl), (Nat.le_of_ble_eq_true rfl)⟩ (Nat.le_of_ble_eq_true rfl) ⟨(Nat.le_of_ble_eq_true rfl), (Nat.le_of_ble_eq_true rfl)⟩ ?_
  rintro _ _ ⟨rfl, rfl⟩
  refine a_if_eq 18 16 dX12_could_13 rfl (by decide) (fun c_13 => ?_) (fun c_13 => absurd (if_pos ⟨nI_pos' (by omega), by rw [hny]; exact nI_lt hq (by omega)⟩) c_13)
  refine a_iconst (0) 19 dX12_could_18 rfl (by decide) ?_
  refine a_istore_n 20 dX12_could_19 rfl (by decide) ?_
  refine a_iconst (0) 21 dX12_could_20 rfl (by decide) ?_
  refine a_istore 23 dX12_could_21 rfl (by decide) ?_
  exact L q 0 _ _ _ (by omega) rfl rfl hc (fr_refl _ _)
set_option maxRecDepth 100000 in
set_option maxHeartbeats 400000 in
theorem k_X12_sumAt (hc : mcAt G h i j nb bR bB wi n mir face) (ho : moAt G h i j n m kd se sl ki) (hl : mlAt G h i j nl nu) (hw : mwAt G h i j m ny ym yw) {z a x : Nat} (hz : z < nl) (hx : x < m) (ha : a < 2 ^ 30) : rM l G 7 mX12_sumAt 0 0 [.ref (gN G + 38), .int (nI z), .int (nI a), .int (nI x)] h (fun h' v => v = some (.int (nI (ownN kd sl nu z x + sumN (fun p => fromN nu (mightN nb (blM bR bB wi) mir face kd se ki nu z) z a x (ym p) (yw p)) ny))) ∧ mcAt G h' i j nb bR bB wi n mir face ∧ fr h h' [44]) := by
  have hm := hw.1
  have hny := hw.2.1
  have hn24 := hw.2.2.1
  obtain ⟨-, -, -, ⟨f4, q4, q4'⟩, ⟨f5, q5, q5'⟩⟩ := id hw
  refine rM_start (by decide) (Nat.le_of_ble_eq_true rfl) ?_
  have L : ∀ (r p : Nat) (s y : Int32) (h1 : rH), p + r = ny → s = nI (ownN kd sl nu z x + sumN (fun p => fromN nu (mightN nb (blM bR bB wi) mir face kd se ki nu z) z a x (ym p) (yw p)) p) → y = nI p → mcAt G h1 i j nb bR bB wi n mir face → fr h h1 [44] → rW l G (rRm 7 0 0) mX12_sumAt (rZ G (fun h' v => v = some (.int (nI (ownN kd sl nu z x + sumN (fun p => fromN nu (mightN nb (blM bR bB wi) mir face kd se ki nu z) z a x (ym p) (yw p)) ny))) ∧ mcAt G h' i j nb bR bB wi n mir face ∧ fr h h' [44]) 0 0) 0 0 13 [some (.ref (gN G + 38)), some (.int (nI z)), some (.int (nI a)), some (.int (nI x)), some (.int s), some (.int y)] [] h1 := by
    intro r
    induction r with
    | zero =>
      intro p s y h1 hp hs hy hc1 hf1
      subst hs; subst hy
      have hm1 := rg_fr hf1 (by decide) hm
      have e : p = ny := by omega
      subst e
      refine a_iload 15 dX12_sumAt_13 rfl rfl ?_
      refine a_aload_n 16 dX12_sumAt_15 rfl rfl ?_
      refine a_get fd_X12_163 rfl 19 dX12_sumAt_16 rfl (by repeat (first | assumption | (refine rg_ne (by first | decide | omega) ?_) | apply rg_eq | refine rg_fr (by assumption) (by first | decide | (simp; omega)) ?_)) rfl ?_
      refine a_icmp_ge 54 22 dX12_sumAt_19 rfl (by decide) (fun c_19 => ?_) (fun c_19 => absurd (by rw [hny]; exact Int32.le_refl _) c_19)
      refine a_iload 56 dX12_sumAt_54 rfl rfl ?_
      exact a_ireturn dX12_sumAt_56 rfl rfl (Nat.le_of_ble_eq_true rfl) (Nat.le_of_ble_eq_true rfl) ⟨rfl, hc1, hf1⟩
    | succ r ih =>
      intro p s y h1 hp hs hy hc1 hf1
      subst hs; subst hy
      have hm1 := rg_fr hf1 (by decide) hm
      have q41 := rg_fr hf1 (by decide) q4
      have q51 := rg_fr hf1 (by decide) q5
      have vp : vp_in (nI p) 24 := vp_in_nI (by omega) (by decide)
      have e4 := q4' p (by omega)
      have e5 := q5' p (by omega)
      refine a_iload 15 dX12_sumAt_13 rfl rfl ?_
      refine a_aload_n 16 dX12_sumAt_15 rfl rfl ?_
      refine a_get fd_X12_163 rfl 19 dX12_sumAt_16 rfl (by repeat (first | assumption | (refine rg_ne (by first | decide | omega) ?_) | apply rg_eq | refine rg_fr (by assumption) (by first | decide | (simp; omega)) ?_)) rfl ?_
      refine a_icmp_ge 54 22 dX12_sumAt_19 rfl (by decide) (fun c_19 => absurd c_19 (by rw [hny]; exact nI_ge (a := p) (b := ny) (by omega) (by omega))) (fun c_19 => ?_)
      refine a_iload 24 dX12_sumAt_22 rfl rfl ?_
      refine a_aload_n 25 dX12_sumAt_24 rfl rfl ?_
      refine a_iload_n 26 dX12_sumAt_25 rfl rfl ?_
      refine a_iload_n 27 dX12_sumAt_26 rfl rfl ?_
      refine a_iload_n 28 dX12_sumAt_27 rfl rfl ?_
      refine a_aload_n 29 dX12_sumAt_28 rfl rfl ?_
      refine a_get fd_X12_47 rfl 32 dX12_sumAt_29 rfl (by repeat (first | assumption | (refine rg_ne (by first | decide | omega) ?_) | apply rg_eq | refine rg_fr (by assumption) (by first | decide | (simp; omega)) ?_)) rfl ?_
      refine a_iload 34 dX12_sumAt_32 rfl rfl ?_
      refine a_iaload 35 dX12_sumAt_34 rfl (by repeat (first | assumption | (refine rg_ne (by first | decide | omega) ?_) | apply rg_eq | refine rg_fr (by assumption) (by first | decide | (simp; omega)) ?_)) vp ?_
      refine a_aload_n 36 dX12_sumAt_35 rfl rfl ?_
      refine a_get fd_X12_50 rfl 39 dX12_sumAt_36 rfl (by repeat (first | assumption | (refine rg_ne (by first | decide | omega) ?_) | apply rg_eq | refine rg_fr (by assumption) (by first | decide | (simp; omega)) ?_)) rfl ?_
      refine a_iload 41 dX12_sumAt_39 rfl rfl ?_
      refine a_iaload 42 dX12_sumAt_41 rfl (by repeat (first | assumption | (refine rg_ne (by first | decide | omega) ?_) | apply rg_eq | refine rg_fr (by assumption) (by first | decide | (simp; omega)) ?_)) vp ?_
      rw [nI_clamp (by omega), e4.1, e5.1]
      refine a_callV ok_X12_mightFrom ln_X12_246 in_X12_mightFrom rfl 45 dX12_sumAt_42 rfl (k_X12_mightFrom hc1 (ho.fr hf1 (by decide) (by decide) (by decide) (by decide) (by decide)) (hl.fr hf1 (by decide) (by decide)) hz hx e5.2 ha (by omega)) (by repeat (first | assumption | (refine rg_ne (by first | decide | omega) ?_) | apply rg_eq | refine rg_fr (by assumption) (by first | decide | (simp; omega)) ?_)) rfl rfl rfl ⟨(Nat.le_of_ble_eq_true rfl), (Nat.le_of_ble_eq_true rfl)⟩ (Nat.le_of_ble_eq_true rfl) ⟨(Nat.le_of_ble_eq_true rfl), (Nat.le_of_ble_eq_true rfl)⟩ ?_
      rintro h2 v ⟨rfl, hc2, hf2⟩
      refine a_iadd 46 dX12_sumAt_45 rfl ?_
      refine a_istore 48 dX12_sumAt_46 rfl (by decide) ?_
      refine a_iinc _ 51 dX12_sumAt_48 rfl rfl (by decide) rfl ?_
      refine a_goto 13 dX12_sumAt_51 (by decide) ?_
      exact ih (p + 1) _ _ _ (by omega) (by rw [sumN, ← Nat.add_assoc, nI_add]) (nI_1 p) hc2 (fr_trans hf1 hf2 (fun _ q => q))
  refine a_aload_n 1 dX12_sumAt_0 rfl rfl ?_
  refine a_iload_n 2 dX12_sumAt_1 rfl rfl ?_
  refine a_iload_n 3 dX12_sumAt_2 rfl rfl ?_
  refine a_bipush (-9) 5 dX12_sumAt_3 rfl (by decide) ?_
  refine a_callV ok_X12_mightOf ln_X12_234 in_X12_mightOf rfl 8 dX12_sumAt_5 rfl (k_X12_mightO ho hl hz hx) (by repeat (first | assumption | (refine rg_ne (by first | decide | omega) ?_) | apply rg_eq | refine rg_fr (by assumption) (by first | decide | (simp; omega)) ?_)) rfl rfl rfl ⟨(Nat.le_of_ble_eq_true rfl), (Nat.le_of_ble_eq_true rfl)⟩ (Nat.le_of_ble_eq_true rfl) ⟨(Nat.le_of_ble_eq_true rfl), (Nat.le_of_ble_eq_true rfl)⟩ ?_
  rintro _ _ ⟨rfl, rfl⟩
  refine a_istore 10 dX12_sumAt_8 rfl (by decide) ?_
  refine a_iconst (0) 11 dX12_sumAt_10 rfl (by decide) ?_
  refine a_istore 13 dX12_sumAt_11 rfl (by decide) ?_
  exact L ny 0 _ _ _ (by omega) rfl rfl hc (fr_refl _ _)
end MCOULD
