/-- the model's yawns: ny of them; minutes ym, by whom yw -/
def mwAt (G : rG) (h : rH) (i : Nat → Int32) (j : Nat → Int64) (m ny : Nat) (ym yw : Nat → Nat) : Prop :=
  h[38]? = some (mo G i j) ∧ i 23 = nI ny ∧ ny ≤ 24 ∧ (∃ f, h[51]? = some (.inl (gA G 0, 24, .inl f)) ∧ ∀ q, q < ny → f q = nI (ym q) ∧ ym q < 600) ∧ (∃ f, h[52]? = some (.inl (gA G 0, 24, .inl f)) ∧ ∀ q, q < ny → f q = nI (yw q) ∧ yw q < m)
theorem mwAt.fr {G : rG} {h h' : rH} {i : Nat → Int32} {j : Nat → Int64} {m ny : Nat} {ym yw : Nat → Nat} (q : mwAt G h i j m ny ym yw) {S : List Nat} (hf : fr h h' S) (h1 : 38 ∉ S) (h2 : 51 ∉ S) (h3 : 52 ∉ S) : mwAt G h' i j m ny ym yw := by
  obtain ⟨q1, q2, q3, ⟨f4, q4, q4'⟩, ⟨f5, q5, q5'⟩⟩ := q
  exact ⟨rg_fr hf h1 q1, q2, q3, ⟨f4, rg_fr hf h2 q4, q4'⟩, ⟨f5, rg_fr hf h3 q5, q5'⟩⟩
/-- the might of yawn p as a source of yawn q -/
def srcN (nu : Nat → Nat → Nat) (mi : Nat → Nat → Nat) (ym yw : Nat → Nat) (z q p : Nat) : Nat := if p < q then fromN nu mi z (ym q) (yw q) (ym p) (yw p) else 0
def sumN (f : Nat → Nat) : Nat → Nat
  | 0 => 0
  | n + 1 => sumN f n + f n
abbrev allN (ow : Nat → Nat) (nu : Nat → Nat → Nat) (mi : Nat → Nat → Nat) (ym yw : Nat → Nat) (z q : Nat) : Nat := ow (yw q) + sumN (srcN nu mi ym yw z q) q
section MSRC
variable {l : Launch} {G : rG} {h : rH} {i : Nat → Int32} {j : Nat → Int64} {bR bB : Nat → Int32} {nb : Nat → Nat → Option Nat} {wi n m nl ny : Nat} {mir : Bool} {face kd se sl ki ym yw : Nat → Nat} {nu : Nat → Nat → Nat}
set_option maxRecDepth 100000 in
set_option maxHeartbeats 400000 in
theorem k_X12_sourceO (ho : moAt G h i j n m kd se sl ki) (hl : mlAt G h i j nl nu) (hw : mwAt G h i j m ny ym yw) {z q : Nat} (hz : z < nl) (hq : q < ny) : rM l G 6 mX12_source 0 0 [.ref (gN G + 38), .int (nI z), .int (nI q), .int (-9)] h (rV h (some (.int (nI (ownN kd sl nu z (yw q)))))) := by
  obtain ⟨hm, -, hn24, -, ⟨f5, q5, q5'⟩⟩ := hw
  have vq : vp_in (nI q) 24 := vp_in_nI (by omega) (by decide)
  have e5 := q5' q hq
  refine rM_start (by decide) (Nat.le_of_ble_eq_true rfl) ?_
  refine a_iload_n 1 dX12_source_0 rfl rfl ?_
  refine a_bipush (-9) 3 dX12_source_1 rfl (by decide) ?_
  refine a_icmp_ne 20 6 dX12_source_3 rfl (by decide) (fun c_3 => absurd rfl c_3) (fun c_3 => ?_)
  refine a_aload_n 7 dX12_source_6 rfl rfl ?_
  refine a_iload_n 8 dX12_source_7 rfl rfl ?_
  refine a_aload_n 9 dX12_source_8 rfl rfl ?_
  refine a_get fd_X12_50 rfl 12 dX12_source_9 rfl (by repeat (first | assumption | (refine rg_ne (by first | decide | omega) ?_) | apply rg_eq | refine rg_fr (by assumption) (by first | decide | (simp; omega)) ?_)) rfl ?_
  refine a_iload_n 13 dX12_source_12 rfl rfl ?_
  refine a_iaload 14 dX12_source_13 rfl (by repeat (first | assumption | (refine rg_ne (by first | decide | omega) ?_) | apply rg_eq | refine rg_fr (by assumption) (by first | decide | (simp; omega)) ?_)) (by assumption) ?_
  rw [nI_clamp (by omega), e5.1]
  refine a_bipush (-9) 16 dX12_source_14 rfl (by decide) ?_
  refine a_callV ok_X12_mightOf ln_X12_234 in_X12_mightOf rfl 19 dX12_source_16 rfl (k_X12_mightO ho hl hz e5.2) (by repeat (first | assumption | (refine rg_ne (by first | decide | omega) ?_) | apply rg_eq | refine rg_fr (by assumption) (by first | decide | (simp; omega)) ?_)) rfl rfl rfl ⟨(Nat.le_of_ble_eq_true rfl), (Nat.le_of_ble_eq_true rfl)⟩ (Nat.le_of_ble_eq_true rfl) ⟨(Nat.le_of_ble_eq_true rfl), (Nat.le_of_ble_eq_true rfl)⟩ ?_
  rintro _ _ ⟨rfl, rfl⟩
  exact a_ireturn dX12_source_19 rfl rfl (Nat.le_of_ble_eq_true rfl) (Nat.le_of_ble_eq_true rfl) ⟨rfl, rfl⟩
set_option maxRecDepth 100000 in
set_option maxHeartbeats 400000 in
theorem k_X12_sourceS (hc : mcAt G h i j nb bR bB wi n mir face) (ho : moAt G h i j n m kd se sl ki) (hl : mlAt G h i j nl nu) (hw : mwAt G h i j m ny ym yw) {z q p : Nat} (hz : z < nl) (hq : q < ny) (hp : p < ny) : rM l G 7 mX12_source 0 0 [.ref (gN G + 38), .int (nI z), .int (nI q), .int (nI p)] h (fun h' v => v = some (.int (nI (srcN nu (mightN nb (blM bR bB wi) mir face kd se ki nu z) ym yw z q p))) ∧ mcAt G h' i j nb bR bB wi n mir face ∧ fr h h' [44]) := by
  obtain ⟨hm, -, hn24, ⟨f4, q4, q4'⟩, ⟨f5, q5, q5'⟩⟩ := hw
  have vq : vp_in (nI q) 24 := vp_in_nI (by omega) (by decide)
  have vp : vp_in (nI p) 24 := vp_in_nI (by omega) (by decide)
  have eq4 := q4' q hq
  have eq5 := q5' q hq
  have ep4 := q4' p hp
  have ep5 := q5' p hp
  have hlt : nI q ≤ nI p ↔ q ≤ p := nI_leI (by omega) (by omega)
  refine rM_start (by decide) (Nat.le_of_ble_eq_true rfl) ?_
  refine a_iload_n 1 dX12_source_0 rfl rfl ?_
  refine a_bipush (-9) 3 dX12_source_1 rfl (by decide) ?_
  refine a_icmp_ne 20 6 dX12_source_3 rfl (by decide) (fun c_3 => ?_) (fun c_3 => absurd c_3 (nI_ne9 (by omega)))
  refine a_iload_n 21 dX12_source_20 rfl rfl ?_
  refine a_iload_n 22 dX12_source_21 rfl rfl ?_
  refine a_icmp_ge 57 25 dX12_source_22 rfl (by decide) (fun c_22 => ?_) (fun c_22 => ?_)
  · refine a_iconst (0) 58 dX12_source_57 rfl (by decide) ?_
    exact a_ireturn dX12_source_58 rfl rfl (Nat.le_of_ble_eq_true rfl) (Nat.le_of_ble_eq_true rfl) ⟨by rw [srcN, if_neg (by have := hlt.mp c_22; omega)]; rfl, hc, fr_refl _ _⟩
  · refine a_aload_n 26 dX12_source_25 rfl rfl ?_
    refine a_iload_n 27 dX12_source_26 rfl rfl ?_
    refine a_aload_n 28 dX12_source_27 rfl rfl ?_
    refine a_get fd_X12_47 rfl 31 dX12_source_28 rfl (by repeat (first | assumption | (refine rg_ne (by first | decide | omega) ?_) | apply rg_eq | refine rg_fr (by assumption) (by first | decide | (simp; omega)) ?_)) rfl ?_
    refine a_iload_n 32 dX12_source_31 rfl rfl ?_
    refine a_iaload 33 dX12_source_32 rfl (by repeat (first | assumption | (refine rg_ne (by first | decide | omega) ?_) | apply rg_eq | refine rg_fr (by assumption) (by first | decide | (simp; omega)) ?_)) (by assumption) ?_
    refine a_aload_n 34 dX12_source_33 rfl rfl ?_
    refine a_get fd_X12_50 rfl 37 dX12_source_34 rfl (by repeat (first | assumption | (refine rg_ne (by first | decide | omega) ?_) | apply rg_eq | refine rg_fr (by assumption) (by first | decide | (simp; omega)) ?_)) rfl ?_
    refine a_iload_n 38 dX12_source_37 rfl rfl ?_
    refine a_iaload 39 dX12_source_38 rfl (by repeat (first | assumption | (refine rg_ne (by first | decide | omega) ?_) | apply rg_eq | refine rg_fr (by assumption) (by first | decide | (simp; omega)) ?_)) (by assumption) ?_
    refine a_aload_n 40 dX12_source_39 rfl rfl ?_
    refine a_get fd_X12_47 rfl 43 dX12_source_40 rfl (by repeat (first | assumption | (refine rg_ne (by first | decide | omega) ?_) | apply rg_eq | refine rg_fr (by assumption) (by first | decide | (simp; omega)) ?_)) rfl ?_
    refine a_iload_n 44 dX12_source_43 rfl rfl ?_
    refine a_iaload 45 dX12_source_44 rfl (by repeat (first | assumption | (refine rg_ne (by first | decide | omega) ?_) | apply rg_eq | refine rg_fr (by assumption) (by first | decide | (simp; omega)) ?_)) (by assumption) ?_
    refine a_aload_n 46 dX12_source_45 rfl rfl ?_
    refine a_get fd_X12_50 rfl 49 dX12_source_46 rfl (by repeat (first | assumption | (refine rg_ne (by first | decide | omega) ?_) | apply rg_eq | refine rg_fr (by assumption) (by first | decide | (simp; omega)) ?_)) rfl ?_
    refine a_iload_n 50 dX12_source_49 rfl rfl ?_
    refine a_iaload 51 dX12_source_50 rfl (by repeat (first | assumption | (refine rg_ne (by first | decide | omega) ?_) | apply rg_eq | refine rg_fr (by assumption) (by first | decide | (simp; omega)) ?_)) (by assumption) ?_
    rw [nI_clamp (by omega), nI_clamp (by omega), eq4.1, eq5.1, ep4.1, ep5.1]
    refine a_callV ok_X12_mightFrom ln_X12_246 in_X12_mightFrom rfl 54 dX12_source_51 rfl (k_X12_mightFrom hc ho hl hz eq5.2 ep5.2 (by omega) (by omega)) (by repeat (first | assumption | (refine rg_ne (by first | decide | omega) ?_) | apply rg_eq | refine rg_fr (by assumption) (by first | decide | (simp; omega)) ?_)) rfl rfl rfl ⟨(Nat.le_of_ble_eq_true rfl), (Nat.le_of_ble_eq_true rfl)⟩ (Nat.le_of_ble_eq_true rfl) ⟨(Nat.le_of_ble_eq_true rfl), (Nat.le_of_ble_eq_true rfl)⟩ ?_
    rintro h1 v ⟨rfl, hc1, hf1⟩
    refine a_goto 58 dX12_source_54 (by decide) ?_
    exact a_ireturn dX12_source_58 rfl rfl (Nat.le_of_ble_eq_true rfl) (Nat.le_of_ble_eq_true rfl) ⟨by rw [srcN, if_pos (Nat.not_le.mp (fun z => c_22 (hlt.mpr z)))], hc1, hf1⟩
set_option maxRecDepth 100000 in
set_option maxHeartbeats 400000 in
theorem k_X12_allSources (hc : mcAt G h i j nb bR bB wi n mir face) (ho : moAt G h i j n m kd se sl ki) (hl : mlAt G h i j nl nu) (hw : mwAt G h i j m ny ym yw) {z q : Nat} (hz : z < nl) (hq : q < ny) : rM l G 8 mX12_allSources 0 0 [.ref (gN G + 38), .int (nI z), .int (nI q)] h (fun h' v => v = some (.int (nI (allN (ownN kd sl nu z) nu (mightN nb (blM bR bB wi) mir face kd se ki nu z) ym yw z q))) ∧ mcAt G h' i j nb bR bB wi n mir face ∧ fr h h' [44]) := by
  have hm := hw.1
  have hn24 := hw.2.2.1
  refine rM_start (by decide) (Nat.le_of_ble_eq_true rfl) ?_
  have L : ∀ (r p : Nat) (s y : Int32) (h1 : rH), p + r = q → s = nI (ownN kd sl nu z (yw q) + sumN (srcN nu (mightN nb (blM bR bB wi) mir face kd se ki nu z) ym yw z q) p) → y = nI p → mcAt G h1 i j nb bR bB wi n mir face → fr h h1 [44] → rW l G (rRm 8 0 0) mX12_allSources (rZ G (fun h' v => v = some (.int (nI (allN (ownN kd sl nu z) nu (mightN nb (blM bR bB wi) mir face kd se ki nu z) ym yw z q))) ∧ mcAt G h' i j nb bR bB wi n mir face ∧ fr h h' [44]) 0 0) 0 0 12 [some (.ref (gN G + 38)), some (.int (nI z)), some (.int (nI q)), some (.int s), some (.int y)] [] h1 := by
    intro r
    induction r with
    | zero =>
      intro p s y h1 hp hs hy hc1 hf1
      subst hs; subst hy
      have e : p = q := by omega
      subst e
      refine a_iload 14 dX12_allSources_12 rfl rfl ?_
      refine a_iload_n 15 dX12_allSources_14 rfl rfl ?_
      refine a_icmp_ge 35 18 dX12_allSources_15 rfl (by decide) (fun c_15 => ?_) (fun c_15 => absurd (Int32.le_refl _) c_15)
      refine a_iload_n 36 dX12_allSources_35 rfl rfl ?_
      exact a_ireturn dX12_allSources_36 rfl rfl (Nat.le_of_ble_eq_true rfl) (Nat.le_of_ble_eq_true rfl) ⟨rfl, hc1, hf1⟩
    | succ r ih =>
      intro p s y h1 hp hs hy hc1 hf1
      subst hs; subst hy
      have hm1 := rg_fr hf1 (by decide) hm
      refine a_iload 14 dX12_allSources_12 rfl rfl ?_
      refine a_iload_n 15 dX12_allSources_14 rfl rfl ?_
      refine a_icmp_ge 35 18 dX12_allSources_15 rfl (by decide) (fun c_15 => absurd c_15 (nI_ge (a := p) (b := q) (by omega) (by omega))) (fun c_15 => ?_)
      refine a_iload_n 19 dX12_allSources_18 rfl rfl ?_
      refine a_aload_n 20 dX12_allSources_19 rfl rfl ?_
      refine a_iload_n 21 dX12_allSources_20 rfl rfl ?_
      refine a_iload_n 22 dX12_allSources_21 rfl rfl ?_
      refine a_iload 24 dX12_allSources_22 rfl rfl ?_
      refine a_callV ok_X12_source ln_X12_250 in_X12_source rfl 27 dX12_allSources_24 rfl (k_X12_sourceS hc1 (ho.fr hf1 (by decide) (by decide) (by decide) (by decide) (by decide)) (hl.fr hf1 (by decide) (by decide)) (hw.fr hf1 (by decide) (by decide) (by decide)) hz hq (by omega)) (by repeat (first | assumption | (refine rg_ne (by first | decide | omega) ?_) | apply rg_eq | refine rg_fr (by assumption) (by first | decide | (simp; omega)) ?_)) rfl rfl rfl ⟨(Nat.le_of_ble_eq_true rfl), (Nat.le_of_ble_eq_true rfl)⟩ (Nat.le_of_ble_eq_true rfl) ⟨(Nat.le_of_ble_eq_true rfl), (Nat.le_of_ble_eq_true rfl)⟩ ?_
      rintro h2 v ⟨rfl, hc2, hf2⟩
      refine a_iadd 28 dX12_allSources_27 rfl ?_
      refine a_istore_n 29 dX12_allSources_28 rfl (by decide) ?_
      refine a_iinc _ 32 dX12_allSources_29 rfl rfl (by decide) rfl ?_
      refine a_goto 12 dX12_allSources_32 (by decide) ?_
      exact ih (p + 1) _ _ _ (by omega) (by rw [sumN, ← Nat.add_assoc, nI_add]) (nI_1 p) hc2 (fr_trans hf1 hf2 (fun _ q => q))
  refine a_aload_n 1 dX12_allSources_0 rfl rfl ?_
  refine a_iload_n 2 dX12_allSources_1 rfl rfl ?_
  refine a_iload_n 3 dX12_allSources_2 rfl rfl ?_
  refine a_bipush (-9) 5 dX12_allSources_3 rfl (by decide) ?_
  refine a_callV ok_X12_source ln_X12_250 in_X12_source rfl 8 dX12_allSources_5 rfl (k_X12_sourceO ho hl hw hz hq) (by repeat (first | assumption | (refine rg_ne (by first | decide | omega) ?_) | apply rg_eq | refine rg_fr (by assumption) (by first | decide | (simp; omega)) ?_)) rfl rfl rfl ⟨(Nat.le_of_ble_eq_true rfl), (Nat.le_of_ble_eq_true rfl)⟩ (Nat.le_of_ble_eq_true rfl) ⟨(Nat.le_of_ble_eq_true rfl), (Nat.le_of_ble_eq_true rfl)⟩ ?_
  rintro _ _ ⟨rfl, rfl⟩
  refine a_istore_n 9 dX12_allSources_8 rfl (by decide) ?_
  refine a_iconst (0) 10 dX12_allSources_9 rfl (by decide) ?_
  refine a_istore 12 dX12_allSources_10 rfl (by decide) ?_
  exact L q 0 _ _ _ (by omega) rfl rfl hc (fr_refl _ _)
end MSRC
