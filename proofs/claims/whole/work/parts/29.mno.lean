theorem in64c (c : Int32) (k : Nat) (hk : k < 2 ^ 30) {y : Int64} (hy : y.toInt = (k : Int)) : ((0 : Int64) ≤ c.toInt64 ∧ c.toInt64 ≤ y) ↔ (0 ≤ c ∧ c < nI (k + 1)) := by
  rw [Int64.le_iff_toInt_le, Int64.le_iff_toInt_le, Int32.toInt_toInt64, hy, i_le, i_lt, nI_toInt (by omega)]
  show (0 ≤ c.toInt ∧ c.toInt ≤ (k : Int)) ↔ (0 ≤ c.toInt ∧ c.toInt < ((k + 1 : Nat) : Int))
  omega
theorem in64s (c : Int32) : ((0 : Int64) ≤ c.toInt64 ∧ c.toInt64 ≤ 3) ↔ (0 ≤ c ∧ c < 4) := in64c c 3 (by decide) rfl
/-- an int that is a number below n -/
theorem nI_of_lt {c : Int32} {n : Nat} (hn : n < 2 ^ 31) (h0 : 0 ≤ c) (h1 : c < nI n) : ∃ x : Nat, x < n ∧ c = nI x := by
  obtain ⟨x, hx, e⟩ := nI_of (Int32.not_lt.mpr h0)
  refine ⟨x, ?_, e⟩
  rw [e, nI_ltI hx hn] at h1
  exact h1
theorem sumN_le {f : Nat → Nat} {b : Nat} : ∀ n, (∀ x, x < n → f x ≤ b) → sumN f n ≤ n * b
  | 0, _ => by simp [sumN]
  | n + 1, h => by
    have h1 := sumN_le n (fun x hx => h x (by omega))
    have h2 := h n (by omega)
    have e : (n + 1) * b = n * b + b := Nat.succ_mul n b
    rw [e, sumN]
    omega
theorem takenN_le {kd its y : Nat} {a : Bool} (hy : y < 10) : takenN kd a its y ≤ its := by
  unfold takenN
  split
  · exact Nat.le_refl _
  · split
    · exact Nat.zero_le _
    · rw [Nat.div_le_iff_le_mul_add_pred (by decide)]
      have := Nat.mul_le_mul (Nat.le_refl its) (show y ≤ 9 by omega)
      omega
section MNO
variable {l : Launch} {G : rG} {h : rH} {i : Nat → Int32} {j : Nat → Int64}
set_option maxRecDepth 100000 in
set_option maxHeartbeats 400000 in
theorem k_X12_noOne (hm : h[38]? = some (mo G i j)) (c : Int32) : rM l G 1 mX12_noOne 0 0 [.ref (gN G + 38), .int c] h (rV h (some (.int (if 0 ≤ c ∧ c < i 15 then 0 else 1)))) := by
  refine rM_start (by decide) (Nat.le_of_ble_eq_true rfl) ?_
  refine a_iload_n 1 dX12_noOne_0 rfl rfl ?_
  refine a_i2l 2 dX12_noOne_1 rfl ?_
  refine a_lconst (0) 3 dX12_noOne_2 rfl (by decide) ?_
  refine a_aload_n 4 dX12_noOne_3 rfl rfl ?_
  refine a_get fd_X12_160 rfl 7 dX12_noOne_4 rfl (by repeat (first | assumption | (refine rg_ne (by first | decide | omega) ?_) | apply rg_eq | refine rg_fr (by assumption) (by first | decide | (simp; omega)) ?_)) rfl ?_
  refine a_i2l 8 dX12_noOne_7 rfl ?_
  refine a_lconst (1) 9 dX12_noOne_8 rfl (by decide) ?_
  refine a_lsub 10 dX12_noOne_9 rfl ?_
  refine a_callS ok_X12_in ln_X12_97 is_X12_in rfl 13 dX12_noOne_10 rfl (k_X12_in _ _ _) rfl rfl ⟨(Nat.le_of_ble_eq_true rfl), (Nat.le_of_ble_eq_true rfl)⟩ (Nat.le_of_ble_eq_true rfl) ⟨(Nat.le_of_ble_eq_true rfl), (Nat.le_of_ble_eq_true rfl)⟩ ?_
  rintro _ _ ⟨rfl, rfl⟩
  refine a_if_ne 20 16 dX12_noOne_13 rfl (by decide) (fun c_13 => ?_) (fun c_13 => ?_)
  · refine a_iconst (0) 21 dX12_noOne_20 rfl (by decide) ?_
    exact a_ireturn dX12_noOne_21 rfl rfl (Nat.le_of_ble_eq_true rfl) (Nat.le_of_ble_eq_true rfl) ⟨rfl, by rw [if_pos ((in64 _ _).mp (Decidable.not_not.mp (fun q => c_13 (if_neg q))))]⟩
  · refine a_iconst (1) 17 dX12_noOne_16 rfl (by decide) ?_
    refine a_goto 21 dX12_noOne_17 (by decide) ?_
    exact a_ireturn dX12_noOne_21 rfl rfl (Nat.le_of_ble_eq_true rfl) (Nat.le_of_ble_eq_true rfl) ⟨rfl, by rw [if_neg (fun q => b_eq0.mp c_13 ((in64 _ _).mpr q))]⟩
set_option maxRecDepth 100000 in
set_option maxHeartbeats 400000 in
theorem k_X12_noLaw (hm : h[38]? = some (mo G i j)) (c : Int32) : rM l G 1 mX12_noLaw 0 0 [.ref (gN G + 38), .int c] h (rV h (some (.int (if 0 ≤ c ∧ c < i 20 then 0 else 1)))) := by
  refine rM_start (by decide) (Nat.le_of_ble_eq_true rfl) ?_
  refine a_iload_n 1 dX12_noLaw_0 rfl rfl ?_
  refine a_i2l 2 dX12_noLaw_1 rfl ?_
  refine a_lconst (0) 3 dX12_noLaw_2 rfl (by decide) ?_
  refine a_aload_n 4 dX12_noLaw_3 rfl rfl ?_
  refine a_get fd_X12_203 rfl 7 dX12_noLaw_4 rfl (by repeat (first | assumption | (refine rg_ne (by first | decide | omega) ?_) | apply rg_eq | refine rg_fr (by assumption) (by first | decide | (simp; omega)) ?_)) rfl ?_
  refine a_i2l 8 dX12_noLaw_7 rfl ?_
  refine a_lconst (1) 9 dX12_noLaw_8 rfl (by decide) ?_
  refine a_lsub 10 dX12_noLaw_9 rfl ?_
  refine a_callS ok_X12_in ln_X12_97 is_X12_in rfl 13 dX12_noLaw_10 rfl (k_X12_in _ _ _) rfl rfl ⟨(Nat.le_of_ble_eq_true rfl), (Nat.le_of_ble_eq_true rfl)⟩ (Nat.le_of_ble_eq_true rfl) ⟨(Nat.le_of_ble_eq_true rfl), (Nat.le_of_ble_eq_true rfl)⟩ ?_
  rintro _ _ ⟨rfl, rfl⟩
  refine a_if_ne 20 16 dX12_noLaw_13 rfl (by decide) (fun c_13 => ?_) (fun c_13 => ?_)
  · refine a_iconst (0) 21 dX12_noLaw_20 rfl (by decide) ?_
    exact a_ireturn dX12_noLaw_21 rfl rfl (Nat.le_of_ble_eq_true rfl) (Nat.le_of_ble_eq_true rfl) ⟨rfl, by rw [if_pos ((in64 _ _).mp (Decidable.not_not.mp (fun q => c_13 (if_neg q))))]⟩
  · refine a_iconst (1) 17 dX12_noLaw_16 rfl (by decide) ?_
    refine a_goto 21 dX12_noLaw_17 (by decide) ?_
    exact a_ireturn dX12_noLaw_21 rfl rfl (Nat.le_of_ble_eq_true rfl) (Nat.le_of_ble_eq_true rfl) ⟨rfl, by rw [if_neg (fun q => b_eq0.mp c_13 ((in64 _ _).mpr q))]⟩
set_option maxRecDepth 100000 in
set_option maxHeartbeats 400000 in
theorem k_X12_noYawn (hm : h[38]? = some (mo G i j)) (c : Int32) : rM l G 1 mX12_noYawn 0 0 [.ref (gN G + 38), .int c] h (rV h (some (.int (if 0 ≤ c ∧ c < i 23 then 0 else 1)))) := by
  refine rM_start (by decide) (Nat.le_of_ble_eq_true rfl) ?_
  refine a_iload_n 1 dX12_noYawn_0 rfl rfl ?_
  refine a_i2l 2 dX12_noYawn_1 rfl ?_
  refine a_lconst (0) 3 dX12_noYawn_2 rfl (by decide) ?_
  refine a_aload_n 4 dX12_noYawn_3 rfl rfl ?_
  refine a_get fd_X12_163 rfl 7 dX12_noYawn_4 rfl (by repeat (first | assumption | (refine rg_ne (by first | decide | omega) ?_) | apply rg_eq | refine rg_fr (by assumption) (by first | decide | (simp; omega)) ?_)) rfl ?_
  refine a_i2l 8 dX12_noYawn_7 rfl ?_
  refine a_lconst (1) 9 dX12_noYawn_8 rfl (by decide) ?_
  refine a_lsub 10 dX12_noYawn_9 rfl ?_
  refine a_callS ok_X12_in ln_X12_97 is_X12_in rfl 13 dX12_noYawn_10 rfl (k_X12_in _ _ _) rfl rfl ⟨(Nat.le_of_ble_eq_true rfl), (Nat.le_of_ble_eq_true rfl)⟩ (Nat.le_of_ble_eq_true rfl) ⟨(Nat.le_of_ble_eq_true rfl), (Nat.le_of_ble_eq_true rfl)⟩ ?_
  rintro _ _ ⟨rfl, rfl⟩
  refine a_if_ne 20 16 dX12_noYawn_13 rfl (by decide) (fun c_13 => ?_) (fun c_13 => ?_)
  · refine a_iconst (0) 21 dX12_noYawn_20 rfl (by decide) ?_
    exact a_ireturn dX12_noYawn_21 rfl rfl (Nat.le_of_ble_eq_true rfl) (Nat.le_of_ble_eq_true rfl) ⟨rfl, by rw [if_pos ((in64 _ _).mp (Decidable.not_not.mp (fun q => c_13 (if_neg q))))]⟩
  · refine a_iconst (1) 17 dX12_noYawn_16 rfl (by decide) ?_
    refine a_goto 21 dX12_noYawn_17 (by decide) ?_
    exact a_ireturn dX12_noYawn_21 rfl rfl (Nat.le_of_ble_eq_true rfl) (Nat.le_of_ble_eq_true rfl) ⟨rfl, by rw [if_neg (fun q => b_eq0.mp c_13 ((in64 _ _).mpr q))]⟩
set_option maxRecDepth 100000 in
set_option maxHeartbeats 400000 in
theorem k_X12_noSheet (c : Int32) : rM l G 1 mX12_noSheet 0 0 [.int c] h (rV h (some (.int (if 0 ≤ c ∧ c < 4 then 0 else 1)))) := by
  refine rM_start (by decide) (Nat.le_of_ble_eq_true rfl) ?_
  refine a_iload_n 1 dX12_noSheet_0 rfl rfl ?_
  refine a_i2l 2 dX12_noSheet_1 rfl ?_
  refine a_lconst (0) 3 dX12_noSheet_2 rfl (by decide) ?_
  refine a_ldc2 (3) 6 dX12_noSheet_3 rfl lk_X12_297 ?_
  refine a_callS ok_X12_in ln_X12_97 is_X12_in rfl 9 dX12_noSheet_6 rfl (k_X12_in _ _ _) rfl rfl ⟨(Nat.le_of_ble_eq_true rfl), (Nat.le_of_ble_eq_true rfl)⟩ (Nat.le_of_ble_eq_true rfl) ⟨(Nat.le_of_ble_eq_true rfl), (Nat.le_of_ble_eq_true rfl)⟩ ?_
  rintro _ _ ⟨rfl, rfl⟩
  refine a_if_ne 16 12 dX12_noSheet_9 rfl (by decide) (fun c_9 => ?_) (fun c_9 => ?_)
  · refine a_iconst (0) 17 dX12_noSheet_16 rfl (by decide) ?_
    exact a_ireturn dX12_noSheet_17 rfl rfl (Nat.le_of_ble_eq_true rfl) (Nat.le_of_ble_eq_true rfl) ⟨rfl, by rw [if_pos ((in64s _).mp (Decidable.not_not.mp (fun q => c_9 (if_neg q))))]⟩
  · refine a_iconst (1) 13 dX12_noSheet_12 rfl (by decide) ?_
    refine a_goto 17 dX12_noSheet_13 (by decide) ?_
    exact a_ireturn dX12_noSheet_17 rfl rfl (Nat.le_of_ble_eq_true rfl) (Nat.le_of_ble_eq_true rfl) ⟨rfl, by rw [if_neg (fun q => b_eq0.mp c_9 ((in64s _).mpr q))]⟩
end MNO
section MFB
variable {l : Launch} {G : rG} {h : rH} {i : Nat → Int32} {j : Nat → Int64} {bR bB : Nat → Int32} {nb : Nat → Nat → Option Nat} {wi n m nl ny : Nat} {mir : Bool} {face kd se sl ki ym yw : Nat → Nat} {nu : Nat → Nat → Nat}
theorem mightN_le {nb : Nat → Nat → Option Nat} {bl : Nat → Nat → Int32} {z x y : Nat} (hu : ∀ w, w < 7 → nu z w < 10) : mightN nb bl mir face kd se ki nu z x y < 1000 := by
  have h1 := hu 1 (by decide)
  have h2 := hu 2 (by decide)
  have h3 := hu 3 (by decide)
  have h4 := hu 4 (by decide)
  have hi : itsN nu z (decide (seesM nb bl mir face se x y)) (hearM nb (se x) (se y)) < 10 := by
    unfold itsN
    split
    · exact h1
    · split
      · exact h2
      · decide
  refine Nat.lt_of_le_of_lt (takenN_le h4) ?_
  split
  · exact lt_mul hi h3
  · omega
theorem ownN_le {z x : Nat} (hu : ∀ w, w < 7 → nu z w < 10) : ownN kd sl nu z x < 1000 := by
  refine Nat.lt_of_le_of_lt (takenN_le (hu 4 (by decide))) ?_
  exact Nat.lt_of_le_of_lt (Nat.mul_le_mul (Nat.le_of_lt (hu 0 (by decide))) (Nat.sub_le _ _)) (by decide)
theorem allN_le {nb : Nat → Nat → Option Nat} {bl : Nat → Nat → Int32} {z q : Nat} (hu : ∀ w, w < 7 → nu z w < 10) (hq : q < 24) : allN (ownN kd sl nu z) nu (mightN nb bl mir face kd se ki nu z) ym yw z q < 30000 := by
  have h1 : ownN kd sl nu z (yw q) < 1000 := ownN_le hu
  have h2 := sumN_le (f := srcN nu (mightN nb bl mir face kd se ki nu z) ym yw z q) (b := 1000) q (fun x _ => by
    unfold srcN fromN
    repeat' split
    all_goals first | exact Nat.zero_le _ | exact Nat.le_of_lt (mightN_le hu))
  show ownN kd sl nu z (yw q) + sumN (srcN nu (mightN nb bl mir face kd se ki nu z) ym yw z q) q < 30000
  omega
/-- the first of n for which p holds -/
def firstN (p : Nat → Bool) : Nat → Nat → Option Nat
  | 0, _ => none
  | r + 1, q => if p q then some q else firstN p r (q + 1)
set_option maxRecDepth 100000 in
set_option maxHeartbeats 400000 in
theorem k_X12_firstBarred (hc : mcAt G h i j nb bR bB wi n mir face) (ho : moAt G h i j n m kd se sl ki) (hl : mlAt G h i j nl nu) (hw : mwAt G h i j m ny ym yw) {z : Nat} (hz : z < nl) : rM l G 9 mX12_firstBarred 0 0 [.ref (gN G + 38), .int (nI z)] h (fun h' v => v = some (.int (noI (firstN (fun q => decide (allN (ownN kd sl nu z) nu (mightN nb (blM bR bB wi) mir face kd se ki nu z) ym yw z q = 0)) ny 0))) ∧ mcAt G h' i j nb bR bB wi n mir face ∧ fr h h' [44]) := by
  have hm := hw.1
  have hn24 := hw.2.2.1
  have hny := hw.2.1
  obtain ⟨-, -, hl6, f, -, qf⟩ := id hl
  have hu : ∀ w, w < 7 → nu z w < 10 := fun w hw => (qf z w hz hw).2
  refine rM_start (by decide) (Nat.le_of_ble_eq_true rfl) ?_
  have L : ∀ (r q : Nat) (y : Int32) (h1 : rH) (o : Option Nat), q + r = ny → y = nI q → firstN (fun q => decide (allN (ownN kd sl nu z) nu (mightN nb (blM bR bB wi) mir face kd se ki nu z) ym yw z q = 0)) r q = o → mcAt G h1 i j nb bR bB wi n mir face → fr h h1 [44] → rW l G (rRm 9 0 0) mX12_firstBarred (rZ G (fun h' v => v = some (.int (noI o)) ∧ mcAt G h' i j nb bR bB wi n mir face ∧ fr h h' [44]) 0 0) 0 0 2 [some (.ref (gN G + 38)), some (.int (nI z)), some (.int y)] [] h1 := by
    intro r
    induction r with
    | zero =>
      intro q y h1 o hq hy hf hc1 hf1
      subst hy
      cases hf
      have hm1 := rg_fr hf1 (by decide) hm
      refine a_iload_n 3 dX12_firstBarred_2 rfl rfl ?_
      refine a_aload_n 4 dX12_firstBarred_3 rfl rfl ?_
      refine a_get fd_X12_163 rfl 7 dX12_firstBarred_4 rfl (by repeat (first | assumption | (refine rg_ne (by first | decide | omega) ?_) | apply rg_eq | refine rg_fr (by assumption) (by first | decide | (simp; omega)) ?_)) rfl ?_
      refine a_icmp_ge 27 10 dX12_firstBarred_7 rfl (by decide) (fun c_7 => ?_) (fun c_7 => absurd (by rw [hny]; exact nI_le (by omega) (by omega)) c_7)
      refine a_bipush (-9) 29 dX12_firstBarred_27 rfl (by decide) ?_
      exact a_ireturn dX12_firstBarred_29 rfl rfl (Nat.le_of_ble_eq_true rfl) (Nat.le_of_ble_eq_true rfl) ⟨rfl, hc1, hf1⟩
    | succ r ih =>
      intro q y h1 o hq hy hf hc1 hf1
      subst hy
      have hm1 := rg_fr hf1 (by decide) hm
      have hal : allN (ownN kd sl nu z) nu (mightN nb (blM bR bB wi) mir face kd se ki nu z) ym yw z q < 30000 := allN_le hu (by omega)
      have hz0 := tk_k (k := allN (ownN kd sl nu z) nu (mightN nb (blM bR bB wi) mir face kd se ki nu z) ym yw z q) (d := 0) (by omega) (by decide) rfl
      rw [firstN] at hf
      refine a_iload_n 3 dX12_firstBarred_2 rfl rfl ?_
      refine a_aload_n 4 dX12_firstBarred_3 rfl rfl ?_
      refine a_get fd_X12_163 rfl 7 dX12_firstBarred_4 rfl (by repeat (first | assumption | (refine rg_ne (by first | decide | omega) ?_) | apply rg_eq | refine rg_fr (by assumption) (by first | decide | (simp; omega)) ?_)) rfl ?_
      refine a_icmp_ge 27 10 dX12_firstBarred_7 rfl (by decide) (fun c_7 => absurd c_7 (by rw [hny]; exact nI_ge (a := q) (b := ny) (by omega) (by omega))) (fun c_7 => ?_)
      refine a_aload_n 11 dX12_firstBarred_10 rfl rfl ?_
      refine a_iload_n 12 dX12_firstBarred_11 rfl rfl ?_
      refine a_iload_n 13 dX12_firstBarred_12 rfl rfl ?_
      refine a_callV ok_X12_allSources ln_X12_253 in_X12_allSources rfl 16 dX12_firstBarred_13 rfl (k_X12_allSources hc1 (ho.fr hf1 (by decide) (by decide) (by decide) (by decide) (by decide)) (hl.fr hf1 (by decide) (by decide)) (hw.fr hf1 (by decide) (by decide) (by decide)) hz (by omega)) (by repeat (first | assumption | (refine rg_ne (by first | decide | omega) ?_) | apply rg_eq | refine rg_fr (by assumption) (by first | decide | (simp; omega)) ?_)) rfl rfl rfl ⟨(Nat.le_of_ble_eq_true rfl), (Nat.le_of_ble_eq_true rfl)⟩ (Nat.le_of_ble_eq_true rfl) ⟨(Nat.le_of_ble_eq_true rfl), (Nat.le_of_ble_eq_true rfl)⟩ ?_
      rintro h2 v ⟨rfl, hc2, hf2⟩
      refine a_if_ne 21 19 dX12_firstBarred_16 rfl (by decide) (fun c_16 => ?_) (fun c_16 => ?_)
      · refine a_iinc _ 24 dX12_firstBarred_21 rfl rfl (by decide) rfl ?_
        refine a_goto 2 dX12_firstBarred_24 (by decide) ?_
        exact ih (q + 1) _ _ o (by omega) (nI_1 q) (by rw [if_neg (by simpa using fun z => c_16 (hz0.mpr z))] at hf; exact hf) hc2 (fr_trans hf1 hf2 (fun _ q => q))
      · refine a_iload_n 20 dX12_firstBarred_19 rfl rfl ?_
        exact a_ireturn dX12_firstBarred_20 rfl rfl (Nat.le_of_ble_eq_true rfl) (Nat.le_of_ble_eq_true rfl) (by rw [if_pos (decide_eq_true (hz0.mp c_16))] at hf; cases hf; exact ⟨rfl, hc2, fr_trans hf1 hf2 (fun _ q => q)⟩)
  refine a_iconst (0) 1 dX12_firstBarred_0 rfl (by decide) ?_
  refine a_istore_n 2 dX12_firstBarred_1 rfl (by decide) ?_
  exact L ny 0 _ _ _ (by omega) rfl rfl hc (fr_refl _ _)
end MFB
