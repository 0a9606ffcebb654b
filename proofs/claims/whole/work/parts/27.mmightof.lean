def ownN (kd sl : Nat → Nat) (nu : Nat → Nat → Nat) (z x : Nat) : Nat := takenN (kd x) true (nu z 0 * (10 - sl x)) (nu z 4)
abbrev mightN (nb : Nat → Nat → Option Nat) (bl : Nat → Nat → Int32) (mir : Bool) (face kd se ki : Nat → Nat) (nu : Nat → Nat → Nat) (z x y : Nat) : Nat := caughtN nb kd se ki nu z x y (decide (seesM nb bl mir face se x y))
section MMO2
variable {l : Launch} {G : rG} {h : rH} {i : Nat → Int32} {j : Nat → Int64} {bR bB : Nat → Int32} {nb : Nat → Nat → Option Nat} {wi n m nl : Nat} {mir : Bool} {face kd se sl ki : Nat → Nat} {nu : Nat → Nat → Nat}
set_option maxRecDepth 100000 in
set_option maxHeartbeats 400000 in
theorem k_X12_mightO (ho : moAt G h i j n m kd se sl ki) (hl : mlAt G h i j nl nu) {z x : Nat} (hz : z < nl) (hx : x < m) : rM l G 5 mX12_mightOf 0 0 [.ref (gN G + 38), .int (nI z), .int (nI x), .int (-9)] h (rV h (some (.int (nI (ownN kd sl nu z x))))) := by
  obtain ⟨hm, -, hm12, -, -, ⟨f6, q6, q6'⟩, -⟩ := id ho
  have vx : vp_in (nI x) 12 := vp_in_nI (by omega) (by decide)
  have ex := q6' x hx
  obtain ⟨-, -, hl6, f, -, qf⟩ := id hl
  have h0 := (qf z 0 hz (by decide)).2
  have e : nI (nu z 0) * (10 - nI (sl x)) = nI (nu z 0 * (10 - sl x)) := by
    rw [show (10 : Int32) = nI 10 from rfl, pk_sub (by omega), pk_mul]
  have hb : nu z 0 * (10 - sl x) < 1000 := Nat.lt_of_le_of_lt (Nat.mul_le_mul (Nat.le_of_lt h0) (Nat.sub_le _ _)) (by decide)
  refine rM_start (by decide) (Nat.le_of_ble_eq_true rfl) ?_
  refine a_iload_n 1 dX12_mightOf_0 rfl rfl ?_
  refine a_bipush (-9) 3 dX12_mightOf_1 rfl (by decide) ?_
  refine a_icmp_ne 33 6 dX12_mightOf_3 rfl (by decide) (fun c_3 => absurd rfl c_3) (fun c_3 => ?_)
  refine a_aload_n 7 dX12_mightOf_6 rfl rfl ?_
  refine a_iload_n 8 dX12_mightOf_7 rfl rfl ?_
  refine a_iload_n 9 dX12_mightOf_8 rfl rfl ?_
  refine a_bipush (-9) 11 dX12_mightOf_9 rfl (by decide) ?_
  refine a_aload_n 12 dX12_mightOf_11 rfl rfl ?_
  refine a_iload_n 13 dX12_mightOf_12 rfl rfl ?_
  refine a_iconst (0) 14 dX12_mightOf_13 rfl (by decide) ?_
  refine a_callV ok_X12_of ln_X12_215 in_X12_of rfl 17 dX12_mightOf_14 rfl (k_X12_ofN hl hz (w := 0) (by decide)) (by repeat (first | assumption | (refine rg_ne (by first | decide | omega) ?_) | apply rg_eq | refine rg_fr (by assumption) (by first | decide | (simp; omega)) ?_)) rfl rfl rfl ⟨(Nat.le_of_ble_eq_true rfl), (Nat.le_of_ble_eq_true rfl)⟩ (Nat.le_of_ble_eq_true rfl) ⟨(Nat.le_of_ble_eq_true rfl), (Nat.le_of_ble_eq_true rfl)⟩ ?_
  rintro _ _ ⟨rfl, rfl⟩
  refine a_bipush (10) 19 dX12_mightOf_17 rfl (by decide) ?_
  refine a_aload_n 20 dX12_mightOf_19 rfl rfl ?_
  refine a_get fd_X12_35 rfl 23 dX12_mightOf_20 rfl (by repeat (first | assumption | (refine rg_ne (by first | decide | omega) ?_) | apply rg_eq | refine rg_fr (by assumption) (by first | decide | (simp; omega)) ?_)) rfl ?_
  refine a_iload_n 24 dX12_mightOf_23 rfl rfl ?_
  refine a_iaload 25 dX12_mightOf_24 rfl (by repeat (first | assumption | (refine rg_ne (by first | decide | omega) ?_) | apply rg_eq | refine rg_fr (by assumption) (by first | decide | (simp; omega)) ?_)) (by assumption) ?_
  rw [nI_clamp (by omega), ex.1]
  refine a_isub 26 dX12_mightOf_25 rfl ?_
  refine a_imul 27 dX12_mightOf_26 rfl ?_
  rw [e]
  refine a_callV ok_X12_taken ln_X12_227 in_X12_taken rfl 30 dX12_mightOf_27 rfl (k_X12_takenO ho hl hz hx hb) (by repeat (first | assumption | (refine rg_ne (by first | decide | omega) ?_) | apply rg_eq | refine rg_fr (by assumption) (by first | decide | (simp; omega)) ?_)) rfl rfl rfl ⟨(Nat.le_of_ble_eq_true rfl), (Nat.le_of_ble_eq_true rfl)⟩ (Nat.le_of_ble_eq_true rfl) ⟨(Nat.le_of_ble_eq_true rfl), (Nat.le_of_ble_eq_true rfl)⟩ ?_
  rintro _ _ ⟨rfl, rfl⟩
  refine a_goto 41 dX12_mightOf_30 (by decide) ?_
  exact a_ireturn dX12_mightOf_41 rfl rfl (Nat.le_of_ble_eq_true rfl) (Nat.le_of_ble_eq_true rfl) ⟨rfl, rfl⟩
set_option maxRecDepth 100000 in
set_option maxHeartbeats 400000 in
theorem k_X12_mightS (hc : mcAt G h i j nb bR bB wi n mir face) (ho : moAt G h i j n m kd se sl ki) (hl : mlAt G h i j nl nu) {z x y : Nat} (hz : z < nl) (hx : x < m) (hy : y < m) : rM l G 5 mX12_mightOf 0 0 [.ref (gN G + 38), .int (nI z), .int (nI x), .int (nI y)] h (fun h' v => v = some (.int (nI (mightN nb (blM bR bB wi) mir face kd se ki nu z x y))) ∧ mcAt G h' i j nb bR bB wi n mir face ∧ fr h h' [44]) := by
  have hm := ho.1
  have hm12 := ho.2.2.1
  refine rM_start (by decide) (Nat.le_of_ble_eq_true rfl) ?_
  refine a_iload_n 1 dX12_mightOf_0 rfl rfl ?_
  refine a_bipush (-9) 3 dX12_mightOf_1 rfl (by decide) ?_
  refine a_icmp_ne 33 6 dX12_mightOf_3 rfl (by decide) (fun c_3 => ?_) (fun c_3 => absurd c_3 (nI_ne9 (by omega)))
  refine a_aload_n 34 dX12_mightOf_33 rfl rfl ?_
  refine a_iload_n 35 dX12_mightOf_34 rfl rfl ?_
  refine a_iload_n 36 dX12_mightOf_35 rfl rfl ?_
  refine a_iload_n 37 dX12_mightOf_36 rfl rfl ?_
  refine a_iconst (0) 38 dX12_mightOf_37 rfl (by decide) ?_
  refine a_callV ok_X12_caught ln_X12_231 in_X12_caught rfl 41 dX12_mightOf_38 rfl (k_X12_caughtS hc ho hl hz hx hy) (by repeat (first | assumption | (refine rg_ne (by first | decide | omega) ?_) | apply rg_eq | refine rg_fr (by assumption) (by first | decide | (simp; omega)) ?_)) rfl rfl rfl ⟨(Nat.le_of_ble_eq_true rfl), (Nat.le_of_ble_eq_true rfl)⟩ (Nat.le_of_ble_eq_true rfl) ⟨(Nat.le_of_ble_eq_true rfl), (Nat.le_of_ble_eq_true rfl)⟩ ?_
  rintro h1 v ⟨rfl, hc1, hf1⟩
  exact a_ireturn dX12_mightOf_41 rfl rfl (Nat.le_of_ble_eq_true rfl) (Nat.le_of_ble_eq_true rfl) ⟨rfl, hc1, hf1⟩
theorem to64_le {a b : Int32} : a.toInt64 ≤ b.toInt64 ↔ a.toInt ≤ b.toInt := by
  rw [Int64.le_iff_toInt_le, Int32.toInt_toInt64, Int32.toInt_toInt64]
theorem near_iff {a b p q : Nat} (ha : a < 2 ^ 30) (hb : b < 2 ^ 30) (hp : p < 2 ^ 30) (hq : q < 2 ^ 30) : ((nI p).toInt64 ≤ (nI a - nI b).toInt64 ∧ (nI a - nI b).toInt64 ≤ (nI q).toInt64) ↔ (b + p ≤ a ∧ a ≤ b + q) := by
  rw [to64_le, to64_le, pk_sub_toInt ha hb, nI_toInt (by omega), nI_toInt (by omega)]
  omega
/-- the might by which a yawn at minute a by x comes from one of y's at minute b -/
def fromN (nu : Nat → Nat → Nat) (mi : Nat → Nat → Nat) (z a x b y : Nat) : Nat := if x ≠ y ∧ b + nu z 5 ≤ a ∧ a ≤ b + nu z 6 then mi x y else 0
set_option maxRecDepth 100000 in
set_option maxHeartbeats 400000 in
theorem k_X12_mightFrom (hc : mcAt G h i j nb bR bB wi n mir face) (ho : moAt G h i j n m kd se sl ki) (hl : mlAt G h i j nl nu) {z a x b y : Nat} (hz : z < nl) (hx : x < m) (hy : y < m) (ha : a < 2 ^ 30) (hb : b < 2 ^ 30) : rM l G 6 mX12_mightFrom 0 0 [.ref (gN G + 38), .int (nI z), .int (nI a), .int (nI x), .int (nI b), .int (nI y)] h (fun h' v => v = some (.int (nI (fromN nu (mightN nb (blM bR bB wi) mir face kd se ki nu z) z a x b y))) ∧ mcAt G h' i j nb bR bB wi n mir face ∧ fr h h' [44]) := by
  have hm := ho.1
  have hm12 := ho.2.2.1
  obtain ⟨-, -, hl6, f, -, qf⟩ := id hl
  have h5 := (qf z 5 hz (by decide)).2
  have h6 := (qf z 6 hz (by decide)).2
  have hxy : nI x = nI y ↔ x = y := nI_eq (by omega) (by omega)
  have hne := near_iff (a := a) (b := b) (p := nu z 5) (q := nu z 6) ha hb (by omega) (by omega)
  refine rM_start (by decide) (Nat.le_of_ble_eq_true rfl) ?_
  refine a_iload_n 1 dX12_mightFrom_0 rfl rfl ?_
  refine a_iload 3 dX12_mightFrom_1 rfl rfl ?_
  refine a_icmp_eq 43 6 dX12_mightFrom_3 rfl (by decide) (fun c_3 => ?_) (fun c_3 => ?_)
  · refine a_iconst (0) 44 dX12_mightFrom_43 rfl (by decide) ?_
    exact a_ireturn dX12_mightFrom_44 rfl rfl (Nat.le_of_ble_eq_true rfl) (Nat.le_of_ble_eq_true rfl) ⟨by rw [fromN, if_neg (fun q => q.1 (hxy.mp c_3))]; rfl, hc, fr_refl _ _⟩
  · refine a_iload_n 7 dX12_mightFrom_6 rfl rfl ?_
    refine a_iload 9 dX12_mightFrom_7 rfl rfl ?_
    refine a_isub 10 dX12_mightFrom_9 rfl ?_
    refine a_i2l 11 dX12_mightFrom_10 rfl ?_
    refine a_aload_n 12 dX12_mightFrom_11 rfl rfl ?_
    refine a_iload_n 13 dX12_mightFrom_12 rfl rfl ?_
    refine a_iconst (5) 14 dX12_mightFrom_13 rfl (by decide) ?_
    refine a_callV ok_X12_of ln_X12_215 in_X12_of rfl 17 dX12_mightFrom_14 rfl (k_X12_ofN hl hz (w := 5) (by decide)) (by repeat (first | assumption | (refine rg_ne (by first | decide | omega) ?_) | apply rg_eq | refine rg_fr (by assumption) (by first | decide | (simp; omega)) ?_)) rfl rfl rfl ⟨(Nat.le_of_ble_eq_true rfl), (Nat.le_of_ble_eq_true rfl)⟩ (Nat.le_of_ble_eq_true rfl) ⟨(Nat.le_of_ble_eq_true rfl), (Nat.le_of_ble_eq_true rfl)⟩ ?_
    rintro _ _ ⟨rfl, rfl⟩
    refine a_i2l 18 dX12_mightFrom_17 rfl ?_
    refine a_aload_n 19 dX12_mightFrom_18 rfl rfl ?_
    refine a_iload_n 20 dX12_mightFrom_19 rfl rfl ?_
    refine a_bipush (6) 22 dX12_mightFrom_20 rfl (by decide) ?_
    refine a_callV ok_X12_of ln_X12_215 in_X12_of rfl 25 dX12_mightFrom_22 rfl (k_X12_ofN hl hz (w := 6) (by decide)) (by repeat (first | assumption | (refine rg_ne (by first | decide | omega) ?_) | apply rg_eq | refine rg_fr (by assumption) (by first | decide | (simp; omega)) ?_)) rfl rfl rfl ⟨(Nat.le_of_ble_eq_true rfl), (Nat.le_of_ble_eq_true rfl)⟩ (Nat.le_of_ble_eq_true rfl) ⟨(Nat.le_of_ble_eq_true rfl), (Nat.le_of_ble_eq_true rfl)⟩ ?_
    rintro _ _ ⟨rfl, rfl⟩
    refine a_i2l 26 dX12_mightFrom_25 rfl ?_
    refine a_callS ok_X12_in ln_X12_97 is_X12_in rfl 29 dX12_mightFrom_26 rfl (k_X12_in _ _ _) rfl rfl ⟨(Nat.le_of_ble_eq_true rfl), (Nat.le_of_ble_eq_true rfl)⟩ (Nat.le_of_ble_eq_true rfl) ⟨(Nat.le_of_ble_eq_true rfl), (Nat.le_of_ble_eq_true rfl)⟩ ?_
    rintro _ _ ⟨rfl, rfl⟩
    refine a_if_eq 43 32 dX12_mightFrom_29 rfl (by decide) (fun c_29 => ?_) (fun c_29 => ?_)
    · refine a_iconst (0) 44 dX12_mightFrom_43 rfl (by decide) ?_
      exact a_ireturn dX12_mightFrom_44 rfl rfl (Nat.le_of_ble_eq_true rfl) (Nat.le_of_ble_eq_true rfl) ⟨by rw [fromN, if_neg (fun q => b_eq0.mp c_29 (hne.mpr q.2))]; rfl, hc, fr_refl _ _⟩
    · refine a_aload_n 33 dX12_mightFrom_32 rfl rfl ?_
      refine a_iload_n 34 dX12_mightFrom_33 rfl rfl ?_
      refine a_iload_n 35 dX12_mightFrom_34 rfl rfl ?_
      refine a_iload 37 dX12_mightFrom_35 rfl rfl ?_
      refine a_callV ok_X12_mightOf ln_X12_234 in_X12_mightOf rfl 40 dX12_mightFrom_37 rfl (k_X12_mightS hc ho hl hz hx hy) (by repeat (first | assumption | (refine rg_ne (by first | decide | omega) ?_) | apply rg_eq | refine rg_fr (by assumption) (by first | decide | (simp; omega)) ?_)) rfl rfl rfl ⟨(Nat.le_of_ble_eq_true rfl), (Nat.le_of_ble_eq_true rfl)⟩ (Nat.le_of_ble_eq_true rfl) ⟨(Nat.le_of_ble_eq_true rfl), (Nat.le_of_ble_eq_true rfl)⟩ ?_
      rintro h1 v ⟨rfl, hc1, hf1⟩
      refine a_goto 44 dX12_mightFrom_40 (by decide) ?_
      exact a_ireturn dX12_mightFrom_44 rfl rfl (Nat.le_of_ble_eq_true rfl) (Nat.le_of_ble_eq_true rfl) ⟨by rw [fromN, if_pos ⟨fun q => c_3 (hxy.mpr q), hne.mp (Decidable.not_not.mp (fun q => c_29 (if_neg q)))⟩], hc1, hf1⟩
end MMO2
