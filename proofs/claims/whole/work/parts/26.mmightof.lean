def itsN (nu : Nat → Nat → Nat) (z : Nat) (sees hear : Bool) : Nat := if sees then nu z 1 else if hear then nu z 2 else 0
/-- might of x to catch it from y, seen or not -/
def caughtN (nb : Nat → Nat → Option Nat) (kd se ki : Nat → Nat) (nu : Nat → Nat → Nat) (z x y : Nat) (sees : Bool) : Nat :=
  takenN (kd x) (decide (ki x = ki y)) (if ki x = ki y then itsN nu z sees (hearM nb (se x) (se y)) * nu z 3 else itsN nu z sees (hearM nb (se x) (se y))) (nu z 4)
theorem lt_mul {a b : Nat} (ha : a < 10) (hb : b < 10) : a * b < 1000 := Nat.lt_of_le_of_lt (Nat.mul_le_mul (Nat.le_of_lt ha) (Nat.le_of_lt hb)) (by decide)
section MMO
variable {l : Launch} {G : rG} {h : rH} {i : Nat → Int32} {j : Nat → Int64} {bR bB : Nat → Int32} {nb : Nat → Nat → Option Nat} {wi n m nl : Nat} {mir : Bool} {face kd se sl ki : Nat → Nat} {nu : Nat → Nat → Nat}
set_option maxRecDepth 100000 in
set_option maxHeartbeats 400000 in
theorem k_X12_caughtBy (hc : mcAt G h i j nb bR bB wi n mir face) (ho : moAt G h i j n m kd se sl ki) (hl : mlAt G h i j nl nu) {z x y : Nat} (hz : z < nl) (hx : x < m) (hy : y < m) (b : Bool) : rM l G 3 mX12_caughtBy 0 0 [.ref (gN G + 38), .int (nI z), .int (nI x), .int (nI y), .int (if b then 1 else 0)] h (rV h (some (.int (nI (caughtN nb kd se ki nu z x y b))))) := by
  obtain ⟨hm, -, hm12, -, -, -, ⟨f7, q7, q7'⟩⟩ := id ho
  have vx : vp_in (nI x) 12 := vp_in_nI (by omega) (by decide)
  have vy : vp_in (nI y) 12 := vp_in_nI (by omega) (by decide)
  have ex := q7' x hx
  have ey := q7' y hy
  obtain ⟨-, -, hl6, f, -, qf⟩ := id hl
  have h1 := (qf z 1 hz (by decide)).2
  have h2 := (qf z 2 hz (by decide)).2
  have h3 := (qf z 3 hz (by decide)).2
  have hke : nI (ki x) = nI (ki y) ↔ ki x = ki y := nI_eq (by omega) (by omega)
  cases b with
  | true =>
    refine rM_start (by decide) (Nat.le_of_ble_eq_true rfl) ?_
    refine a_iload 2 dX12_caughtBy_0 rfl rfl ?_
    refine a_if_eq 14 5 dX12_caughtBy_2 rfl (by decide) (fun c_2 => absurd c_2 (by decide)) (fun c_2 => ?_)
    refine a_aload_n 6 dX12_caughtBy_5 rfl rfl ?_
    refine a_iload_n 7 dX12_caughtBy_6 rfl rfl ?_
    refine a_iconst (1) 8 dX12_caughtBy_7 rfl (by decide) ?_
    refine a_callV ok_X12_of ln_X12_215 in_X12_of rfl 11 dX12_caughtBy_8 rfl (k_X12_ofN hl hz (w := 1) (by decide)) (by repeat (first | assumption | (refine rg_ne (by first | decide | omega) ?_) | apply rg_eq | refine rg_fr (by assumption) (by first | decide | (simp; omega)) ?_)) rfl rfl rfl ⟨(Nat.le_of_ble_eq_true rfl), (Nat.le_of_ble_eq_true rfl)⟩ (Nat.le_of_ble_eq_true rfl) ⟨(Nat.le_of_ble_eq_true rfl), (Nat.le_of_ble_eq_true rfl)⟩ ?_
    rintro _ _ ⟨rfl, rfl⟩
    refine a_goto 33 dX12_caughtBy_11 (by decide) ?_
    refine a_istore 35 dX12_caughtBy_33 rfl (by decide) ?_
    refine a_aload_n 36 dX12_caughtBy_35 rfl rfl ?_
    refine a_iload_n 37 dX12_caughtBy_36 rfl rfl ?_
    refine a_iload_n 38 dX12_caughtBy_37 rfl rfl ?_
    refine a_iload_n 39 dX12_caughtBy_38 rfl rfl ?_
    refine a_aload_n 40 dX12_caughtBy_39 rfl rfl ?_
    refine a_get fd_X12_38 rfl 43 dX12_caughtBy_40 rfl (by repeat (first | assumption | (refine rg_ne (by first | decide | omega) ?_) | apply rg_eq | refine rg_fr (by assumption) (by first | decide | (simp; omega)) ?_)) rfl ?_
    refine a_iload_n 44 dX12_caughtBy_43 rfl rfl ?_
    refine a_iaload 45 dX12_caughtBy_44 rfl (by repeat (first | assumption | (refine rg_ne (by first | decide | omega) ?_) | apply rg_eq | refine rg_fr (by assumption) (by first | decide | (simp; omega)) ?_)) (by assumption) ?_
    refine a_aload_n 46 dX12_caughtBy_45 rfl rfl ?_
    refine a_get fd_X12_38 rfl 49 dX12_caughtBy_46 rfl (by repeat (first | assumption | (refine rg_ne (by first | decide | omega) ?_) | apply rg_eq | refine rg_fr (by assumption) (by first | decide | (simp; omega)) ?_)) rfl ?_
    refine a_iload_n 50 dX12_caughtBy_49 rfl rfl ?_
    refine a_iaload 51 dX12_caughtBy_50 rfl (by repeat (first | assumption | (refine rg_ne (by first | decide | omega) ?_) | apply rg_eq | refine rg_fr (by assumption) (by first | decide | (simp; omega)) ?_)) (by assumption) ?_
    rw [nI_clamp (by omega), nI_clamp (by omega), ex.1, ey.1]
    refine a_icmp_ne 66 54 dX12_caughtBy_51 rfl (by decide) (fun c_51 => ?_) (fun c_51 => ?_)
    · refine a_iload 68 dX12_caughtBy_66 rfl rfl ?_
      refine a_callV ok_X12_taken ln_X12_227 in_X12_taken rfl 71 dX12_caughtBy_68 rfl (k_X12_takenS ho hl hz hx hy (its := nu z 1) (by omega)) (by repeat (first | assumption | (refine rg_ne (by first | decide | omega) ?_) | apply rg_eq | refine rg_fr (by assumption) (by first | decide | (simp; omega)) ?_)) rfl rfl rfl ⟨(Nat.le_of_ble_eq_true rfl), (Nat.le_of_ble_eq_true rfl)⟩ (Nat.le_of_ble_eq_true rfl) ⟨(Nat.le_of_ble_eq_true rfl), (Nat.le_of_ble_eq_true rfl)⟩ ?_
      rintro _ _ ⟨rfl, rfl⟩
      exact a_ireturn dX12_caughtBy_71 rfl rfl (Nat.le_of_ble_eq_true rfl) (Nat.le_of_ble_eq_true rfl) ⟨rfl, by rw [caughtN, if_neg (fun q => c_51 (hke.mpr q))]; rfl⟩
    · refine a_iload 56 dX12_caughtBy_54 rfl rfl ?_
      refine a_aload_n 57 dX12_caughtBy_56 rfl rfl ?_
      refine a_iload_n 58 dX12_caughtBy_57 rfl rfl ?_
      refine a_iconst (3) 59 dX12_caughtBy_58 rfl (by decide) ?_
      refine a_callV ok_X12_of ln_X12_215 in_X12_of rfl 62 dX12_caughtBy_59 rfl (k_X12_ofN hl hz (w := 3) (by decide)) (by repeat (first | assumption | (refine rg_ne (by first | decide | omega) ?_) | apply rg_eq | refine rg_fr (by assumption) (by first | decide | (simp; omega)) ?_)) rfl rfl rfl ⟨(Nat.le_of_ble_eq_true rfl), (Nat.le_of_ble_eq_true rfl)⟩ (Nat.le_of_ble_eq_true rfl) ⟨(Nat.le_of_ble_eq_true rfl), (Nat.le_of_ble_eq_true rfl)⟩ ?_
      rintro _ _ ⟨rfl, rfl⟩
      refine a_imul 63 dX12_caughtBy_62 rfl ?_
      refine a_goto 68 dX12_caughtBy_63 (by decide) ?_
      rw [pk_mul]
      refine a_callV ok_X12_taken ln_X12_227 in_X12_taken rfl 71 dX12_caughtBy_68 rfl (k_X12_takenS ho hl hz hx hy (its := nu z 1 * nu z 3) (lt_mul h1 h3)) (by repeat (first | assumption | (refine rg_ne (by first | decide | omega) ?_) | apply rg_eq | refine rg_fr (by assumption) (by first | decide | (simp; omega)) ?_)) rfl rfl rfl ⟨(Nat.le_of_ble_eq_true rfl), (Nat.le_of_ble_eq_true rfl)⟩ (Nat.le_of_ble_eq_true rfl) ⟨(Nat.le_of_ble_eq_true rfl), (Nat.le_of_ble_eq_true rfl)⟩ ?_
      rintro _ _ ⟨rfl, rfl⟩
      exact a_ireturn dX12_caughtBy_71 rfl rfl (Nat.le_of_ble_eq_true rfl) (Nat.le_of_ble_eq_true rfl) ⟨rfl, by rw [caughtN, if_pos (hke.mp c_51)]; rfl⟩
  | false =>
    refine rM_start (by decide) (Nat.le_of_ble_eq_true rfl) ?_
    refine a_iload 2 dX12_caughtBy_0 rfl rfl ?_
    refine a_if_eq 14 5 dX12_caughtBy_2 rfl (by decide) (fun c_2 => ?_) (fun c_2 => absurd rfl c_2)
    refine a_aload_n 15 dX12_caughtBy_14 rfl rfl ?_
    refine a_iload_n 16 dX12_caughtBy_15 rfl rfl ?_
    refine a_iload_n 17 dX12_caughtBy_16 rfl rfl ?_
    refine a_callV ok_X12_doesHear ln_X12_200 in_X12_doesHear rfl 20 dX12_caughtBy_17 rfl (k_X12_doesHear hc ho hx hy) (by repeat (first | assumption | (refine rg_ne (by first | decide | omega) ?_) | apply rg_eq | refine rg_fr (by assumption) (by first | decide | (simp; omega)) ?_)) rfl rfl rfl ⟨(Nat.le_of_ble_eq_true rfl), (Nat.le_of_ble_eq_true rfl)⟩ (Nat.le_of_ble_eq_true rfl) ⟨(Nat.le_of_ble_eq_true rfl), (Nat.le_of_ble_eq_true rfl)⟩ ?_
    rintro _ _ ⟨rfl, rfl⟩
    refine a_if_eq 32 23 dX12_caughtBy_20 rfl (by decide) (fun c_20 => ?_) (fun c_20 => ?_)
    · refine a_iconst (0) 33 dX12_caughtBy_32 rfl (by decide) ?_
      rw [← nI_0]
      refine a_istore 35 dX12_caughtBy_33 rfl (by decide) ?_
      refine a_aload_n 36 dX12_caughtBy_35 rfl rfl ?_
      refine a_iload_n 37 dX12_caughtBy_36 rfl rfl ?_
      refine a_iload_n 38 dX12_caughtBy_37 rfl rfl ?_
      refine a_iload_n 39 dX12_caughtBy_38 rfl rfl ?_
      refine a_aload_n 40 dX12_caughtBy_39 rfl rfl ?_
      refine a_get fd_X12_38 rfl 43 dX12_caughtBy_40 rfl (by repeat (first | assumption | (refine rg_ne (by first | decide | omega) ?_) | apply rg_eq | refine rg_fr (by assumption) (by first | decide | (simp; omega)) ?_)) rfl ?_
      refine a_iload_n 44 dX12_caughtBy_43 rfl rfl ?_
      refine a_iaload 45 dX12_caughtBy_44 rfl (by repeat (first | assumption | (refine rg_ne (by first | decide | omega) ?_) | apply rg_eq | refine rg_fr (by assumption) (by first | decide | (simp; omega)) ?_)) (by assumption) ?_
      refine a_aload_n 46 dX12_caughtBy_45 rfl rfl ?_
      refine a_get fd_X12_38 rfl 49 dX12_caughtBy_46 rfl (by repeat (first | assumption | (refine rg_ne (by first | decide | omega) ?_) | apply rg_eq | refine rg_fr (by assumption) (by first | decide | (simp; omega)) ?_)) rfl ?_
      refine a_iload_n 50 dX12_caughtBy_49 rfl rfl ?_
      refine a_iaload 51 dX12_caughtBy_50 rfl (by repeat (first | assumption | (refine rg_ne (by first | decide | omega) ?_) | apply rg_eq | refine rg_fr (by assumption) (by first | decide | (simp; omega)) ?_)) (by assumption) ?_
      rw [nI_clamp (by omega), nI_clamp (by omega), ex.1, ey.1]
      refine a_icmp_ne 66 54 dX12_caughtBy_51 rfl (by decide) (fun c_51 => ?_) (fun c_51 => ?_)
      · refine a_iload 68 dX12_caughtBy_66 rfl rfl ?_
        refine a_callV ok_X12_taken ln_X12_227 in_X12_taken rfl 71 dX12_caughtBy_68 rfl (k_X12_takenS ho hl hz hx hy (its := 0) (by decide)) (by repeat (first | assumption | (refine rg_ne (by first | decide | omega) ?_) | apply rg_eq | refine rg_fr (by assumption) (by first | decide | (simp; omega)) ?_)) rfl rfl rfl ⟨(Nat.le_of_ble_eq_true rfl), (Nat.le_of_ble_eq_true rfl)⟩ (Nat.le_of_ble_eq_true rfl) ⟨(Nat.le_of_ble_eq_true rfl), (Nat.le_of_ble_eq_true rfl)⟩ ?_
        rintro _ _ ⟨rfl, rfl⟩
        exact a_ireturn dX12_caughtBy_71 rfl rfl (Nat.le_of_ble_eq_true rfl) (Nat.le_of_ble_eq_true rfl) ⟨rfl, by rw [caughtN, if_neg (fun q => c_51 (hke.mpr q)), itsN, if_neg (by decide), if_neg (b_eq0.mp c_20)]⟩
      · refine a_iload 56 dX12_caughtBy_54 rfl rfl ?_
        refine a_aload_n 57 dX12_caughtBy_56 rfl rfl ?_
        refine a_iload_n 58 dX12_caughtBy_57 rfl rfl ?_
        refine a_iconst (3) 59 dX12_caughtBy_58 rfl (by decide) ?_
        refine a_callV ok_X12_of ln_X12_215 in_X12_of rfl 62 dX12_caughtBy_59 rfl (k_X12_ofN hl hz (w := 3) (by decide)) (by repeat (first | assumption | (refine rg_ne (by first | decide | omega) ?_) | apply rg_eq | refine rg_fr (by assumption) (by first | decide | (simp; omega)) ?_)) rfl rfl rfl ⟨(Nat.le_of_ble_eq_true rfl), (Nat.le_of_ble_eq_true rfl)⟩ (Nat.le_of_ble_eq_true rfl) ⟨(Nat.le_of_ble_eq_true rfl), (Nat.le_of_ble_eq_true rfl)⟩ ?_
        rintro _ _ ⟨rfl, rfl⟩
        refine a_imul 63 dX12_caughtBy_62 rfl ?_
        refine a_goto 68 dX12_caughtBy_63 (by decide) ?_
        rw [pk_mul]
        refine a_callV ok_X12_taken ln_X12_227 in_X12_taken rfl 71 dX12_caughtBy_68 rfl (k_X12_takenS ho hl hz hx hy (its := 0 * nu z 3) (by omega)) (by repeat (first | assumption | (refine rg_ne (by first | decide | omega) ?_) | apply rg_eq | refine rg_fr (by assumption) (by first | decide | (simp; omega)) ?_)) rfl rfl rfl ⟨(Nat.le_of_ble_eq_true rfl), (Nat.le_of_ble_eq_true rfl)⟩ (Nat.le_of_ble_eq_true rfl) ⟨(Nat.le_of_ble_eq_true rfl), (Nat.le_of_ble_eq_true rfl)⟩ ?_
        rintro _ _ ⟨rfl, rfl⟩
        exact a_ireturn dX12_caughtBy_71 rfl rfl (Nat.le_of_ble_eq_true rfl) (Nat.le_of_ble_eq_true rfl) ⟨rfl, by rw [caughtN, if_pos (hke.mp c_51), itsN, if_neg (by decide), if_neg (b_eq0.mp c_20)]⟩
    · refine a_aload_n 24 dX12_caughtBy_23 rfl rfl ?_
      refine a_iload_n 25 dX12_caughtBy_24 rfl rfl ?_
      refine a_iconst (2) 26 dX12_caughtBy_25 rfl (by decide) ?_
      refine a_callV ok_X12_of ln_X12_215 in_X12_of rfl 29 dX12_caughtBy_26 rfl (k_X12_ofN hl hz (w := 2) (by decide)) (by repeat (first | assumption | (refine rg_ne (by first | decide | omega) ?_) | apply rg_eq | refine rg_fr (by assumption) (by first | decide | (simp; omega)) ?_)) rfl rfl rfl ⟨(Nat.le_of_ble_eq_true rfl), (Nat.le_of_ble_eq_true rfl)⟩ (Nat.le_of_ble_eq_true rfl) ⟨(Nat.le_of_ble_eq_true rfl), (Nat.le_of_ble_eq_true rfl)⟩ ?_
      rintro _ _ ⟨rfl, rfl⟩
      refine a_goto 33 dX12_caughtBy_29 (by decide) ?_
      refine a_istore 35 dX12_caughtBy_33 rfl (by decide) ?_
      refine a_aload_n 36 dX12_caughtBy_35 rfl rfl ?_
      refine a_iload_n 37 dX12_caughtBy_36 rfl rfl ?_
      refine a_iload_n 38 dX12_caughtBy_37 rfl rfl ?_
      refine a_iload_n 39 dX12_caughtBy_38 rfl rfl ?_
      refine a_aload_n 40 dX12_caughtBy_39 rfl rfl ?_
      refine a_get fd_X12_38 rfl 43 dX12_caughtBy_40 rfl (by repeat (first | assumption | (refine rg_ne (by first | decide | omega) ?_) | apply rg_eq | refine rg_fr (by assumption) (by first | decide | (simp; omega)) ?_)) rfl ?_
      refine a_iload_n 44 dX12_caughtBy_43 rfl rfl ?_
      refine a_iaload 45 dX12_caughtBy_44 rfl (by repeat (first | assumption | (refine rg_ne (by first | decide | omega) ?_) | apply rg_eq | refine rg_fr (by assumption) (by first | decide | (simp; omega)) ?_)) (by assumption) ?_
      refine a_aload_n 46 dX12_caughtBy_45 rfl rfl ?_
      refine a_get fd_X12_38 rfl 49 dX12_caughtBy_46 rfl (by repeat (first | assumption | (refine rg_ne (by first | decide | omega) ?_) | apply rg_eq | refine rg_fr (by assumption) (by first | decide | (simp; omega)) ?_)) rfl ?_
      refine a_iload_n 50 dX12_caughtBy_49 rfl rfl ?_
      refine a_iaload 51 dX12_caughtBy_50 rfl (by repeat (first | assumption | (refine rg_ne (by first | decide | omega) ?_) | apply rg_eq | refine rg_fr (by assumption) (by first | decide | (simp; omega)) ?_)) (by assumption) ?_
      rw [nI_clamp (by omega), nI_clamp (by omega), ex.1, ey.1]
      refine a_icmp_ne 66 54 dX12_caughtBy_51 rfl (by decide) (fun c_51 => ?_) (fun c_51 => ?_)
      · refine a_iload 68 dX12_caughtBy_66 rfl rfl ?_
        refine a_callV ok_X12_taken ln_X12_227 in_X12_taken rfl 71 dX12_caughtBy_68 rfl (k_X12_takenS ho hl hz hx hy (its := nu z 2) (by omega)) (by repeat (first | assumption | (refine rg_ne (by first | decide | omega) ?_) | apply rg_eq | refine rg_fr (by assumption) (by first | decide | (simp; omega)) ?_)) rfl rfl rfl ⟨(Nat.le_of_ble_eq_true rfl), (Nat.le_of_ble_eq_true rfl)⟩ (Nat.le_of_ble_eq_true rfl) ⟨(Nat.le_of_ble_eq_true rfl), (Nat.le_of_ble_eq_true rfl)⟩ ?_
        rintro _ _ ⟨rfl, rfl⟩
        exact a_ireturn dX12_caughtBy_71 rfl rfl (Nat.le_of_ble_eq_true rfl) (Nat.le_of_ble_eq_true rfl) ⟨rfl, by rw [caughtN, if_neg (fun q => c_51 (hke.mpr q)), itsN, if_neg (by decide), if_pos (Decidable.not_not.mp (fun q => c_20 (if_neg q)))]⟩
      · refine a_iload 56 dX12_caughtBy_54 rfl rfl ?_
        refine a_aload_n 57 dX12_caughtBy_56 rfl rfl ?_
        refine a_iload_n 58 dX12_caughtBy_57 rfl rfl ?_
        refine a_iconst (3) 59 dX12_caughtBy_58 rfl (by decide) ?_
        refine a_callV ok_X12_of ln_X12_215 in_X12_of rfl 62 dX12_caughtBy_59 rfl (k_X12_ofN hl hz (w := 3) (by decide)) (by repeat (first | assumption | (refine rg_ne (by first | decide | omega) ?_) | apply rg_eq | refine rg_fr (by assumption) (by first | decide | (simp; omega)) ?_)) rfl rfl rfl ⟨(Nat.le_of_ble_eq_true rfl), (Nat.le_of_ble_eq_true rfl)⟩ (Nat.le_of_ble_eq_true rfl) ⟨(Nat.le_of_ble_eq_true rfl), (Nat.le_of_ble_eq_true rfl)⟩ ?_
        rintro _ _ ⟨rfl, rfl⟩
        refine a_imul 63 dX12_caughtBy_62 rfl ?_
        refine a_goto 68 dX12_caughtBy_63 (by decide) ?_
        rw [pk_mul]
        refine a_callV ok_X12_taken ln_X12_227 in_X12_taken rfl 71 dX12_caughtBy_68 rfl (k_X12_takenS ho hl hz hx hy (its := nu z 2 * nu z 3) (lt_mul h2 h3)) (by repeat (first | assumption | (refine rg_ne (by first | decide | omega) ?_) | apply rg_eq | refine rg_fr (by assumption) (by first | decide | (simp; omega)) ?_)) rfl rfl rfl ⟨(Nat.le_of_ble_eq_true rfl), (Nat.le_of_ble_eq_true rfl)⟩ (Nat.le_of_ble_eq_true rfl) ⟨(Nat.le_of_ble_eq_true rfl), (Nat.le_of_ble_eq_true rfl)⟩ ?_
        rintro _ _ ⟨rfl, rfl⟩
        exact a_ireturn dX12_caughtBy_71 rfl rfl (Nat.le_of_ble_eq_true rfl) (Nat.le_of_ble_eq_true rfl) ⟨rfl, by rw [caughtN, if_pos (hke.mp c_51), itsN, if_neg (by decide), if_pos (Decidable.not_not.mp (fun q => c_20 (if_neg q)))]⟩
set_option maxRecDepth 100000 in
set_option maxHeartbeats 400000 in
theorem k_X12_caughtF (hc : mcAt G h i j nb bR bB wi n mir face) (ho : moAt G h i j n m kd se sl ki) (hl : mlAt G h i j nl nu) {z x y : Nat} (hz : z < nl) (hx : x < m) (hy : y < m) : rM l G 4 mX12_caught 0 0 [.ref (gN G + 38), .int (nI z), .int (nI x), .int (nI y), .int 1] h (rV h (some (.int (nI (caughtN nb kd se ki nu z x y true))))) := by
  refine rM_start (by decide) (Nat.le_of_ble_eq_true rfl) ?_
  have hm := ho.1
  refine a_aload_n 1 dX12_caught_0 rfl rfl ?_
  refine a_iload_n 2 dX12_caught_1 rfl rfl ?_
  refine a_iload_n 3 dX12_caught_2 rfl rfl ?_
  refine a_iload_n 4 dX12_caught_3 rfl rfl ?_
  refine a_iload 6 dX12_caught_4 rfl rfl ?_
  refine a_if_ne 18 9 dX12_caught_6 rfl (by decide) (fun c_6 => ?_) (fun c_6 => absurd c_6 (by decide))
  refine a_iconst (1) 19 dX12_caught_18 rfl (by decide) ?_
  refine a_goto 23 dX12_caught_19 (by decide) ?_
  refine a_callV ok_X12_caughtBy ln_X12_223 in_X12_caughtBy rfl 26 dX12_caught_23 rfl (k_X12_caughtBy hc ho hl hz hx hy true) hm rfl rfl rfl ⟨(Nat.le_of_ble_eq_true rfl), (Nat.le_of_ble_eq_true rfl)⟩ (Nat.le_of_ble_eq_true rfl) ⟨(Nat.le_of_ble_eq_true rfl), (Nat.le_of_ble_eq_true rfl)⟩ ?_
  rintro _ _ ⟨rfl, rfl⟩
  exact a_ireturn dX12_caught_26 rfl rfl (Nat.le_of_ble_eq_true rfl) (Nat.le_of_ble_eq_true rfl) ⟨rfl, rfl⟩
set_option maxRecDepth 100000 in
set_option maxHeartbeats 400000 in
theorem k_X12_caughtS (hc : mcAt G h i j nb bR bB wi n mir face) (ho : moAt G h i j n m kd se sl ki) (hl : mlAt G h i j nl nu) {z x y : Nat} (hz : z < nl) (hx : x < m) (hy : y < m) : rM l G 4 mX12_caught 0 0 [.ref (gN G + 38), .int (nI z), .int (nI x), .int (nI y), .int 0] h (fun h' v => v = some (.int (nI (caughtN nb kd se ki nu z x y (decide (seesM nb (blM bR bB wi) mir face se x y))))) ∧ mcAt G h' i j nb bR bB wi n mir face ∧ fr h h' [44]) := by
  refine rM_start (by decide) (Nat.le_of_ble_eq_true rfl) ?_
  have hm := ho.1
  refine a_aload_n 1 dX12_caught_0 rfl rfl ?_
  refine a_iload_n 2 dX12_caught_1 rfl rfl ?_
  refine a_iload_n 3 dX12_caught_2 rfl rfl ?_
  refine a_iload_n 4 dX12_caught_3 rfl rfl ?_
  refine a_iload 6 dX12_caught_4 rfl rfl ?_
  refine a_if_ne 18 9 dX12_caught_6 rfl (by decide) (fun c_6 => absurd rfl c_6) (fun c_6 => ?_)
  refine a_aload_n 10 dX12_caught_9 rfl rfl ?_
  refine a_iload_n 11 dX12_caught_10 rfl rfl ?_
  refine a_iload_n 12 dX12_caught_11 rfl rfl ?_
  refine a_callV ok_X12_doesSee ln_X12_197 in_X12_doesSee rfl 15 dX12_caught_12 rfl (k_X12_doesSee hc ho hx hy) hm rfl rfl rfl ⟨(Nat.le_of_ble_eq_true rfl), (Nat.le_of_ble_eq_true rfl)⟩ (Nat.le_of_ble_eq_true rfl) ⟨(Nat.le_of_ble_eq_true rfl), (Nat.le_of_ble_eq_true rfl)⟩ ?_
  rintro h1 v ⟨rfl, hc1, hf1⟩
  refine a_if_eq 22 18 dX12_caught_15 rfl (by decide) (fun c_15 => ?_) (fun c_15 => ?_)
  · refine a_iconst (0) 23 dX12_caught_22 rfl (by decide) ?_
    refine a_callV ok_X12_caughtBy ln_X12_223 in_X12_caughtBy rfl 26 dX12_caught_23 rfl (k_X12_caughtBy hc1 (ho.fr hf1 (by decide) (by decide) (by decide) (by decide) (by decide)) (hl.fr hf1 (by decide) (by decide)) hz hx hy false) (by repeat (first | assumption | (refine rg_ne (by first | decide | omega) ?_) | apply rg_eq | refine rg_fr (by assumption) (by first | decide | (simp; omega)) ?_)) rfl rfl rfl ⟨(Nat.le_of_ble_eq_true rfl), (Nat.le_of_ble_eq_true rfl)⟩ (Nat.le_of_ble_eq_true rfl) ⟨(Nat.le_of_ble_eq_true rfl), (Nat.le_of_ble_eq_true rfl)⟩ ?_
    rintro _ _ ⟨rfl, rfl⟩
    exact a_ireturn dX12_caught_26 rfl rfl (Nat.le_of_ble_eq_true rfl) (Nat.le_of_ble_eq_true rfl) ⟨by rw [decide_eq_false (b_eq0.mp c_15)], hc1, hf1⟩
  · refine a_iconst (1) 19 dX12_caught_18 rfl (by decide) ?_
    refine a_goto 23 dX12_caught_19 (by decide) ?_
    refine a_callV ok_X12_caughtBy ln_X12_223 in_X12_caughtBy rfl 26 dX12_caught_23 rfl (k_X12_caughtBy hc1 (ho.fr hf1 (by decide) (by decide) (by decide) (by decide) (by decide)) (hl.fr hf1 (by decide) (by decide)) hz hx hy true) (by repeat (first | assumption | (refine rg_ne (by first | decide | omega) ?_) | apply rg_eq | refine rg_fr (by assumption) (by first | decide | (simp; omega)) ?_)) rfl rfl rfl ⟨(Nat.le_of_ble_eq_true rfl), (Nat.le_of_ble_eq_true rfl)⟩ (Nat.le_of_ble_eq_true rfl) ⟨(Nat.le_of_ble_eq_true rfl), (Nat.le_of_ble_eq_true rfl)⟩ ?_
    rintro _ _ ⟨rfl, rfl⟩
    exact a_ireturn dX12_caught_26 rfl rfl (Nat.le_of_ble_eq_true rfl) (Nat.le_of_ble_eq_true rfl) ⟨by rw [decide_eq_true (Decidable.not_not.mp (fun q => c_15 (if_neg q)))], hc1, hf1⟩
end MMO
