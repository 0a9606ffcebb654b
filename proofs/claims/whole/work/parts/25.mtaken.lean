theorem tk_mul {its y : Nat} (h : its * y < 2 ^ 31) : nI its * nI y / 9 = nI (its * y / 9) := by
  rw [pk_mul, show (9 : Int32) = nI 9 from rfl, pk_div h (by decide) (by decide)]
theorem tk_k {k d : Nat} (hk : k < 2 ^ 31) (hd : d < 2 ^ 31) {v : Int32} (hv : v = nI d) : nI k = v ↔ k = d := by
  rw [hv, nI_eq hk hd]
theorem tk_0 {kd its y : Nat} {a : Bool} (hk : kd < 3) (c : nI kd = 0) : takenN kd a its y = its := by
  have c' := (tk_k (d := 0) (by omega) (by omega) rfl).mp c
  simp [takenN, c']
theorem tk_1 {kd its y : Nat} {a : Bool} (hk : kd < 3) (c : ¬ nI kd = 0) (c2 : ¬ nI kd = 2) : takenN kd a its y = its * y / 9 := by
  have c' : ¬ kd = 0 := fun q => c ((tk_k (d := 0) (by omega) (by omega) rfl).mpr q)
  have c2' : ¬ kd = 2 := fun q => c2 ((tk_k (d := 2) (by omega) (by omega) rfl).mpr q)
  simp [takenN, c', c2']
theorem tk_2 {kd its y : Nat} {a : Bool} (hk : kd < 3) (c : ¬ nI kd = 0) (c2 : nI kd = 2) (ha : a = true) : takenN kd a its y = its * y / 9 := by
  have c2' : kd = 2 := (tk_k (d := 2) (by omega) (by omega) rfl).mp c2
  simp [takenN, c2', ha]
theorem tk_3 {kd its y : Nat} {a : Bool} (hk : kd < 3) (c : ¬ nI kd = 0) (c2 : nI kd = 2) (ha : a = false) : takenN kd a its y = 0 := by
  have c2' : kd = 2 := (tk_k (d := 2) (by omega) (by omega) rfl).mp c2
  simp [takenN, c2', ha]
theorem nI_ne9 {d : Nat} (h : d < 2 ^ 31) : ¬ nI d = -9 := by
  intro q
  have e1 : (nI d).toInt = (d : Int) := nI_toInt h
  rw [q] at e1
  have e2 : (-9 : Int32).toInt = -9 := rfl
  omega
section MTAKEN
variable {l : Launch} {G : rG} {h : rH} {i : Nat → Int32} {j : Nat → Int64} {bR bB : Nat → Int32} {nb : Nat → Nat → Option Nat} {wi n m nl : Nat} {mir : Bool} {face kd se sl ki : Nat → Nat} {nu : Nat → Nat → Nat}
set_option maxRecDepth 100000 in
set_option maxHeartbeats 400000 in
theorem k_X12_takenO (ho : moAt G h i j n m kd se sl ki) (hl : mlAt G h i j nl nu) {z x its : Nat} (hz : z < nl) (hx : x < m) (hi : its < 1000) : rM l G 1 mX12_taken 0 0 [.ref (gN G + 38), .int (nI z), .int (nI x), .int (-9), .int (nI its)] h (rV h (some (.int (nI (takenN (kd x) true its (nu z 4)))))) := by
  obtain ⟨hm, -, hm12, ⟨f4, q4, q4'⟩, -, -, ⟨f7, q7, q7'⟩⟩ := ho
  have vx : vp_in (nI x) 12 := vp_in_nI (by omega) (by decide)
  have e4 := q4' x hx
  obtain ⟨-, -, hl6, f, -, qf⟩ := id hl
  have hy := (qf z 4 hz (by decide)).2
  have hb : its * nu z 4 < 2 ^ 31 := Nat.lt_of_le_of_lt (Nat.mul_le_mul (Nat.le_of_lt hi) (Nat.le_of_lt hy)) (by decide)
  refine rM_start (by decide) (Nat.le_of_ble_eq_true rfl) ?_
  refine a_aload_n 1 dX12_taken_0 rfl rfl ?_
  refine a_get fd_X12_29 rfl 4 dX12_taken_1 rfl (by repeat (first | assumption | (refine rg_ne (by first | decide | omega) ?_) | apply rg_eq | refine rg_fr (by assumption) (by first | decide | (simp; omega)) ?_)) rfl ?_
  refine a_iload_n 5 dX12_taken_4 rfl rfl ?_
  refine a_iaload 6 dX12_taken_5 rfl (by repeat (first | assumption | (refine rg_ne (by first | decide | omega) ?_) | apply rg_eq | refine rg_fr (by assumption) (by first | decide | (simp; omega)) ?_)) (by assumption) ?_
  rw [nI_clamp (by omega), e4.1]
  refine a_if_ne 12 9 dX12_taken_6 rfl (by decide) (fun c_6 => ?_) (fun c_6 => ?_)
  · refine a_iload_n 13 dX12_taken_12 rfl rfl ?_
    refine a_bipush (-9) 15 dX12_taken_13 rfl (by decide) ?_
    refine a_icmp_eq 33 18 dX12_taken_15 rfl (by decide) (fun c_15 => ?_) (fun c_15 => absurd rfl c_15)
    refine a_iconst (1) 34 dX12_taken_33 rfl (by decide) ?_
    refine a_goto 38 dX12_taken_34 (by decide) ?_
    refine a_istore 40 dX12_taken_38 rfl (by decide) ?_
    refine a_aload_n 41 dX12_taken_40 rfl rfl ?_
    refine a_get fd_X12_29 rfl 44 dX12_taken_41 rfl (by repeat (first | assumption | (refine rg_ne (by first | decide | omega) ?_) | apply rg_eq | refine rg_fr (by assumption) (by first | decide | (simp; omega)) ?_)) rfl ?_
    refine a_iload_n 45 dX12_taken_44 rfl rfl ?_
    refine a_iaload 46 dX12_taken_45 rfl (by repeat (first | assumption | (refine rg_ne (by first | decide | omega) ?_) | apply rg_eq | refine rg_fr (by assumption) (by first | decide | (simp; omega)) ?_)) (by assumption) ?_
    rw [nI_clamp (by omega), e4.1]
    refine a_iconst (2) 47 dX12_taken_46 rfl (by decide) ?_
    refine a_icmp_ne 59 50 dX12_taken_47 rfl (by decide) (fun c_47 => ?_) (fun c_47 => ?_)
    · refine a_iload 61 dX12_taken_59 rfl rfl ?_
      refine a_aload_n 62 dX12_taken_61 rfl rfl ?_
      refine a_iload_n 63 dX12_taken_62 rfl rfl ?_
      refine a_iconst (4) 64 dX12_taken_63 rfl (by decide) ?_
      refine a_callV ok_X12_of ln_X12_215 in_X12_of rfl 67 dX12_taken_64 rfl (k_X12_ofN hl hz (w := 4) (by decide)) (by repeat (first | assumption | (refine rg_ne (by first | decide | omega) ?_) | apply rg_eq | refine rg_fr (by assumption) (by first | decide | (simp; omega)) ?_)) rfl rfl rfl ⟨(Nat.le_of_ble_eq_true rfl), (Nat.le_of_ble_eq_true rfl)⟩ (Nat.le_of_ble_eq_true rfl) ⟨(Nat.le_of_ble_eq_true rfl), (Nat.le_of_ble_eq_true rfl)⟩ ?_
      rintro _ _ ⟨rfl, rfl⟩
      refine a_imul 68 dX12_taken_67 rfl ?_
      refine a_bipush (9) 70 dX12_taken_68 rfl (by decide) ?_
      refine a_idiv 71 dX12_taken_70 rfl (by decide) ?_
      exact a_ireturn dX12_taken_71 rfl rfl (Nat.le_of_ble_eq_true rfl) (Nat.le_of_ble_eq_true rfl) ⟨rfl, by rw [tk_mul hb, tk_1 e4.2 c_6 c_47]⟩
    · refine a_iload 52 dX12_taken_50 rfl rfl ?_
      refine a_if_ne 59 55 dX12_taken_52 rfl (by decide) (fun c_52 => ?_) (fun c_52 => absurd c_52 (by decide))
      refine a_iload 61 dX12_taken_59 rfl rfl ?_
      refine a_aload_n 62 dX12_taken_61 rfl rfl ?_
      refine a_iload_n 63 dX12_taken_62 rfl rfl ?_
      refine a_iconst (4) 64 dX12_taken_63 rfl (by decide) ?_
      refine a_callV ok_X12_of ln_X12_215 in_X12_of rfl 67 dX12_taken_64 rfl (k_X12_ofN hl hz (w := 4) (by decide)) (by repeat (first | assumption | (refine rg_ne (by first | decide | omega) ?_) | apply rg_eq | refine rg_fr (by assumption) (by first | decide | (simp; omega)) ?_)) rfl rfl rfl ⟨(Nat.le_of_ble_eq_true rfl), (Nat.le_of_ble_eq_true rfl)⟩ (Nat.le_of_ble_eq_true rfl) ⟨(Nat.le_of_ble_eq_true rfl), (Nat.le_of_ble_eq_true rfl)⟩ ?_
      rintro _ _ ⟨rfl, rfl⟩
      refine a_imul 68 dX12_taken_67 rfl ?_
      refine a_bipush (9) 70 dX12_taken_68 rfl (by decide) ?_
      refine a_idiv 71 dX12_taken_70 rfl (by decide) ?_
      exact a_ireturn dX12_taken_71 rfl rfl (Nat.le_of_ble_eq_true rfl) (Nat.le_of_ble_eq_true rfl) ⟨rfl, by rw [tk_mul hb, tk_2 e4.2 c_6 c_47 rfl]⟩
  · refine a_iload 11 dX12_taken_9 rfl rfl ?_
    exact a_ireturn dX12_taken_11 rfl rfl (Nat.le_of_ble_eq_true rfl) (Nat.le_of_ble_eq_true rfl) ⟨rfl, by rw [tk_0 e4.2 c_6]⟩
set_option maxRecDepth 100000 in
set_option maxHeartbeats 400000 in
theorem k_X12_takenS (ho : moAt G h i j n m kd se sl ki) (hl : mlAt G h i j nl nu) {z x y its : Nat} (hz : z < nl) (hx : x < m) (hy : y < m) (hi : its < 1000) : rM l G 1 mX12_taken 0 0 [.ref (gN G + 38), .int (nI z), .int (nI x), .int (nI y), .int (nI its)] h (rV h (some (.int (nI (takenN (kd x) (decide (ki x = ki y)) its (nu z 4)))))) := by
  obtain ⟨hm, -, hm12, ⟨f4, q4, q4'⟩, -, -, ⟨f7, q7, q7'⟩⟩ := ho
  have vx : vp_in (nI x) 12 := vp_in_nI (by omega) (by decide)
  have vy : vp_in (nI y) 12 := vp_in_nI (by omega) (by decide)
  have e4 := q4' x hx
  have ex := q7' x hx
  have ey := q7' y hy
  obtain ⟨-, -, hl6, f, -, qf⟩ := id hl
  have hy9 := (qf z 4 hz (by decide)).2
  have hb : its * nu z 4 < 2 ^ 31 := Nat.lt_of_le_of_lt (Nat.mul_le_mul (Nat.le_of_lt hi) (Nat.le_of_lt hy9)) (by decide)
  have hke : nI (ki x) = nI (ki y) ↔ ki x = ki y := nI_eq (by omega) (by omega)
  refine rM_start (by decide) (Nat.le_of_ble_eq_true rfl) ?_
  refine a_aload_n 1 dX12_taken_0 rfl rfl ?_
  refine a_get fd_X12_29 rfl 4 dX12_taken_1 rfl (by repeat (first | assumption | (refine rg_ne (by first | decide | omega) ?_) | apply rg_eq | refine rg_fr (by assumption) (by first | decide | (simp; omega)) ?_)) rfl ?_
  refine a_iload_n 5 dX12_taken_4 rfl rfl ?_
  refine a_iaload 6 dX12_taken_5 rfl (by repeat (first | assumption | (refine rg_ne (by first | decide | omega) ?_) | apply rg_eq | refine rg_fr (by assumption) (by first | decide | (simp; omega)) ?_)) (by assumption) ?_
  rw [nI_clamp (by omega), e4.1]
  refine a_if_ne 12 9 dX12_taken_6 rfl (by decide) (fun c_6 => ?_) (fun c_6 => ?_)
  · refine a_iload_n 13 dX12_taken_12 rfl rfl ?_
    refine a_bipush (-9) 15 dX12_taken_13 rfl (by decide) ?_
    refine a_icmp_eq 33 18 dX12_taken_15 rfl (by decide) (fun c_15 => absurd c_15 (nI_ne9 (by omega))) (fun c_15 => ?_)
    refine a_aload_n 19 dX12_taken_18 rfl rfl ?_
    refine a_get fd_X12_38 rfl 22 dX12_taken_19 rfl (by repeat (first | assumption | (refine rg_ne (by first | decide | omega) ?_) | apply rg_eq | refine rg_fr (by assumption) (by first | decide | (simp; omega)) ?_)) rfl ?_
    refine a_iload_n 23 dX12_taken_22 rfl rfl ?_
    refine a_iaload 24 dX12_taken_23 rfl (by repeat (first | assumption | (refine rg_ne (by first | decide | omega) ?_) | apply rg_eq | refine rg_fr (by assumption) (by first | decide | (simp; omega)) ?_)) (by assumption) ?_
    refine a_aload_n 25 dX12_taken_24 rfl rfl ?_
    refine a_get fd_X12_38 rfl 28 dX12_taken_25 rfl (by repeat (first | assumption | (refine rg_ne (by first | decide | omega) ?_) | apply rg_eq | refine rg_fr (by assumption) (by first | decide | (simp; omega)) ?_)) rfl ?_
    refine a_iload_n 29 dX12_taken_28 rfl rfl ?_
    refine a_iaload 30 dX12_taken_29 rfl (by repeat (first | assumption | (refine rg_ne (by first | decide | omega) ?_) | apply rg_eq | refine rg_fr (by assumption) (by first | decide | (simp; omega)) ?_)) (by assumption) ?_
    rw [nI_clamp (by omega), nI_clamp (by omega), ex.1, ey.1]
    refine a_icmp_ne 37 33 dX12_taken_30 rfl (by decide) (fun c_30 => ?_) (fun c_30 => ?_)
    · refine a_iconst (0) 38 dX12_taken_37 rfl (by decide) ?_
      refine a_istore 40 dX12_taken_38 rfl (by decide) ?_
      refine a_aload_n 41 dX12_taken_40 rfl rfl ?_
      refine a_get fd_X12_29 rfl 44 dX12_taken_41 rfl (by repeat (first | assumption | (refine rg_ne (by first | decide | omega) ?_) | apply rg_eq | refine rg_fr (by assumption) (by first | decide | (simp; omega)) ?_)) rfl ?_
      refine a_iload_n 45 dX12_taken_44 rfl rfl ?_
      refine a_iaload 46 dX12_taken_45 rfl (by repeat (first | assumption | (refine rg_ne (by first | decide | omega) ?_) | apply rg_eq | refine rg_fr (by assumption) (by first | decide | (simp; omega)) ?_)) (by assumption) ?_
      rw [nI_clamp (by omega), e4.1]
      refine a_iconst (2) 47 dX12_taken_46 rfl (by decide) ?_
      refine a_icmp_ne 59 50 dX12_taken_47 rfl (by decide) (fun c_47 => ?_) (fun c_47 => ?_)
      · refine a_iload 61 dX12_taken_59 rfl rfl ?_
        refine a_aload_n 62 dX12_taken_61 rfl rfl ?_
        refine a_iload_n 63 dX12_taken_62 rfl rfl ?_
        refine a_iconst (4) 64 dX12_taken_63 rfl (by decide) ?_
        refine a_callV ok_X12_of ln_X12_215 in_X12_of rfl 67 dX12_taken_64 rfl (k_X12_ofN hl hz (w := 4) (by decide)) (by repeat (first | assumption | (refine rg_ne (by first | decide | omega) ?_) | apply rg_eq | refine rg_fr (by assumption) (by first | decide | (simp; omega)) ?_)) rfl rfl rfl ⟨(Nat.le_of_ble_eq_true rfl), (Nat.le_of_ble_eq_true rfl)⟩ (Nat.le_of_ble_eq_true rfl) ⟨(Nat.le_of_ble_eq_true rfl), (Nat.le_of_ble_eq_true rfl)⟩ ?_
        rintro _ _ ⟨rfl, rfl⟩
        refine a_imul 68 dX12_taken_67 rfl ?_
        refine a_bipush (9) 70 dX12_taken_68 rfl (by decide) ?_
        refine a_idiv 71 dX12_taken_70 rfl (by decide) ?_
        exact a_ireturn dX12_taken_71 rfl rfl (Nat.le_of_ble_eq_true rfl) (Nat.le_of_ble_eq_true rfl) ⟨rfl, by rw [tk_mul hb, tk_1 e4.2 c_6 c_47]⟩
      · refine a_iload 52 dX12_taken_50 rfl rfl ?_
        refine a_if_ne 59 55 dX12_taken_52 rfl (by decide) (fun c_52 => absurd rfl c_52) (fun c_52 => ?_)
        refine a_iconst (0) 56 dX12_taken_55 rfl (by decide) ?_
        refine a_goto 71 dX12_taken_56 (by decide) ?_
        exact a_ireturn dX12_taken_71 rfl rfl (Nat.le_of_ble_eq_true rfl) (Nat.le_of_ble_eq_true rfl) ⟨rfl, by rw [tk_3 e4.2 c_6 c_47 (decide_eq_false (fun q => c_30 (hke.mpr q)))]; rfl⟩
    · refine a_iconst (1) 34 dX12_taken_33 rfl (by decide) ?_
      refine a_goto 38 dX12_taken_34 (by decide) ?_
      refine a_istore 40 dX12_taken_38 rfl (by decide) ?_
      refine a_aload_n 41 dX12_taken_40 rfl rfl ?_
      refine a_get fd_X12_29 rfl 44 dX12_taken_41 rfl (by repeat (first | assumption | (refine rg_ne (by first | decide | omega) ?_) | apply rg_eq | refine rg_fr (by assumption) (by first | decide | (simp; omega)) ?_)) rfl ?_
      refine a_iload_n 45 dX12_taken_44 rfl rfl ?_
      refine a_iaload 46 dX12_taken_45 rfl (by repeat (first | assumption | (refine rg_ne (by first | decide | omega) ?_) | apply rg_eq | refine rg_fr (by assumption) (by first | decide | (simp; omega)) ?_)) (by assumption) ?_
      rw [nI_clamp (by omega), e4.1]
      refine a_iconst (2) 47 dX12_taken_46 rfl (by decide) ?_
      refine a_icmp_ne 59 50 dX12_taken_47 rfl (by decide) (fun c_47 => ?_) (fun c_47 => ?_)
      · refine a_iload 61 dX12_taken_59 rfl rfl ?_
        refine a_aload_n 62 dX12_taken_61 rfl rfl ?_
        refine a_iload_n 63 dX12_taken_62 rfl rfl ?_
        refine a_iconst (4) 64 dX12_taken_63 rfl (by decide) ?_
        refine a_callV ok_X12_of ln_X12_215 in_X12_of rfl 67 dX12_taken_64 rfl (k_X12_ofN hl hz (w := 4) (by decide)) (by repeat (first | assumption | (refine rg_ne (by first | decide | omega) ?_) | apply rg_eq | refine rg_fr (by assumption) (by first | decide | (simp; omega)) ?_)) rfl rfl rfl ⟨(Nat.le_of_ble_eq_true rfl), (Nat.le_of_ble_eq_true rfl)⟩ (Nat.le_of_ble_eq_true rfl) ⟨(Nat.le_of_ble_eq_true rfl), (Nat.le_of_ble_eq_true rfl)⟩ ?_
        rintro _ _ ⟨rfl, rfl⟩
        refine a_imul 68 dX12_taken_67 rfl ?_
        refine a_bipush (9) 70 dX12_taken_68 rfl (by decide) ?_
        refine a_idiv 71 dX12_taken_70 rfl (by decide) ?_
        exact a_ireturn dX12_taken_71 rfl rfl (Nat.le_of_ble_eq_true rfl) (Nat.le_of_ble_eq_true rfl) ⟨rfl, by rw [tk_mul hb, tk_1 e4.2 c_6 c_47]⟩
      · refine a_iload 52 dX12_taken_50 rfl rfl ?_
        refine a_if_ne 59 55 dX12_taken_52 rfl (by decide) (fun c_52 => ?_) (fun c_52 => absurd c_52 (by decide))
        refine a_iload 61 dX12_taken_59 rfl rfl ?_
        refine a_aload_n 62 dX12_taken_61 rfl rfl ?_
        refine a_iload_n 63 dX12_taken_62 rfl rfl ?_
        refine a_iconst (4) 64 dX12_taken_63 rfl (by decide) ?_
        refine a_callV ok_X12_of ln_X12_215 in_X12_of rfl 67 dX12_taken_64 rfl (k_X12_ofN hl hz (w := 4) (by decide)) (by repeat (first | assumption | (refine rg_ne (by first | decide | omega) ?_) | apply rg_eq | refine rg_fr (by assumption) (by first | decide | (simp; omega)) ?_)) rfl rfl rfl ⟨(Nat.le_of_ble_eq_true rfl), (Nat.le_of_ble_eq_true rfl)⟩ (Nat.le_of_ble_eq_true rfl) ⟨(Nat.le_of_ble_eq_true rfl), (Nat.le_of_ble_eq_true rfl)⟩ ?_
        rintro _ _ ⟨rfl, rfl⟩
        refine a_imul 68 dX12_taken_67 rfl ?_
        refine a_bipush (9) 70 dX12_taken_68 rfl (by decide) ?_
        refine a_idiv 71 dX12_taken_70 rfl (by decide) ?_
        exact a_ireturn dX12_taken_71 rfl rfl (Nat.le_of_ble_eq_true rfl) (Nat.le_of_ble_eq_true rfl) ⟨rfl, by rw [tk_mul hb, tk_2 e4.2 c_6 c_47 (decide_eq_true (hke.mp c_30))]⟩
  · refine a_iload 11 dX12_taken_9 rfl rfl ?_
    exact a_ireturn dX12_taken_11 rfl rfl (Nat.le_of_ble_eq_true rfl) (Nat.le_of_ble_eq_true rfl) ⟨rfl, by rw [tk_0 e4.2 c_6]⟩
end MTAKEN
