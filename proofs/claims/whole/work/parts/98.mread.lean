/-! THE MODEL: reading a text -/
section MREAD
variable {l : Launch} {G : rG} {h : rH} {T : Tn} {i : Nat → Int32} {j : Nat → Int64} {w : Nat → Int32} {s N p : Nat}
set_option maxRecDepth 100000 in
set_option maxHeartbeats 400000 in
theorem k_X12_takes (hm : h[38]? = some (mo G i j)) (h59 : h[59]? = some (.inl (gA G 0, 240, .inl w))) (h7 : i 7 = nI p) (hsN : s + N ≤ 240) (hp : p ≤ N) (c : Int32) : rM l G 0 mX12_takes 0 0 [.ref (gN G + 38), .int c, .int (nI s), .int (nI N)] h (fun h' v => v = some (.int (if p < N ∧ w (s + p) = c then 1 else 0)) ∧ ∃ i', h'[38]? = some (mo G i' j) ∧ i' 7 = nI (if p < N ∧ w (s + p) = c then p + 1 else p) ∧ (∀ k, k ≠ 7 → i' k = i k) ∧ fr h h' [38]) := by
  by_cases C : p < N ∧ w (s + p) = c
  · rw [if_pos C, if_pos C]
    have v18 : vp_in (nI (s + p)) 240 := vp_in_nI (by omega) (by decide)
    have c18 : (nI (s + p)).toNatClampNeg = s + p := nI_clamp (by omega)
    refine rM_start (by decide) (Nat.le_of_ble_eq_true rfl) ?_
    refine a_aload_n 1 dX12_takes_0 rfl rfl ?_
    refine a_get fd_X12_118 rfl 4 dX12_takes_1 rfl (by repeat (first | assumption | (refine rg_ne (by first | decide | omega) ?_) | apply rg_eq | refine rg_fr (by assumption) (by first | decide | (simp; omega)) ?_)) rfl ?_
    refine a_iload_n 5 dX12_takes_4 rfl rfl ?_
    rw [h7]
    refine a_icmp_ge 27 8 dX12_takes_5 rfl (by decide) (fun c_5 => absurd c_5 (nI_ge (a := p) (b := N) (by omega) (by omega))) (fun c_5 => ?_)
    refine a_aload_n 9 dX12_takes_8 rfl rfl ?_
    refine a_get fd_X12_71 rfl 12 dX12_takes_9 rfl (by repeat (first | assumption | (refine rg_ne (by first | decide | omega) ?_) | apply rg_eq | refine rg_fr (by assumption) (by first | decide | (simp; omega)) ?_)) rfl ?_
    refine a_iload_n 13 dX12_takes_12 rfl rfl ?_
    refine a_aload_n 14 dX12_takes_13 rfl rfl ?_
    refine a_get fd_X12_118 rfl 17 dX12_takes_14 rfl (by repeat (first | assumption | (refine rg_ne (by first | decide | omega) ?_) | apply rg_eq | refine rg_fr (by assumption) (by first | decide | (simp; omega)) ?_)) rfl ?_
    refine a_iadd 18 dX12_takes_17 rfl ?_
    rw [h7, nI_add]
    refine a_iaload 19 dX12_takes_18 rfl (by repeat (first | assumption | (refine rg_ne (by first | decide | omega) ?_) | apply rg_eq | refine rg_fr (by assumption) (by first | decide | (simp; omega)) ?_)) v18 ?_
    rw [c18, C.2]
    refine a_iload_n 20 dX12_takes_19 rfl rfl ?_
    refine a_icmp_ne 27 23 dX12_takes_20 rfl (by decide) (fun c_20 => absurd rfl c_20) (fun c_20 => ?_)
    refine a_iconst (1) 24 dX12_takes_23 rfl (by decide) ?_
    refine a_goto 28 dX12_takes_24 (by decide) ?_
    refine a_istore 30 dX12_takes_28 rfl (by decide) ?_
    refine a_aload_n 31 dX12_takes_30 rfl rfl ?_
    refine a_dup 32 dX12_takes_31 rfl rfl ?_
    refine a_get fd_X12_118 rfl 35 dX12_takes_32 rfl (by repeat (first | assumption | (refine rg_ne (by first | decide | omega) ?_) | apply rg_eq | refine rg_fr (by assumption) (by first | decide | (simp; omega)) ?_)) rfl ?_
    refine a_iload 37 dX12_takes_35 rfl rfl ?_
    refine a_if_eq 44 40 dX12_takes_37 rfl (by decide) (fun c_37 => absurd c_37 (by decide)) (fun c_37 => ?_)
    refine a_iconst (1) 41 dX12_takes_40 rfl (by decide) ?_
    refine a_goto 45 dX12_takes_41 (by decide) ?_
    rw [h7]
    refine a_iadd 46 dX12_takes_45 rfl ?_
    rw [nI_1]
    refine a_put fd_X12_118 cl_X12 rfl 49 dX12_takes_46 rfl (by repeat (first | assumption | (refine rg_ne (by first | decide | omega) ?_) | apply rg_eq | refine rg_fr (by assumption) (by first | decide | (simp; omega)) ?_)) (Nat.le_of_ble_eq_true rfl) rfl rfl rfl ?_
    refine a_iload 51 dX12_takes_49 rfl rfl ?_
    exact a_ireturn dX12_takes_51 rfl rfl (Nat.le_of_ble_eq_true rfl) (Nat.le_of_ble_eq_true rfl) ⟨rfl, upd i 7 _, rg_eq hm, pk_us, fun k hk => pk_un hk, fr_set (fr_refl _ _) (by decide)⟩
  · rw [if_neg C, if_neg C]
    have v18 : p < N → vp_in (nI (s + p)) 240 := fun u => vp_in_nI (by omega) (by decide)
    have c18 : (nI (s + p)).toNatClampNeg = s + p := nI_clamp (by omega)
    have hpN : ¬ nI N ≤ nI p → p < N := fun u => Decidable.not_not.mp (fun x => u (nI_le (by omega) (by omega)))
    refine rM_start (by decide) (Nat.le_of_ble_eq_true rfl) ?_
    refine a_aload_n 1 dX12_takes_0 rfl rfl ?_
    refine a_get fd_X12_118 rfl 4 dX12_takes_1 rfl (by repeat (first | assumption | (refine rg_ne (by first | decide | omega) ?_) | apply rg_eq | refine rg_fr (by assumption) (by first | decide | (simp; omega)) ?_)) rfl ?_
    refine a_iload_n 5 dX12_takes_4 rfl rfl ?_
    rw [h7]
    refine a_icmp_ge 27 8 dX12_takes_5 rfl (by decide) (fun c_5 => ?_) (fun c_5 => ?_)
    · refine a_iconst (0) 28 dX12_takes_27 rfl (by decide) ?_
      refine a_istore 30 dX12_takes_28 rfl (by decide) ?_
      refine a_aload_n 31 dX12_takes_30 rfl rfl ?_
      refine a_dup 32 dX12_takes_31 rfl rfl ?_
      refine a_get fd_X12_118 rfl 35 dX12_takes_32 rfl (by repeat (first | assumption | (refine rg_ne (by first | decide | omega) ?_) | apply rg_eq | refine rg_fr (by assumption) (by first | decide | (simp; omega)) ?_)) rfl ?_
      refine a_iload 37 dX12_takes_35 rfl rfl ?_
      refine a_if_eq 44 40 dX12_takes_37 rfl (by decide) (fun c_37 => ?_) (fun c_37 => absurd rfl c_37)
      refine a_iconst (0) 45 dX12_takes_44 rfl (by decide) ?_
      rw [h7]
      refine a_iadd 46 dX12_takes_45 rfl ?_
      rw [show nI p + 0 = nI p from Int32.add_zero _]
      refine a_put fd_X12_118 cl_X12 rfl 49 dX12_takes_46 rfl (by repeat (first | assumption | (refine rg_ne (by first | decide | omega) ?_) | apply rg_eq | refine rg_fr (by assumption) (by first | decide | (simp; omega)) ?_)) (Nat.le_of_ble_eq_true rfl) rfl rfl rfl ?_
      refine a_iload 51 dX12_takes_49 rfl rfl ?_
      exact a_ireturn dX12_takes_51 rfl rfl (Nat.le_of_ble_eq_true rfl) (Nat.le_of_ble_eq_true rfl) ⟨rfl, upd i 7 _, rg_eq hm, pk_us, fun k hk => pk_un hk, fr_set (fr_refl _ _) (by decide)⟩
    · refine a_aload_n 9 dX12_takes_8 rfl rfl ?_
      refine a_get fd_X12_71 rfl 12 dX12_takes_9 rfl (by repeat (first | assumption | (refine rg_ne (by first | decide | omega) ?_) | apply rg_eq | refine rg_fr (by assumption) (by first | decide | (simp; omega)) ?_)) rfl ?_
      refine a_iload_n 13 dX12_takes_12 rfl rfl ?_
      refine a_aload_n 14 dX12_takes_13 rfl rfl ?_
      refine a_get fd_X12_118 rfl 17 dX12_takes_14 rfl (by repeat (first | assumption | (refine rg_ne (by first | decide | omega) ?_) | apply rg_eq | refine rg_fr (by assumption) (by first | decide | (simp; omega)) ?_)) rfl ?_
      refine a_iadd 18 dX12_takes_17 rfl ?_
      rw [h7, nI_add]
      refine a_iaload 19 dX12_takes_18 rfl (by repeat (first | assumption | (refine rg_ne (by first | decide | omega) ?_) | apply rg_eq | refine rg_fr (by assumption) (by first | decide | (simp; omega)) ?_)) (v18 (hpN c_5)) ?_
      rw [c18]
      refine a_iload_n 20 dX12_takes_19 rfl rfl ?_
      refine a_icmp_ne 27 23 dX12_takes_20 rfl (by decide) (fun c_20 => ?_) (fun c_20 => absurd ⟨hpN c_5, c_20⟩ C)
      refine a_iconst (0) 28 dX12_takes_27 rfl (by decide) ?_
      refine a_istore 30 dX12_takes_28 rfl (by decide) ?_
      refine a_aload_n 31 dX12_takes_30 rfl rfl ?_
      refine a_dup 32 dX12_takes_31 rfl rfl ?_
      refine a_get fd_X12_118 rfl 35 dX12_takes_32 rfl (by repeat (first | assumption | (refine rg_ne (by first | decide | omega) ?_) | apply rg_eq | refine rg_fr (by assumption) (by first | decide | (simp; omega)) ?_)) rfl ?_
      refine a_iload 37 dX12_takes_35 rfl rfl ?_
      refine a_if_eq 44 40 dX12_takes_37 rfl (by decide) (fun c_37 => ?_) (fun c_37 => absurd rfl c_37)
      refine a_iconst (0) 45 dX12_takes_44 rfl (by decide) ?_
      rw [h7]
      refine a_iadd 46 dX12_takes_45 rfl ?_
      rw [show nI p + 0 = nI p from Int32.add_zero _]
      refine a_put fd_X12_118 cl_X12 rfl 49 dX12_takes_46 rfl (by repeat (first | assumption | (refine rg_ne (by first | decide | omega) ?_) | apply rg_eq | refine rg_fr (by assumption) (by first | decide | (simp; omega)) ?_)) (Nat.le_of_ble_eq_true rfl) rfl rfl rfl ?_
      refine a_iload 51 dX12_takes_49 rfl rfl ?_
      exact a_ireturn dX12_takes_51 rfl rfl (Nat.le_of_ble_eq_true rfl) (Nat.le_of_ble_eq_true rfl) ⟨rfl, upd i 7 _, rg_eq hm, pk_us, fun k hk => pk_un hk, fr_set (fr_refl _ _) (by decide)⟩
abbrev rdV (w : Nat → Int32) (s N p : Nat) : Int32 := if p < N then w (s + p) - 48 else -9
theorem dig_iff {c : Int32} {lo hi : Nat} (hl : lo < 100) (hh : hi < 100) : (nI lo ≤ c - 48 ∧ c - 48 ≤ nI hi) ↔ (nI (48 + lo) ≤ c ∧ c ≤ nI (48 + hi)) := by
  have b1 := Int32.toInt_lt c
  have b2 := Int32.le_toInt c
  have e48 : (48 : Int32).toInt = 48 := rfl
  have e1 : (nI lo).toInt = (lo : Int) := nI_toInt (by omega)
  have e2 : (nI hi).toInt = (hi : Int) := nI_toInt (by omega)
  have e3 : (nI (48 + lo)).toInt = ((48 + lo : Nat) : Int) := nI_toInt (by omega)
  have e4 : (nI (48 + hi)).toInt = ((48 + hi : Nat) : Int) := nI_toInt (by omega)
  rw [i_le, i_le, i_le, i_le, Int32.toInt_sub, e48, e1, e2, e3, e4]
  unfold Int.bmod
  dsimp only
  constructor
  · rintro ⟨u, v⟩
    split at u <;> split at v <;> omega
  · rintro ⟨u, v⟩
    constructor <;> split <;> omega
theorem rd_iff {lo hi : Nat} (hl : lo < 100) (hh : hi < 100) : (nI lo ≤ rdV w s N p ∧ rdV w s N p ≤ nI hi) ↔ (p < N ∧ (nI (48 + lo) ≤ w (s + p) ∧ w (s + p) ≤ nI (48 + hi))) := by
  by_cases hp : p < N
  · rw [show rdV w s N p = w (s + p) - 48 from if_pos hp, dig_iff hl hh]
    exact ⟨fun u => ⟨hp, u⟩, fun u => u.2⟩
  · rw [show rdV w s N p = -9 from if_neg hp]
    refine ⟨fun u => absurd u.1 ?_, fun u => absurd u.1 hp⟩
    rw [i_le, nI_toInt (by omega)]
    show ¬ ((lo : Int) ≤ -9)
    omega
set_option maxRecDepth 100000 in
set_option maxHeartbeats 400000 in
theorem k_X12_readsFigure (hm : h[38]? = some (mo G i j)) (h59 : h[59]? = some (.inl (gA G 0, 240, .inl w))) (h7 : i 7 = nI p) (hsN : s + N ≤ 240) (hp : p ≤ N) (a b : Int32) : rM l G 1 mX12_readsFigure 0 0 [.ref (gN G + 38), .int (nI s), .int (nI N), .int a, .int b] h (fun h' v => v = some (.int (if a ≤ rdV w s N p ∧ rdV w s N p ≤ b then 1 else 0)) ∧ ∃ i', h'[38]? = some (mo G i' j) ∧ i' 7 = nI (if a ≤ rdV w s N p ∧ rdV w s N p ≤ b then p + 1 else p) ∧ i' 8 = rdV w s N p ∧ (∀ k, k ≠ 7 → k ≠ 8 → i' k = i k) ∧ fr h h' [38]) := by
  have v19 : p < N → vp_in (nI (s + p)) 240 := fun u => vp_in_nI (by omega) (by decide)
  have c19 : (nI (s + p)).toNatClampNeg = s + p := nI_clamp (by omega)
  have hpN : ¬ nI N ≤ nI p → p < N := fun u => Decidable.not_not.mp (fun x => u (nI_le (by omega) (by omega)))
  have hVp : p < N → w (s + p) - 48 = rdV w s N p := fun u => (if_pos u).symm
  have hVn : nI N ≤ nI p → (-9 : Int32) = rdV w s N p := fun u => (if_neg (fun x => nI_ge (a := p) (b := N) x (by omega) u)).symm
  generalize rdV w s N p = V at *
  have hin : (a.toInt64 ≤ V.toInt64 ∧ V.toInt64 ≤ b.toInt64) ↔ (a ≤ V ∧ V ≤ b) := by rw [to64_le, to64_le, i_le, i_le]
  by_cases C : a ≤ V ∧ V ≤ b
  · rw [if_pos C, if_pos C]
    have e44 : (if a.toInt64 ≤ V.toInt64 ∧ V.toInt64 ≤ b.toInt64 then (1 : Int32) else 0) = 1 := if_pos (hin.mpr C)
    refine rM_start (by decide) (Nat.le_of_ble_eq_true rfl) ?_
    refine a_aload_n 1 dX12_readsFigure_0 rfl rfl ?_
    refine a_aload_n 2 dX12_readsFigure_1 rfl rfl ?_
    refine a_get fd_X12_118 rfl 5 dX12_readsFigure_2 rfl (by repeat (first | assumption | (refine rg_ne (by first | decide | omega) ?_) | apply rg_eq | refine rg_fr (by assumption) (by first | decide | (simp; omega)) ?_)) rfl ?_
    refine a_iload_n 6 dX12_readsFigure_5 rfl rfl ?_
    rw [h7]
    refine a_icmp_ge 26 9 dX12_readsFigure_6 rfl (by decide) (fun c_6 => ?_) (fun c_6 => ?_)
    · refine a_bipush (-9) 28 dX12_readsFigure_26 rfl (by decide) ?_
      rw [hVn c_6]
      refine a_put fd_X12_121 cl_X12 rfl 31 dX12_readsFigure_28 rfl (by repeat (first | assumption | (refine rg_ne (by first | decide | omega) ?_) | apply rg_eq | refine rg_fr (by assumption) (by first | decide | (simp; omega)) ?_)) (Nat.le_of_ble_eq_true rfl) rfl rfl rfl ?_
      refine a_aload_n 32 dX12_readsFigure_31 rfl rfl ?_
      refine a_get fd_X12_121 rfl 35 dX12_readsFigure_32 rfl (by repeat (first | assumption | (refine rg_ne (by first | decide | omega) ?_) | apply rg_eq | refine rg_fr (by assumption) (by first | decide | (simp; omega)) ?_)) rfl ?_
      refine a_i2l 36 dX12_readsFigure_35 rfl ?_
      refine a_iload_n 37 dX12_readsFigure_36 rfl rfl ?_
      refine a_i2l 38 dX12_readsFigure_37 rfl ?_
      refine a_iload 40 dX12_readsFigure_38 rfl rfl ?_
      refine a_i2l 41 dX12_readsFigure_40 rfl ?_
      refine a_callS ok_X12_in ln_X12_97 is_X12_in rfl 44 dX12_readsFigure_41 rfl (k_X12_in _ _ _) rfl rfl ⟨(Nat.le_of_ble_eq_true rfl), (Nat.le_of_ble_eq_true rfl)⟩ (Nat.le_of_ble_eq_true rfl) ⟨(Nat.le_of_ble_eq_true rfl), (Nat.le_of_ble_eq_true rfl)⟩ ?_
      rintro _ _ ⟨rfl, rfl⟩
      rw [e44]
      refine a_istore 46 dX12_readsFigure_44 rfl (by decide) ?_
      refine a_aload_n 47 dX12_readsFigure_46 rfl rfl ?_
      refine a_dup 48 dX12_readsFigure_47 rfl rfl ?_
      refine a_get fd_X12_118 rfl 51 dX12_readsFigure_48 rfl (by repeat (first | assumption | (refine rg_ne (by first | decide | omega) ?_) | apply rg_eq | refine rg_fr (by assumption) (by first | decide | (simp; omega)) ?_)) rfl ?_
      refine a_iload 53 dX12_readsFigure_51 rfl rfl ?_
      refine a_if_eq 60 56 dX12_readsFigure_53 rfl (by decide) (fun c_53 => absurd c_53 (by decide)) (fun c_53 => ?_)
      refine a_iconst (1) 57 dX12_readsFigure_56 rfl (by decide) ?_
      refine a_goto 61 dX12_readsFigure_57 (by decide) ?_
      rw [h7]
      refine a_iadd 62 dX12_readsFigure_61 rfl ?_
      rw [nI_1]
      refine a_put fd_X12_118 cl_X12 rfl 65 dX12_readsFigure_62 rfl (by repeat (first | assumption | (refine rg_ne (by first | decide | omega) ?_) | apply rg_eq | refine rg_fr (by assumption) (by first | decide | (simp; omega)) ?_)) (Nat.le_of_ble_eq_true rfl) rfl rfl rfl ?_
      refine a_iload 67 dX12_readsFigure_65 rfl rfl ?_
      exact a_ireturn dX12_readsFigure_67 rfl rfl (Nat.le_of_ble_eq_true rfl) (Nat.le_of_ble_eq_true rfl) ⟨rfl, upd (upd i 8 V) 7 _, rg_eq (rg_eq hm), pk_us, rfl, fun k hk hk2 => (pk_un hk).trans (pk_un hk2), fr_set (fr_set (fr_refl _ _) (by decide)) (by decide)⟩
    · refine a_aload_n 10 dX12_readsFigure_9 rfl rfl ?_
      refine a_get fd_X12_71 rfl 13 dX12_readsFigure_10 rfl (by repeat (first | assumption | (refine rg_ne (by first | decide | omega) ?_) | apply rg_eq | refine rg_fr (by assumption) (by first | decide | (simp; omega)) ?_)) rfl ?_
      refine a_iload_n 14 dX12_readsFigure_13 rfl rfl ?_
      refine a_aload_n 15 dX12_readsFigure_14 rfl rfl ?_
      refine a_get fd_X12_118 rfl 18 dX12_readsFigure_15 rfl (by repeat (first | assumption | (refine rg_ne (by first | decide | omega) ?_) | apply rg_eq | refine rg_fr (by assumption) (by first | decide | (simp; omega)) ?_)) rfl ?_
      refine a_iadd 19 dX12_readsFigure_18 rfl ?_
      rw [h7, nI_add]
      refine a_iaload 20 dX12_readsFigure_19 rfl (by repeat (first | assumption | (refine rg_ne (by first | decide | omega) ?_) | apply rg_eq | refine rg_fr (by assumption) (by first | decide | (simp; omega)) ?_)) (v19 (hpN c_6)) ?_
      rw [c19]
      refine a_bipush (48) 22 dX12_readsFigure_20 rfl (by decide) ?_
      refine a_isub 23 dX12_readsFigure_22 rfl ?_
      refine a_goto 28 dX12_readsFigure_23 (by decide) ?_
      rw [hVp (hpN c_6)]
      refine a_put fd_X12_121 cl_X12 rfl 31 dX12_readsFigure_28 rfl (by repeat (first | assumption | (refine rg_ne (by first | decide | omega) ?_) | apply rg_eq | refine rg_fr (by assumption) (by first | decide | (simp; omega)) ?_)) (Nat.le_of_ble_eq_true rfl) rfl rfl rfl ?_
      refine a_aload_n 32 dX12_readsFigure_31 rfl rfl ?_
      refine a_get fd_X12_121 rfl 35 dX12_readsFigure_32 rfl (by repeat (first | assumption | (refine rg_ne (by first | decide | omega) ?_) | apply rg_eq | refine rg_fr (by assumption) (by first | decide | (simp; omega)) ?_)) rfl ?_
      refine a_i2l 36 dX12_readsFigure_35 rfl ?_
      refine a_iload_n 37 dX12_readsFigure_36 rfl rfl ?_
      refine a_i2l 38 dX12_readsFigure_37 rfl ?_
      refine a_iload 40 dX12_readsFigure_38 rfl rfl ?_
      refine a_i2l 41 dX12_readsFigure_40 rfl ?_
      refine a_callS ok_X12_in ln_X12_97 is_X12_in rfl 44 dX12_readsFigure_41 rfl (k_X12_in _ _ _) rfl rfl ⟨(Nat.le_of_ble_eq_true rfl), (Nat.le_of_ble_eq_true rfl)⟩ (Nat.le_of_ble_eq_true rfl) ⟨(Nat.le_of_ble_eq_true rfl), (Nat.le_of_ble_eq_true rfl)⟩ ?_
      rintro _ _ ⟨rfl, rfl⟩
      rw [e44]
      refine a_istore 46 dX12_readsFigure_44 rfl (by decide) ?_
      refine a_aload_n 47 dX12_readsFigure_46 rfl rfl ?_
      refine a_dup 48 dX12_readsFigure_47 rfl rfl ?_
      refine a_get fd_X12_118 rfl 51 dX12_readsFigure_48 rfl (by repeat (first | assumption | (refine rg_ne (by first | decide | omega) ?_) | apply rg_eq | refine rg_fr (by assumption) (by first | decide | (simp; omega)) ?_)) rfl ?_
      refine a_iload 53 dX12_readsFigure_51 rfl rfl ?_
      refine a_if_eq 60 56 dX12_readsFigure_53 rfl (by decide) (fun c_53 => absurd c_53 (by decide)) (fun c_53 => ?_)
      refine a_iconst (1) 57 dX12_readsFigure_56 rfl (by decide) ?_
      refine a_goto 61 dX12_readsFigure_57 (by decide) ?_
      rw [h7]
      refine a_iadd 62 dX12_readsFigure_61 rfl ?_
      rw [nI_1]
      refine a_put fd_X12_118 cl_X12 rfl 65 dX12_readsFigure_62 rfl (by repeat (first | assumption | (refine rg_ne (by first | decide | omega) ?_) | apply rg_eq | refine rg_fr (by assumption) (by first | decide | (simp; omega)) ?_)) (Nat.le_of_ble_eq_true rfl) rfl rfl rfl ?_
      refine a_iload 67 dX12_readsFigure_65 rfl rfl ?_
      exact a_ireturn dX12_readsFigure_67 rfl rfl (Nat.le_of_ble_eq_true rfl) (Nat.le_of_ble_eq_true rfl) ⟨rfl, upd (upd i 8 V) 7 _, rg_eq (rg_eq hm), pk_us, rfl, fun k hk hk2 => (pk_un hk).trans (pk_un hk2), fr_set (fr_set (fr_refl _ _) (by decide)) (by decide)⟩
  · rw [if_neg C, if_neg C]
    have e44 : (if a.toInt64 ≤ V.toInt64 ∧ V.toInt64 ≤ b.toInt64 then (1 : Int32) else 0) = 0 := if_neg (fun u => C (hin.mp u))
    refine rM_start (by decide) (Nat.le_of_ble_eq_true rfl) ?_
    refine a_aload_n 1 dX12_readsFigure_0 rfl rfl ?_
    refine a_aload_n 2 dX12_readsFigure_1 rfl rfl ?_
    refine a_get fd_X12_118 rfl 5 dX12_readsFigure_2 rfl (by repeat (first | assumption | (refine rg_ne (by first | decide | omega) ?_) | apply rg_eq | refine rg_fr (by assumption) (by first | decide | (simp; omega)) ?_)) rfl ?_
    refine a_iload_n 6 dX12_readsFigure_5 rfl rfl ?_
    rw [h7]
    refine a_icmp_ge 26 9 dX12_readsFigure_6 rfl (by decide) (fun c_6 => ?_) (fun c_6 => ?_)
    · refine a_bipush (-9) 28 dX12_readsFigure_26 rfl (by decide) ?_
      rw [hVn c_6]
      refine a_put fd_X12_121 cl_X12 rfl 31 dX12_readsFigure_28 rfl (by repeat (first | assumption | (refine rg_ne (by first | decide | omega) ?_) | apply rg_eq | refine rg_fr (by assumption) (by first | decide | (simp; omega)) ?_)) (Nat.le_of_ble_eq_true rfl) rfl rfl rfl ?_
      refine a_aload_n 32 dX12_readsFigure_31 rfl rfl ?_
      refine a_get fd_X12_121 rfl 35 dX12_readsFigure_32 rfl (by repeat (first | assumption | (refine rg_ne (by first | decide | omega) ?_) | apply rg_eq | refine rg_fr (by assumption) (by first | decide | (simp; omega)) ?_)) rfl ?_
      refine a_i2l 36 dX12_readsFigure_35 rfl ?_
      refine a_iload_n 37 dX12_readsFigure_36 rfl rfl ?_
      refine a_i2l 38 dX12_readsFigure_37 rfl ?_
      refine a_iload 40 dX12_readsFigure_38 rfl rfl ?_
      refine a_i2l 41 dX12_readsFigure_40 rfl ?_
      refine a_callS ok_X12_in ln_X12_97 is_X12_in rfl 44 dX12_readsFigure_41 rfl (k_X12_in _ _ _) rfl rfl ⟨(Nat.le_of_ble_eq_true rfl), (Nat.le_of_ble_eq_true rfl)⟩ (Nat.le_of_ble_eq_true rfl) ⟨(Nat.le_of_ble_eq_true rfl), (Nat.le_of_ble_eq_true rfl)⟩ ?_
      rintro _ _ ⟨rfl, rfl⟩
      rw [e44]
      refine a_istore 46 dX12_readsFigure_44 rfl (by decide) ?_
      refine a_aload_n 47 dX12_readsFigure_46 rfl rfl ?_
      refine a_dup 48 dX12_readsFigure_47 rfl rfl ?_
      refine a_get fd_X12_118 rfl 51 dX12_readsFigure_48 rfl (by repeat (first | assumption | (refine rg_ne (by first | decide | omega) ?_) | apply rg_eq | refine rg_fr (by assumption) (by first | decide | (simp; omega)) ?_)) rfl ?_
      refine a_iload 53 dX12_readsFigure_51 rfl rfl ?_
      refine a_if_eq 60 56 dX12_readsFigure_53 rfl (by decide) (fun c_53 => ?_) (fun c_53 => absurd rfl c_53)
      refine a_iconst (0) 61 dX12_readsFigure_60 rfl (by decide) ?_
      rw [h7]
      refine a_iadd 62 dX12_readsFigure_61 rfl ?_
      rw [show nI p + 0 = nI p from Int32.add_zero _]
      refine a_put fd_X12_118 cl_X12 rfl 65 dX12_readsFigure_62 rfl (by repeat (first | assumption | (refine rg_ne (by first | decide | omega) ?_) | apply rg_eq | refine rg_fr (by assumption) (by first | decide | (simp; omega)) ?_)) (Nat.le_of_ble_eq_true rfl) rfl rfl rfl ?_
      refine a_iload 67 dX12_readsFigure_65 rfl rfl ?_
      exact a_ireturn dX12_readsFigure_67 rfl rfl (Nat.le_of_ble_eq_true rfl) (Nat.le_of_ble_eq_true rfl) ⟨rfl, upd (upd i 8 V) 7 _, rg_eq (rg_eq hm), pk_us, rfl, fun k hk hk2 => (pk_un hk).trans (pk_un hk2), fr_set (fr_set (fr_refl _ _) (by decide)) (by decide)⟩
    · refine a_aload_n 10 dX12_readsFigure_9 rfl rfl ?_
      refine a_get fd_X12_71 rfl 13 dX12_readsFigure_10 rfl (by repeat (first | assumption | (refine rg_ne (by first | decide | omega) ?_) | apply rg_eq | refine rg_fr (by assumption) (by first | decide | (simp; omega)) ?_)) rfl ?_
      refine a_iload_n 14 dX12_readsFigure_13 rfl rfl ?_
      refine a_aload_n 15 dX12_readsFigure_14 rfl rfl ?_
      refine a_get fd_X12_118 rfl 18 dX12_readsFigure_15 rfl (by repeat (first | assumption | (refine rg_ne (by first | decide | omega) ?_) | apply rg_eq | refine rg_fr (by assumption) (by first | decide | (simp; omega)) ?_)) rfl ?_
      refine a_iadd 19 dX12_readsFigure_18 rfl ?_
      rw [h7, nI_add]
      refine a_iaload 20 dX12_readsFigure_19 rfl (by repeat (first | assumption | (refine rg_ne (by first | decide | omega) ?_) | apply rg_eq | refine rg_fr (by assumption) (by first | decide | (simp; omega)) ?_)) (v19 (hpN c_6)) ?_
      rw [c19]
      refine a_bipush (48) 22 dX12_readsFigure_20 rfl (by decide) ?_
      refine a_isub 23 dX12_readsFigure_22 rfl ?_
      refine a_goto 28 dX12_readsFigure_23 (by decide) ?_
      rw [hVp (hpN c_6)]
      refine a_put fd_X12_121 cl_X12 rfl 31 dX12_readsFigure_28 rfl (by repeat (first | assumption | (refine rg_ne (by first | decide | omega) ?_) | apply rg_eq | refine rg_fr (by assumption) (by first | decide | (simp; omega)) ?_)) (Nat.le_of_ble_eq_true rfl) rfl rfl rfl ?_
      refine a_aload_n 32 dX12_readsFigure_31 rfl rfl ?_
      refine a_get fd_X12_121 rfl 35 dX12_readsFigure_32 rfl (by repeat (first | assumption | (refine rg_ne (by first | decide | omega) ?_) | apply rg_eq | refine rg_fr (by assumption) (by first | decide | (simp; omega)) ?_)) rfl ?_
      refine a_i2l 36 dX12_readsFigure_35 rfl ?_
      refine a_iload_n 37 dX12_readsFigure_36 rfl rfl ?_
      refine a_i2l 38 dX12_readsFigure_37 rfl ?_
      refine a_iload 40 dX12_readsFigure_38 rfl rfl ?_
      refine a_i2l 41 dX12_readsFigure_40 rfl ?_
      refine a_callS ok_X12_in ln_X12_97 is_X12_in rfl 44 dX12_readsFigure_41 rfl (k_X12_in _ _ _) rfl rfl ⟨(Nat.le_of_ble_eq_true rfl), (Nat.le_of_ble_eq_true rfl)⟩ (Nat.le_of_ble_eq_true rfl) ⟨(Nat.le_of_ble_eq_true rfl), (Nat.le_of_ble_eq_true rfl)⟩ ?_
      rintro _ _ ⟨rfl, rfl⟩
      rw [e44]
      refine a_istore 46 dX12_readsFigure_44 rfl (by decide) ?_
      refine a_aload_n 47 dX12_readsFigure_46 rfl rfl ?_
      refine a_dup 48 dX12_readsFigure_47 rfl rfl ?_
      refine a_get fd_X12_118 rfl 51 dX12_readsFigure_48 rfl (by repeat (first | assumption | (refine rg_ne (by first | decide | omega) ?_) | apply rg_eq | refine rg_fr (by assumption) (by first | decide | (simp; omega)) ?_)) rfl ?_
      refine a_iload 53 dX12_readsFigure_51 rfl rfl ?_
      refine a_if_eq 60 56 dX12_readsFigure_53 rfl (by decide) (fun c_53 => ?_) (fun c_53 => absurd rfl c_53)
      refine a_iconst (0) 61 dX12_readsFigure_60 rfl (by decide) ?_
      rw [h7]
      refine a_iadd 62 dX12_readsFigure_61 rfl ?_
      rw [show nI p + 0 = nI p from Int32.add_zero _]
      refine a_put fd_X12_118 cl_X12 rfl 65 dX12_readsFigure_62 rfl (by repeat (first | assumption | (refine rg_ne (by first | decide | omega) ?_) | apply rg_eq | refine rg_fr (by assumption) (by first | decide | (simp; omega)) ?_)) (Nat.le_of_ble_eq_true rfl) rfl rfl rfl ?_
      refine a_iload 67 dX12_readsFigure_65 rfl rfl ?_
      exact a_ireturn dX12_readsFigure_67 rfl rfl (Nat.le_of_ble_eq_true rfl) (Nat.le_of_ble_eq_true rfl) ⟨rfl, upd (upd i 8 V) 7 _, rg_eq (rg_eq hm), pk_us, rfl, fun k hk hk2 => (pk_un hk).trans (pk_un hk2), fr_set (fr_set (fr_refl _ _) (by decide)) (by decide)⟩
theorem tb_1 {P : Prop} [Decidable P] (h : ¬ (if P then (1 : Int32) else 0) = 0) : P := Decidable.not_not.mp (fun u => h (if_neg u))
abbrev codW (w : Nat → Int32) (s : Nat) : Nat → Int32 := fun p => w (s + p)
theorem carS_0 {code : Nat → Int32} (C0 : ¬ (0 < N ∧ code 0 = 99)) : carS (code) N = .inl 0 := if_pos C0
theorem carS_1 {code : Nat → Int32} (C0 : 0 < N ∧ code 0 = 99) (C1 : ¬ (1 < N ∧ (49 ≤ code 1 ∧ code 1 ≤ 56))) : carS (code) N = .inl 1 := (if_neg (fun u => u C0)).trans (if_pos C1)
theorem carS_2 {code : Nat → Int32} (C0 : 0 < N ∧ code 0 = 99) (C1 : 1 < N ∧ (49 ≤ code 1 ∧ code 1 ≤ 56)) (C2 : ¬ (2 < N ∧ (49 ≤ code 2 ∧ code 2 ≤ 52))) : carS (code) N = .inl 2 := (if_neg (fun u => u C0)).trans ((if_neg (fun u => u C1)).trans (if_pos C2))
abbrev car4 (code : Nat → Int32) (N : Nat) : Nat := if 3 < N ∧ code 3 = 109 then 4 else 3
theorem carS_4 {code : Nat → Int32} (C0 : 0 < N ∧ code 0 = 99) (C1 : 1 < N ∧ (49 ≤ code 1 ∧ code 1 ≤ 56)) (C2 : 2 < N ∧ (49 ≤ code 2 ∧ code 2 ≤ 52)) (C4 : ¬ (car4 code N < N ∧ code (car4 code N) = 59)) : carS (code) N = .inl (car4 code N) := (if_neg (fun u => u C0)).trans ((if_neg (fun u => u C1)).trans ((if_neg (fun u => u C2)).trans (if_pos C4)))
def carE (N : Nat) (mir : Bool) (le wi : Nat) (o : Option Nat) : Sum Nat (Nat × Nat × Bool) := match o with
  | some j => .inl (carK mir + j)
  | none => if carK mir + le * wi = N then .inr (le, wi, mir) else .inl (carK mir + le * wi)
theorem carS_5 {code : Nat → Int32} {le wi : Nat} (C0 : 0 < N ∧ code 0 = 99) (C1 : 1 < N ∧ (49 ≤ code 1 ∧ code 1 ≤ 56)) (C2 : 2 < N ∧ (49 ≤ code 2 ∧ code 2 ≤ 52)) (C4 : car4 code N < N ∧ code (car4 code N) = 59) (e1 : (code 1 - 48).toNatClampNeg = le) (e2 : (code 2 - 48).toNatClampNeg = wi) : carS (code) N = carE N (decide (3 < N ∧ code 3 = 109)) le wi (firstN (carFace (code) N (carK (decide (3 < N ∧ code 3 = 109)))) (le * wi) 0) := by
  subst e1; subst e2
  exact (if_neg (fun u => u C0)).trans ((if_neg (fun u => u C1)).trans ((if_neg (fun u => u C2)).trans (if_neg (fun u => u C4))))
theorem car4_K {code : Nat → Int32} : car4 code N + 1 = carK (decide (3 < N ∧ code 3 = 109)) := by
  unfold car4 carK
  by_cases C : 3 < N ∧ code 3 = 109
  · rw [if_pos C, if_pos (decide_eq_true C)]
  · rw [if_neg C, if_neg (by rw [decide_eq_false C]; decide)]
theorem bI_dec {P : Prop} [Decidable P] : (if P then (1 : Int32) else 0) = bI (decide P) := by
  by_cases C : P
  · rw [if_pos C, decide_eq_true C]; rfl
  · rw [if_neg C, decide_eq_false C]; rfl
theorem fN_t {P : Nat → Bool} {r q : Nat} (h : P q = true) : firstN P (r + 1) q = some q := by rw [firstN, if_pos h]
theorem fN_f {P : Nat → Bool} {r q : Nat} (h : P q = false) : firstN P (r + 1) q = firstN P r (q + 1) := by rw [firstN, if_neg (by rw [h]; decide)]
theorem cF_t {code : Nat → Int32} {k c : Nat} (h : ¬ (k + c < N ∧ 0 ≤ faceBI (code (k + c)))) : carFace code N k c = true := decide_eq_true h
theorem cF_f {code : Nat → Int32} {k c : Nat} (h : k + c < N ∧ 0 ≤ faceBI (code (k + c))) : carFace code N k c = false := decide_eq_false (fun u => u h)
def carPost (w : Nat → Int32) (s N : Nat) (i' fa : Nat → Int32) (v : Option Value) (X : Sum Nat (Nat × Nat × Bool)) : Prop := match X with
  | .inl p => v = some (.int 0) ∧ i' 7 = nI p ∧ p ≤ 60
  | .inr (le, wi, mir) => v = some (.int 1) ∧ i' 9 = nI le ∧ i' 10 = nI wi ∧ i' 11 = bI mir ∧ 1 ≤ le ∧ le < 9 ∧ 1 ≤ wi ∧ wi < 5 ∧ carK mir + le * wi = N ∧ ∀ c, c < le * wi → fa c = faceBI (w (s + (carK mir + c))) ∧ 0 ≤ faceBI (w (s + (carK mir + c)))
abbrev carQ (G : rG) (h : rH) (i : Nat → Int32) (j : Nat → Int64) (w : Nat → Int32) (s N : Nat) (X : Sum Nat (Nat × Nat × Bool)) : rH → Option Value → Prop := fun h' v => ∃ i' fa, h'[38]? = some (mo G i' j) ∧ h'[42]? = some (.inl (gA G 0, 32, .inl fa)) ∧ sameI i i' ∧ fr h h' [38, 42] ∧ carPost w s N i' fa v X
theorem fa_st {w fa : Nat → Int32} {s k c : Nat} (hfa : ∀ t, t < c → fa t = faceBI (w (s + (k + t))) ∧ 0 ≤ faceBI (w (s + (k + t)))) (h0 : 0 ≤ faceBI (w (s + (k + c)))) {t : Nat} (ht : t < c + 1) : upd fa c (faceBI (w (s + (k + c)))) t = faceBI (w (s + (k + t))) ∧ 0 ≤ faceBI (w (s + (k + t))) := by
  by_cases e : t = c
  · subst e; rw [pk_us]; exact ⟨rfl, h0⟩
  · rw [pk_un e]; exact hfa t (by omega)
set_option maxRecDepth 100000 in
set_option maxHeartbeats 400000 in
theorem carL (h59 : h[59]? = some (.inl (gA G 0, 240, .inl w))) (hsN : s + N ≤ 240) (hN : N ≤ 60) {le wi : Nat} {mir : Bool} (l1 : 1 ≤ le) (l2 : le < 9) (w1 : 1 ≤ wi) (w2 : wi < 5) : ∀ (r c : Nat) (y : Int32) (i1 fa : Nat → Int32) (h1 : rH), c + r = le * wi → y = nI c → i1 7 = nI (carK mir + c) → carK mir + c ≤ N → i1 9 = nI le → i1 10 = nI wi → i1 11 = bI mir → sameI i i1 → h1[38]? = some (mo G i1 j) → h1[42]? = some (.inl (gA G 0, 32, .inl fa)) → (∀ t, t < c → fa t = faceBI (w (s + (carK mir + t))) ∧ 0 ≤ faceBI (w (s + (carK mir + t)))) → firstN (carFace (codW w s) N (carK mir)) (le * wi) 0 = firstN (carFace (codW w s) N (carK mir)) r c → fr h h1 [38, 42] → rW l G (rRm 2 0 0) mX12_readsCarriage (rZ G (carQ G h i j w s N (carE N mir le wi (firstN (carFace (codW w s) N (carK mir)) (le * wi) 0))) 0 0) 0 0 86 [some (.ref (gN G + 38)), some (.int (nI s)), some (.int (nI N)), some (.int y)] [] h1 := by
  have hlw : le * wi ≤ 8 * 4 := Nat.mul_le_mul (by omega) (by omega)
  intro r
  induction r with
  | zero =>
    intro c y i1 fa h1 hc hy g7 hcN g9 g10 g11 hs e38 e42 hfa hF hf
    subst hy
    have ec : c = le * wi := by omega
    subst ec
    rw [hF]
    refine a_iload_n 87 dX12_readsCarriage_86 rfl rfl ?_
    refine a_aload_n 88 dX12_readsCarriage_87 rfl rfl ?_
    refine a_get fd_X12_132 rfl 91 dX12_readsCarriage_88 rfl (by repeat (first | assumption | (refine rg_ne (by first | decide | omega) ?_) | apply rg_eq | refine rg_fr (by assumption) (by first | decide | (simp; omega)) ?_)) rfl ?_
    refine a_aload_n 92 dX12_readsCarriage_91 rfl rfl ?_
    refine a_get fd_X12_135 rfl 95 dX12_readsCarriage_92 rfl (by repeat (first | assumption | (refine rg_ne (by first | decide | omega) ?_) | apply rg_eq | refine rg_fr (by assumption) (by first | decide | (simp; omega)) ?_)) rfl ?_
    refine a_imul 96 dX12_readsCarriage_95 rfl ?_
    rw [g9, g10, pk_mul]
    refine a_icmp_ge 159 99 dX12_readsCarriage_96 rfl (by decide) (fun c_96 => ?_) (fun c_96 => absurd (Int32.le_refl _) c_96)
    refine a_aload_n 160 dX12_readsCarriage_159 rfl rfl ?_
    refine a_get fd_X12_118 rfl 163 dX12_readsCarriage_160 rfl (by repeat (first | assumption | (refine rg_ne (by first | decide | omega) ?_) | apply rg_eq | refine rg_fr (by assumption) (by first | decide | (simp; omega)) ?_)) rfl ?_
    refine a_iload_n 164 dX12_readsCarriage_163 rfl rfl ?_
    rw [g7]
    refine a_icmp_ne 171 167 dX12_readsCarriage_164 rfl (by decide) (fun c_164 => ?_) (fun c_164 => ?_)
    · refine a_iconst (0) 172 dX12_readsCarriage_171 rfl (by decide) ?_
      exact a_ireturn dX12_readsCarriage_172 rfl rfl (Nat.le_of_ble_eq_true rfl) (Nat.le_of_ble_eq_true rfl) ⟨i1, fa, e38, e42, hs, hf, (show carPost w s N i1 fa _ (if carK mir + le * wi = N then .inr (le, wi, mir) else .inl (carK mir + le * wi)) by rw [if_neg (fun u => c_164 (congrArg nI u))]; exact ⟨rfl, g7, by omega⟩)⟩
    · refine a_iconst (1) 168 dX12_readsCarriage_167 rfl (by decide) ?_
      refine a_goto 172 dX12_readsCarriage_168 (by decide) ?_
      exact a_ireturn dX12_readsCarriage_172 rfl rfl (Nat.le_of_ble_eq_true rfl) (Nat.le_of_ble_eq_true rfl) ⟨i1, fa, e38, e42, hs, hf, (show carPost w s N i1 fa _ (if carK mir + le * wi = N then .inr (le, wi, mir) else .inl (carK mir + le * wi)) by rw [if_pos ((nI_eq (by omega) (by omega)).mp c_164)]; exact ⟨rfl, g9, g10, g11, l1, l2, w1, w2, (nI_eq (by omega) (by omega)).mp c_164, hfa⟩)⟩
  | succ r ih =>
    intro c y i1 fa h1 hc hy g7 hcN g9 g10 g11 hs e38 e42 hfa hF hf
    subst hy
    have vc : vp_in (nI c) 32 := vp_in_nI (by omega) (by decide)
    have cc : (nI c).toNatClampNeg = c := nI_clamp (by omega)
    have e59 := rg_fr hf (by decide) h59
    have hpN : ¬ nI N ≤ nI (carK mir + c) → carK mir + c < N := fun u => Decidable.not_not.mp (fun x => u (nI_le (by omega) (by omega)))
    have hpn : nI N ≤ nI (carK mir + c) → ¬ carK mir + c < N := fun u x => nI_ge x (by omega) u
    have v122 : carK mir + c < N → vp_in (nI (s + (carK mir + c))) 240 := fun u => vp_in_nI (by omega) (by decide)
    have c122 : (nI (s + (carK mir + c))).toNatClampNeg = s + (carK mir + c) := nI_clamp (by omega)
    refine a_iload_n 87 dX12_readsCarriage_86 rfl rfl ?_
    refine a_aload_n 88 dX12_readsCarriage_87 rfl rfl ?_
    refine a_get fd_X12_132 rfl 91 dX12_readsCarriage_88 rfl (by repeat (first | assumption | (refine rg_ne (by first | decide | omega) ?_) | apply rg_eq | refine rg_fr (by assumption) (by first | decide | (simp; omega)) ?_)) rfl ?_
    refine a_aload_n 92 dX12_readsCarriage_91 rfl rfl ?_
    refine a_get fd_X12_135 rfl 95 dX12_readsCarriage_92 rfl (by repeat (first | assumption | (refine rg_ne (by first | decide | omega) ?_) | apply rg_eq | refine rg_fr (by assumption) (by first | decide | (simp; omega)) ?_)) rfl ?_
    refine a_imul 96 dX12_readsCarriage_95 rfl ?_
    rw [g9, g10, pk_mul]
    refine a_icmp_ge 159 99 dX12_readsCarriage_96 rfl (by decide) (fun c_96 => absurd c_96 (nI_ge (a := c) (b := le * wi) (by omega) (by omega))) (fun c_96 => ?_)
    refine a_aload_n 100 dX12_readsCarriage_99 rfl rfl ?_
    refine a_get fd_X12_20 rfl 103 dX12_readsCarriage_100 rfl (by repeat (first | assumption | (refine rg_ne (by first | decide | omega) ?_) | apply rg_eq | refine rg_fr (by assumption) (by first | decide | (simp; omega)) ?_)) rfl ?_
    refine a_iload_n 104 dX12_readsCarriage_103 rfl rfl ?_
    refine a_aload_n 105 dX12_readsCarriage_104 rfl rfl ?_
    refine a_get fd_X12_118 rfl 108 dX12_readsCarriage_105 rfl (by repeat (first | assumption | (refine rg_ne (by first | decide | omega) ?_) | apply rg_eq | refine rg_fr (by assumption) (by first | decide | (simp; omega)) ?_)) rfl ?_
    refine a_iload_n 109 dX12_readsCarriage_108 rfl rfl ?_
    rw [g7]
    refine a_icmp_ge 129 112 dX12_readsCarriage_109 rfl (by decide) (fun c_109 => ?_) (fun c_109 => ?_)
    · refine a_bipush (-9) 131 dX12_readsCarriage_129 rfl (by decide) ?_
      refine a_iastore 132 dX12_readsCarriage_131 rfl (by repeat (first | assumption | (refine rg_ne (by first | decide | omega) ?_) | apply rg_eq | refine rg_fr (by assumption) (by first | decide | (simp; omega)) ?_)) vc ?_
      refine a_aload_n 133 dX12_readsCarriage_132 rfl rfl ?_
      refine a_get fd_X12_20 rfl 136 dX12_readsCarriage_133 rfl (by repeat (first | assumption | (refine rg_ne (by first | decide | omega) ?_) | apply rg_eq | refine rg_fr (by assumption) (by first | decide | (simp; omega)) ?_)) rfl ?_
      refine a_iload_n 137 dX12_readsCarriage_136 rfl rfl ?_
      refine a_iaload 138 dX12_readsCarriage_137 rfl (by repeat (first | assumption | (refine rg_ne (by first | decide | omega) ?_) | apply rg_eq | refine rg_fr (by assumption) (by first | decide | (simp; omega)) ?_)) vc ?_
      rw [cc, pk_us]
      refine a_if_ge 143 141 dX12_readsCarriage_138 rfl (by decide) (fun c_138 => absurd c_138 (by decide)) (fun c_138 => ?_)
      refine a_iconst (0) 142 dX12_readsCarriage_141 rfl (by decide) ?_
      exact a_ireturn dX12_readsCarriage_142 rfl rfl (Nat.le_of_ble_eq_true rfl) (Nat.le_of_ble_eq_true rfl) ⟨i1, _, rg_ne (by decide) e38, rg_eq e42, hs, fr_set hf (by decide), by rw [hF, fN_t (cF_t (code := codW w s) (N := N) (k := carK mir) (c := c) (fun u => hpn c_109 u.1))]; exact ⟨rfl, g7, by omega⟩⟩
    · refine a_aload_n 113 dX12_readsCarriage_112 rfl rfl ?_
      refine a_get fd_X12_71 rfl 116 dX12_readsCarriage_113 rfl (by repeat (first | assumption | (refine rg_ne (by first | decide | omega) ?_) | apply rg_eq | refine rg_fr (by assumption) (by first | decide | (simp; omega)) ?_)) rfl ?_
      refine a_iload_n 117 dX12_readsCarriage_116 rfl rfl ?_
      refine a_aload_n 118 dX12_readsCarriage_117 rfl rfl ?_
      refine a_get fd_X12_118 rfl 121 dX12_readsCarriage_118 rfl (by repeat (first | assumption | (refine rg_ne (by first | decide | omega) ?_) | apply rg_eq | refine rg_fr (by assumption) (by first | decide | (simp; omega)) ?_)) rfl ?_
      refine a_iadd 122 dX12_readsCarriage_121 rfl ?_
      rw [g7, nI_add]
      refine a_iaload 123 dX12_readsCarriage_122 rfl (by repeat (first | assumption | (refine rg_ne (by first | decide | omega) ?_) | apply rg_eq | refine rg_fr (by assumption) (by first | decide | (simp; omega)) ?_)) (v122 (hpN c_109)) ?_
      rw [c122]
      refine a_callS ok_X12_faceBy ln_X12_142 is_X12_faceBy rfl 126 dX12_readsCarriage_123 rfl (k_X12_faceBy _) rfl rfl ⟨(Nat.le_of_ble_eq_true rfl), (Nat.le_of_ble_eq_true rfl)⟩ (Nat.le_of_ble_eq_true rfl) ⟨(Nat.le_of_ble_eq_true rfl), (Nat.le_of_ble_eq_true rfl)⟩ ?_
      rintro _ _ ⟨rfl, rfl⟩
      refine a_goto 131 dX12_readsCarriage_126 (by decide) ?_
      refine a_iastore 132 dX12_readsCarriage_131 rfl (by repeat (first | assumption | (refine rg_ne (by first | decide | omega) ?_) | apply rg_eq | refine rg_fr (by assumption) (by first | decide | (simp; omega)) ?_)) vc ?_
      refine a_aload_n 133 dX12_readsCarriage_132 rfl rfl ?_
      refine a_get fd_X12_20 rfl 136 dX12_readsCarriage_133 rfl (by repeat (first | assumption | (refine rg_ne (by first | decide | omega) ?_) | apply rg_eq | refine rg_fr (by assumption) (by first | decide | (simp; omega)) ?_)) rfl ?_
      refine a_iload_n 137 dX12_readsCarriage_136 rfl rfl ?_
      refine a_iaload 138 dX12_readsCarriage_137 rfl (by repeat (first | assumption | (refine rg_ne (by first | decide | omega) ?_) | apply rg_eq | refine rg_fr (by assumption) (by first | decide | (simp; omega)) ?_)) vc ?_
      rw [cc, pk_us]
      refine a_if_ge 143 141 dX12_readsCarriage_138 rfl (by decide) (fun c_138 => ?_) (fun c_138 => ?_)
      · refine a_aload_n 144 dX12_readsCarriage_143 rfl rfl ?_
        refine a_dup 145 dX12_readsCarriage_144 rfl rfl ?_
        refine a_get fd_X12_118 rfl 148 dX12_readsCarriage_145 rfl (by repeat (first | assumption | (refine rg_ne (by first | decide | omega) ?_) | apply rg_eq | refine rg_fr (by assumption) (by first | decide | (simp; omega)) ?_)) rfl ?_
        refine a_iconst (1) 149 dX12_readsCarriage_148 rfl (by decide) ?_
        refine a_iadd 150 dX12_readsCarriage_149 rfl ?_
        rw [g7, nI_1]
        refine a_put fd_X12_118 cl_X12 rfl 153 dX12_readsCarriage_150 rfl (by repeat (first | assumption | (refine rg_ne (by first | decide | omega) ?_) | apply rg_eq | refine rg_fr (by assumption) (by first | decide | (simp; omega)) ?_)) (Nat.le_of_ble_eq_true rfl) rfl rfl rfl ?_
        refine a_iinc _ 156 dX12_readsCarriage_153 rfl rfl (by decide) rfl ?_
        refine a_goto 86 dX12_readsCarriage_156 (by decide) ?_
        exact ih (c + 1) _ (upd i1 7 (nI (carK mir + c + 1))) _ _ (by omega) (nI_1 c) (pk_us.trans (congrArg nI (by omega))) (by have := hpN c_109; omega) g9 g10 g11 hs (rg_eq (rg_ne (by decide) e38)) (rg_ne (by decide) (rg_eq e42)) (fun t ht => fa_st hfa c_138 ht) (hF.trans (fN_f (cF_f ⟨hpN c_109, c_138⟩))) (fr_set (fr_set hf (by decide)) (by decide))
      · refine a_iconst (0) 142 dX12_readsCarriage_141 rfl (by decide) ?_
        exact a_ireturn dX12_readsCarriage_142 rfl rfl (Nat.le_of_ble_eq_true rfl) (Nat.le_of_ble_eq_true rfl) ⟨i1, _, rg_ne (by decide) e38, rg_eq e42, hs, fr_set hf (by decide), by rw [hF, fN_t (cF_t (code := codW w s) (N := N) (k := carK mir) (c := c) (fun u => c_138 u.2))]; exact ⟨rfl, g7, by omega⟩⟩
set_option maxRecDepth 100000 in
set_option maxHeartbeats 400000 in
theorem k_X12_readsCarriage {f : Nat → Int32} (hm : h[38]? = some (mo G i j)) (h59 : h[59]? = some (.inl (gA G 0, 240, .inl w))) (h42 : h[42]? = some (.inl (gA G 0, 32, .inl f))) (hsN : s + N ≤ 240) (hN : N ≤ 60) : rM l G 2 mX12_readsCarriage 0 0 [.ref (gN G + 38), .int (nI s), .int (nI N)] h (carQ G h i j w s N (carS (codW w s) N)) := by
  have k0 : ∀ {i1 : Nat → Int32}, (∀ k, k ≠ 7 → i1 k = upd i 7 0 k) → sameI i i1 := fun u => ⟨u 0 (by decide), u 1 (by decide), u 2 (by decide), u 3 (by decide), u 15 (by decide), u 20 (by decide), u 23 (by decide), u 39 (by decide)⟩
  have kT : ∀ {i1 i2 : Nat → Int32}, sameI i i1 → (∀ k, k ≠ 7 → k ≠ 8 → k ≠ 9 → k ≠ 10 → k ≠ 11 → i2 k = i1 k) → sameI i i2 := fun a u => ⟨(u 0 (by decide) (by decide) (by decide) (by decide) (by decide)).trans a.1, (u 1 (by decide) (by decide) (by decide) (by decide) (by decide)).trans a.2.1, (u 2 (by decide) (by decide) (by decide) (by decide) (by decide)).trans a.2.2.1, (u 3 (by decide) (by decide) (by decide) (by decide) (by decide)).trans a.2.2.2.1, (u 15 (by decide) (by decide) (by decide) (by decide) (by decide)).trans a.2.2.2.2.1, (u 20 (by decide) (by decide) (by decide) (by decide) (by decide)).trans a.2.2.2.2.2.1, (u 23 (by decide) (by decide) (by decide) (by decide) (by decide)).trans a.2.2.2.2.2.2.1, (u 39 (by decide) (by decide) (by decide) (by decide) (by decide)).trans a.2.2.2.2.2.2.2⟩
  have c4N : 3 ≤ N → car4 (codW w s) N ≤ N := fun u => by unfold car4; split <;> omega
  have f0 : ∀ {E : va_E}, fr h (h.set 38 E) [38, 42] := fun {E} => fr_set (fr_refl _ _) (by decide)
  refine rM_start (by decide) (Nat.le_of_ble_eq_true rfl) ?_
  refine a_aload_n 1 dX12_readsCarriage_0 rfl rfl ?_
  refine a_iconst (0) 2 dX12_readsCarriage_1 rfl (by decide) ?_
  refine a_put fd_X12_118 cl_X12 rfl 5 dX12_readsCarriage_2 rfl (by repeat (first | assumption | (refine rg_ne (by first | decide | omega) ?_) | apply rg_eq | refine rg_fr (by assumption) (by first | decide | (simp; omega)) ?_)) (Nat.le_of_ble_eq_true rfl) rfl rfl rfl ?_
  refine a_aload_n 6 dX12_readsCarriage_5 rfl rfl ?_
  refine a_bipush (99) 8 dX12_readsCarriage_6 rfl (by decide) ?_
  refine a_iload_n 9 dX12_readsCarriage_8 rfl rfl ?_
  refine a_iload_n 10 dX12_readsCarriage_9 rfl rfl ?_
  refine a_callV ok_X12_takes ln_X12_124 in_X12_takes rfl 13 dX12_readsCarriage_10 rfl (k_X12_takes (p := 0) (i := upd i 7 0) (rg_eq hm) (rg_ne (by decide) h59) rfl hsN (Nat.zero_le _) 99) (by repeat (first | assumption | (refine rg_ne (by first | decide | omega) ?_) | apply rg_eq | refine rg_fr (by assumption) (by first | decide | (simp; omega)) ?_)) rfl rfl rfl ⟨(Nat.le_of_ble_eq_true rfl), (Nat.le_of_ble_eq_true rfl)⟩ (Nat.le_of_ble_eq_true rfl) ⟨(Nat.le_of_ble_eq_true rfl), (Nat.le_of_ble_eq_true rfl)⟩ ?_
  rintro h1 v ⟨rfl, i1, e1, g1, o1, f1⟩
  have s1 := k0 o1
  have F1 : fr h h1 [38, 42] := fr_trans f0 f1 (by decide)
  refine a_if_eq 28 16 dX12_readsCarriage_13 rfl (by decide) (fun c_13 => ?_) (fun c_13 => ?_)
  · refine a_iconst (0) 29 dX12_readsCarriage_28 rfl (by decide) ?_
    exact a_ireturn dX12_readsCarriage_29 rfl rfl (Nat.le_of_ble_eq_true rfl) (Nat.le_of_ble_eq_true rfl) ⟨i1, f, e1, rg_fr f1 (by decide) (rg_ne (by decide) h42), s1, F1, by rw [carS_0 (b_eq0.mp c_13)]; rw [if_neg (b_eq0.mp c_13)] at g1; exact ⟨rfl, g1, by omega⟩⟩
  · have C0 := tb_1 c_13
    rw [if_pos C0] at g1
    refine a_aload_n 17 dX12_readsCarriage_16 rfl rfl ?_
    refine a_iload_n 18 dX12_readsCarriage_17 rfl rfl ?_
    refine a_iload_n 19 dX12_readsCarriage_18 rfl rfl ?_
    refine a_iconst (1) 20 dX12_readsCarriage_19 rfl (by decide) ?_
    refine a_bipush (8) 22 dX12_readsCarriage_20 rfl (by decide) ?_
    refine a_callV ok_X12_readsFigure ln_X12_128 in_X12_readsFigure rfl 25 dX12_readsCarriage_22 rfl (k_X12_readsFigure (p := 1) e1 (rg_fr f1 (by decide) (rg_ne (by decide) h59)) g1 hsN (by have := C0.1; omega) 1 8) (by repeat (first | assumption | (refine rg_ne (by first | decide | omega) ?_) | apply rg_eq | refine rg_fr (by assumption) (by first | decide | (simp; omega)) ?_)) rfl rfl rfl ⟨(Nat.le_of_ble_eq_true rfl), (Nat.le_of_ble_eq_true rfl)⟩ (Nat.le_of_ble_eq_true rfl) ⟨(Nat.le_of_ble_eq_true rfl), (Nat.le_of_ble_eq_true rfl)⟩ ?_
    rintro h2 v ⟨rfl, i2, e2, g2, u2, o2, f2⟩
    have s2 := kT s1 (fun k a b _ _ _ => o2 k a b)
    have F2 : fr h h2 [38, 42] := fr_trans F1 f2 (by decide)
    refine a_if_ne 30 28 dX12_readsCarriage_25 rfl (by decide) (fun c_25 => ?_) (fun c_25 => ?_)
    · have C1 := (rd_iff (lo := 1) (hi := 8) (by decide) (by decide)).mp (tb_1 c_25)
      rw [if_pos (tb_1 c_25)] at g2
      obtain ⟨le, l1, l2, l3, l4⟩ := dig_N (lo := 49) (hi := 56) (by decide) (by decide) (by decide) C1.2
      refine a_aload_n 31 dX12_readsCarriage_30 rfl rfl ?_
      refine a_aload_n 32 dX12_readsCarriage_31 rfl rfl ?_
      refine a_get fd_X12_121 rfl 35 dX12_readsCarriage_32 rfl (by repeat (first | assumption | (refine rg_ne (by first | decide | omega) ?_) | apply rg_eq | refine rg_fr (by assumption) (by first | decide | (simp; omega)) ?_)) rfl ?_
      rw [show i2 8 = nI le from u2.trans ((if_pos C1.1).trans l3)]
      refine a_put fd_X12_132 cl_X12 rfl 38 dX12_readsCarriage_35 rfl (by repeat (first | assumption | (refine rg_ne (by first | decide | omega) ?_) | apply rg_eq | refine rg_fr (by assumption) (by first | decide | (simp; omega)) ?_)) (Nat.le_of_ble_eq_true rfl) rfl rfl rfl ?_
      refine a_aload_n 39 dX12_readsCarriage_38 rfl rfl ?_
      refine a_iload_n 40 dX12_readsCarriage_39 rfl rfl ?_
      refine a_iload_n 41 dX12_readsCarriage_40 rfl rfl ?_
      refine a_iconst (1) 42 dX12_readsCarriage_41 rfl (by decide) ?_
      refine a_iconst (4) 43 dX12_readsCarriage_42 rfl (by decide) ?_
      refine a_callV ok_X12_readsFigure ln_X12_128 in_X12_readsFigure rfl 46 dX12_readsCarriage_43 rfl (k_X12_readsFigure (p := 2) (i := upd i2 9 (nI le)) (rg_eq e2) (rg_ne (by decide) (rg_fr f2 (by decide) (rg_fr f1 (by decide) (rg_ne (by decide) h59)))) g2 hsN (by have := C1.1; omega) 1 4) (by repeat (first | assumption | (refine rg_ne (by first | decide | omega) ?_) | apply rg_eq | refine rg_fr (by assumption) (by first | decide | (simp; omega)) ?_)) rfl rfl rfl ⟨(Nat.le_of_ble_eq_true rfl), (Nat.le_of_ble_eq_true rfl)⟩ (Nat.le_of_ble_eq_true rfl) ⟨(Nat.le_of_ble_eq_true rfl), (Nat.le_of_ble_eq_true rfl)⟩ ?_
      rintro h3 v ⟨rfl, i3, e3, g3, u3, o3, f3⟩
      have s3 := kT s2 (fun k a b c _ _ => (o3 k a b).trans (pk_un c))
      have F3 : fr h h3 [38, 42] := fr_trans (fr_set F2 (by decide)) f3 (by decide)
      refine a_if_ne 51 49 dX12_readsCarriage_46 rfl (by decide) (fun c_46 => ?_) (fun c_46 => ?_)
      · have C2 := (rd_iff (lo := 1) (hi := 4) (by decide) (by decide)).mp (tb_1 c_46)
        rw [if_pos (tb_1 c_46)] at g3
        obtain ⟨wi, w1, w2, w3, w4⟩ := dig_N (lo := 49) (hi := 52) (by decide) (by decide) (by decide) C2.2
        refine a_aload_n 52 dX12_readsCarriage_51 rfl rfl ?_
        refine a_aload_n 53 dX12_readsCarriage_52 rfl rfl ?_
        refine a_get fd_X12_121 rfl 56 dX12_readsCarriage_53 rfl (by repeat (first | assumption | (refine rg_ne (by first | decide | omega) ?_) | apply rg_eq | refine rg_fr (by assumption) (by first | decide | (simp; omega)) ?_)) rfl ?_
        rw [show i3 8 = nI wi from u3.trans ((if_pos C2.1).trans w3)]
        refine a_put fd_X12_135 cl_X12 rfl 59 dX12_readsCarriage_56 rfl (by repeat (first | assumption | (refine rg_ne (by first | decide | omega) ?_) | apply rg_eq | refine rg_fr (by assumption) (by first | decide | (simp; omega)) ?_)) (Nat.le_of_ble_eq_true rfl) rfl rfl rfl ?_
        refine a_aload_n 60 dX12_readsCarriage_59 rfl rfl ?_
        refine a_aload_n 61 dX12_readsCarriage_60 rfl rfl ?_
        refine a_bipush (109) 63 dX12_readsCarriage_61 rfl (by decide) ?_
        refine a_iload_n 64 dX12_readsCarriage_63 rfl rfl ?_
        refine a_iload_n 65 dX12_readsCarriage_64 rfl rfl ?_
        refine a_callV ok_X12_takes ln_X12_124 in_X12_takes rfl 68 dX12_readsCarriage_65 rfl (k_X12_takes (p := 3) (i := upd i3 10 (nI wi)) (rg_eq e3) (rg_ne (by decide) (rg_fr f3 (by decide) (rg_ne (by decide) (rg_fr f2 (by decide) (rg_fr f1 (by decide) (rg_ne (by decide) h59)))))) g3 hsN (by have := C2.1; omega) 109) (by repeat (first | assumption | (refine rg_ne (by first | decide | omega) ?_) | apply rg_eq | refine rg_fr (by assumption) (by first | decide | (simp; omega)) ?_)) rfl rfl rfl ⟨(Nat.le_of_ble_eq_true rfl), (Nat.le_of_ble_eq_true rfl)⟩ (Nat.le_of_ble_eq_true rfl) ⟨(Nat.le_of_ble_eq_true rfl), (Nat.le_of_ble_eq_true rfl)⟩ ?_
        rintro h4 v ⟨rfl, i4, e4, g4, o4, f4⟩
        have s4 := kT s3 (fun k a _ _ d _ => (o4 k a).trans (pk_un d))
        have F4 : fr h h4 [38, 42] := fr_trans (fr_set F3 (by decide)) f4 (by decide)
        rw [bI_dec]
        refine a_put fd_X12_138 cl_X12 rfl 71 dX12_readsCarriage_68 rfl (by repeat (first | assumption | (refine rg_ne (by first | decide | omega) ?_) | apply rg_eq | refine rg_fr (by assumption) (by first | decide | (simp; omega)) ?_)) (Nat.le_of_ble_eq_true rfl) rfl (nb_bI _) (fb_bI _) ?_
        have h594 : (h4.set 38 (mo G (upd i4 11 (bI (decide (3 < N ∧ w (s + 3) = 109)))) j))[59]? = some (.inl (gA G 0, 240, .inl w)) := rg_ne (by decide) (rg_fr F4 (by decide) h59)
        refine a_aload_n 72 dX12_readsCarriage_71 rfl rfl ?_
        refine a_bipush (59) 74 dX12_readsCarriage_72 rfl (by decide) ?_
        refine a_iload_n 75 dX12_readsCarriage_74 rfl rfl ?_
        refine a_iload_n 76 dX12_readsCarriage_75 rfl rfl ?_
        refine a_callV ok_X12_takes ln_X12_124 in_X12_takes rfl 79 dX12_readsCarriage_76 rfl (k_X12_takes (p := car4 (codW w s) N) (i := upd i4 11 (bI (decide (3 < N ∧ w (s + 3) = 109)))) (rg_eq e4) h594 g4 hsN (c4N (by have := C2.1; omega)) 59) (by repeat (first | assumption | (refine rg_ne (by first | decide | omega) ?_) | apply rg_eq | refine rg_fr (by assumption) (by first | decide | (simp; omega)) ?_)) rfl rfl rfl ⟨(Nat.le_of_ble_eq_true rfl), (Nat.le_of_ble_eq_true rfl)⟩ (Nat.le_of_ble_eq_true rfl) ⟨(Nat.le_of_ble_eq_true rfl), (Nat.le_of_ble_eq_true rfl)⟩ ?_
        rintro h5 v ⟨rfl, i5, e5, g5, o5, f5⟩
        have s5 := kT s4 (fun k a _ _ _ e => (o5 k a).trans (pk_un e))
        have F5 : fr h h5 [38, 42] := fr_trans (fr_set F4 (by decide)) f5 (by decide)
        refine a_if_ne 84 82 dX12_readsCarriage_79 rfl (by decide) (fun c_79 => ?_) (fun c_79 => ?_)
        · refine a_iconst (0) 85 dX12_readsCarriage_84 rfl (by decide) ?_
          refine a_istore_n 86 dX12_readsCarriage_85 rfl (by decide) ?_
          have C4 := tb_1 c_79
          rw [if_pos C4, car4_K] at g5
          rw [carS_5 C0 C1 C2 C4 l4 w4]
          exact carL h59 hsN hN l1 (by omega) w1 (by omega) (le * wi) 0 _ i5 f h5 (by omega) rfl g5 (by have := C4.1; rw [← car4_K]; omega) ((o5 9 (by decide)).trans ((o4 9 (by decide)).trans (o3 9 (by decide) (by decide)))) ((o5 10 (by decide)).trans (o4 10 (by decide))) (o5 11 (by decide)) s5 e5 (rg_fr f5 (by decide) (rg_ne (by decide) (rg_fr f4 (by decide) (rg_ne (by decide) (rg_fr f3 (by decide) (rg_ne (by decide) (rg_fr f2 (by decide) (rg_fr f1 (by decide) (rg_ne (by decide) h42))))))))) (fun t ht => absurd ht (by omega)) rfl F5
        · refine a_iconst (0) 83 dX12_readsCarriage_82 rfl (by decide) ?_
          exact a_ireturn dX12_readsCarriage_83 rfl rfl (Nat.le_of_ble_eq_true rfl) (Nat.le_of_ble_eq_true rfl) ⟨i5, f, e5, rg_fr f5 (by decide) (rg_ne (by decide) (rg_fr f4 (by decide) (rg_ne (by decide) (rg_fr f3 (by decide) (rg_ne (by decide) (rg_fr f2 (by decide) (rg_fr f1 (by decide) (rg_ne (by decide) h42)))))))), s5, F5, by rw [carS_4 C0 C1 C2 (b_eq0.mp c_79)]; rw [if_neg (b_eq0.mp c_79)] at g5; exact ⟨rfl, g5, by have := C2.1; have := c4N (by omega); omega⟩⟩
      · refine a_iconst (0) 50 dX12_readsCarriage_49 rfl (by decide) ?_
        exact a_ireturn dX12_readsCarriage_50 rfl rfl (Nat.le_of_ble_eq_true rfl) (Nat.le_of_ble_eq_true rfl) ⟨i3, f, e3, rg_fr f3 (by decide) (rg_ne (by decide) (rg_fr f2 (by decide) (rg_fr f1 (by decide) (rg_ne (by decide) h42)))), s3, F3, by rw [carS_2 C0 C1 (fun u => b_eq0.mp c_46 ((rd_iff (lo := 1) (hi := 4) (by decide) (by decide)).mpr u))]; rw [if_neg (b_eq0.mp c_46)] at g3; exact ⟨rfl, g3, by omega⟩⟩
    · refine a_iconst (0) 29 dX12_readsCarriage_28 rfl (by decide) ?_
      exact a_ireturn dX12_readsCarriage_29 rfl rfl (Nat.le_of_ble_eq_true rfl) (Nat.le_of_ble_eq_true rfl) ⟨i2, f, e2, rg_fr f2 (by decide) (rg_fr f1 (by decide) (rg_ne (by decide) h42)), s2, F2, by rw [carS_1 C0 (fun u => b_eq0.mp c_25 ((rd_iff (lo := 1) (hi := 8) (by decide) (by decide)).mpr u))]; rw [if_neg (b_eq0.mp c_25)] at g2; exact ⟨rfl, g2, by omega⟩⟩
end MREAD
