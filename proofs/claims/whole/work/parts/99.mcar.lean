/-! THE MODEL: carriage -/
theorem cg_at {code code' : Nat → Int32} {N p : Nat} {P : Int32 → Prop} (h : ∀ p, p < N → code p = code' p) : (p < N ∧ P (code p)) ↔ (p < N ∧ P (code' p)) :=
  ⟨fun u => ⟨u.1, (h p u.1) ▸ u.2⟩, fun u => ⟨u.1, (h p u.1).symm ▸ u.2⟩⟩
theorem carS_cg {code code' : Nat → Int32} {N : Nat} (h : ∀ p, p < N → code p = code' p) : carS code N = carS code' N := by
  by_cases C0 : 0 < N ∧ code 0 = 99
  · have D0 : 0 < N ∧ code' 0 = 99 := (cg_at (P := fun x => x = 99) h).mp C0
    by_cases C1 : 1 < N ∧ (49 ≤ code 1 ∧ code 1 ≤ 56)
    · have D1 : 1 < N ∧ (49 ≤ code' 1 ∧ code' 1 ≤ 56) := (cg_at (P := fun x => 49 ≤ x ∧ x ≤ 56) h).mp C1
      by_cases C2 : 2 < N ∧ (49 ≤ code 2 ∧ code 2 ≤ 52)
      · have D2 : 2 < N ∧ (49 ≤ code' 2 ∧ code' 2 ≤ 52) := (cg_at (P := fun x => 49 ≤ x ∧ x ≤ 52) h).mp C2
        have e3 : (3 < N ∧ code 3 = 109) ↔ (3 < N ∧ code' 3 = 109) := cg_at (P := fun x => x = 109) h
        have e4 : car4 code N = car4 code' N := by
          unfold car4
          by_cases C3 : 3 < N ∧ code 3 = 109
          · rw [if_pos C3, if_pos (e3.mp C3)]
          · rw [if_neg C3, if_neg (fun u => C3 (e3.mpr u))]
        by_cases C4 : car4 code N < N ∧ code (car4 code N) = 59
        · have D4 : car4 code' N < N ∧ code' (car4 code' N) = 59 := by rw [← e4]; exact (cg_at (P := fun x => x = 59) h).mp C4
          rw [carS_5 C0 C1 C2 C4 rfl rfl, carS_5 D0 D1 D2 D4 rfl rfl, h 1 C1.1, h 2 C2.1, decide_eq_decide.mpr e3]
          refine congrArg _ (firstN_cg (fun t _ _ => ?_))
          unfold carFace
          exact decide_eq_decide.mpr (not_congr (cg_at (P := fun x => 0 ≤ faceBI x) h))
        · have D4 : ¬ (car4 code' N < N ∧ code' (car4 code' N) = 59) := by rw [← e4]; exact fun u => C4 ((cg_at (P := fun x => x = 59) h).mpr u)
          rw [carS_4 C0 C1 C2 C4, carS_4 D0 D1 D2 D4, e4]
      · rw [carS_2 C0 C1 C2, carS_2 D0 D1 (fun u => C2 ((cg_at (P := fun x => 49 ≤ x ∧ x ≤ 52) h).mpr u))]
    · rw [carS_1 C0 C1, carS_1 D0 (fun u => C1 ((cg_at (P := fun x => 49 ≤ x ∧ x ≤ 56) h).mpr u))]
  · rw [carS_0 C0, carS_0 (fun u => C0 ((cg_at (P := fun x => x = 99) h).mpr u))]
theorem bes_rowsD : ∀ wi, wi < 5 → ∀ le, le < 9 → ∀ k, k < le * wi → (decide (wi ≠ 0) && decide (k / wi = 0 ↔ k < wi) && decide (le ≤ k / wi + 1 ↔ le * wi ≤ k + wi) && decide (k / wi < 9) && decide (k % wi < 5)) = true := by decide +kernel
theorem bes_rows (wi : Nat) (h1 : wi < 5) (le : Nat) (h2 : le < 9) (k : Nat) (h3 : k < le * wi) : wi ≠ 0 ∧ (k / wi = 0 ↔ k < wi) ∧ (le ≤ k / wi + 1 ↔ le * wi ≤ k + wi) ∧ k / wi < 9 ∧ k % wi < 5 := by
  have := bes_rowsD wi h1 le h2 k h3
  simp only [Bool.and_eq_true, decide_eq_true_eq] at this
  obtain ⟨⟨⟨⟨a, b⟩, c⟩, d⟩, e⟩ := this
  exact ⟨a, b, c, d, e⟩
section MCAR
variable {l : Launch} {G : rG} {h : rH} {T : Tn} {i : Nat → Int32} {j : Nat → Int64}
set_option maxRecDepth 100000 in
set_option maxHeartbeats 400000 in
theorem k_X12_besides (hm : h[38]? = some (mo G i j)) {wi le k w : Nat} (g1 : i 1 = nI le) (g2 : i 2 = nI wi) (hw5 : wi < 5) (hl9 : le < 9) (hk : k < le * wi) (hw : w < 4) : rM l G 0 mX12_besides 0 0 [.ref (gN G + 38), .int (nI k), .int (nI w)] h (rV h (some (.int (noI (besN wi le k w))))) := by
  obtain ⟨z0, z1, z2, z3, z4⟩ := bes_rows wi hw5 le hl9 k hk
  have hlw : le * wi ≤ 8 * 4 := Nat.mul_le_mul (by omega) (by omega)
  have hne : ¬ nI wi = 0 := nI_ne0 (by omega) (by omega)
  have e5 : nI k / nI wi = nI (k / wi) := pk_div (by omega) (by omega) (by omega)
  have e12 : nI k - nI k / nI wi * nI wi = nI (k % wi) := pk_rem (by omega) (by omega) (by omega)
  have ewt : (nI w).toInt = w := nI_toInt (by omega)
  refine rM_start (by decide) (Nat.le_of_ble_eq_true rfl) ?_
  refine a_iload_n 1 dX12_besides_0 rfl rfl ?_
  refine a_aload_n 2 dX12_besides_1 rfl rfl ?_
  refine a_get fd_X12_111 rfl 5 dX12_besides_2 rfl (by repeat (first | assumption | (refine rg_ne (by first | decide | omega) ?_) | apply rg_eq | refine rg_fr (by assumption) (by first | decide | (simp; omega)) ?_)) rfl ?_
  rw [g2]
  refine a_idiv 6 dX12_besides_5 rfl hne ?_
  rw [e5]
  refine a_istore_n 7 dX12_besides_6 rfl (by decide) ?_
  refine a_iload_n 8 dX12_besides_7 rfl rfl ?_
  refine a_aload_n 9 dX12_besides_8 rfl rfl ?_
  refine a_get fd_X12_111 rfl 12 dX12_besides_9 rfl (by repeat (first | assumption | (refine rg_ne (by first | decide | omega) ?_) | apply rg_eq | refine rg_fr (by assumption) (by first | decide | (simp; omega)) ?_)) rfl ?_
  rw [g2]
  refine a_irem 13 dX12_besides_12 rfl hne ?_
  rw [e12]
  refine a_istore 15 dX12_besides_13 rfl (by decide) ?_
  refine a_iload_n 16 dX12_besides_15 rfl rfl ?_
  rcases (show (nI w).toInt = 0 ∨ (nI w).toInt = 1 ∨ (nI w).toInt = 2 ∨ ((nI w).toInt < 0 ∨ 2 < (nI w).toInt) by omega) with w_16 | w_16 | w_16 | w_16
  · refine a_tableIn 44 dX12_besides_16 (by rw [w_16]; decide) (by rw [w_16]; decide) (by rw [w_16]; rfl) (by decide) ?_
    have ew : w = 0 := by omega
    subst ew
    refine a_iload_n 45 dX12_besides_44 rfl rfl ?_
    refine a_if_le 57 48 dX12_besides_45 rfl (by decide) (fun c_45 => ?_) (fun c_45 => ?_)
    · refine a_bipush (-9) 59 dX12_besides_57 rfl (by decide) ?_
      exact a_ireturn dX12_besides_59 rfl rfl (Nat.le_of_ble_eq_true rfl) (Nat.le_of_ble_eq_true rfl) ⟨rfl, by rw [show besN wi le k 0 = none from by unfold besN; rw [if_neg z0, if_pos rfl, if_pos (z1.mp ((nI_le0 (by omega)).mp c_45))]]⟩
    · refine a_iload_n 49 dX12_besides_48 rfl rfl ?_
      refine a_aload_n 50 dX12_besides_49 rfl rfl ?_
      refine a_get fd_X12_111 rfl 53 dX12_besides_50 rfl (by repeat (first | assumption | (refine rg_ne (by first | decide | omega) ?_) | apply rg_eq | refine rg_fr (by assumption) (by first | decide | (simp; omega)) ?_)) rfl ?_
      rw [g2]
      refine a_isub 54 dX12_besides_53 rfl ?_
      refine a_goto 59 dX12_besides_54 (by decide) ?_
      exact a_ireturn dX12_besides_59 rfl rfl (Nat.le_of_ble_eq_true rfl) (Nat.le_of_ble_eq_true rfl) ⟨rfl, by have hz : ¬ k < wi := fun u => c_45 ((nI_le0 (by omega)).mpr (z1.mpr u)); rw [show besN wi le k 0 = some (k - wi) from by unfold besN; rw [if_neg z0, if_pos rfl, if_neg hz], pk_sub (by omega)]⟩
  · refine a_tableIn 60 dX12_besides_16 (by rw [w_16]; decide) (by rw [w_16]; decide) (by rw [w_16]; rfl) (by decide) ?_
    have ew : w = 1 := by omega
    subst ew
    refine a_iload_n 61 dX12_besides_60 rfl rfl ?_
    refine a_iconst (1) 62 dX12_besides_61 rfl (by decide) ?_
    refine a_iadd 63 dX12_besides_62 rfl ?_
    refine a_aload_n 64 dX12_besides_63 rfl rfl ?_
    refine a_get fd_X12_108 rfl 67 dX12_besides_64 rfl (by repeat (first | assumption | (refine rg_ne (by first | decide | omega) ?_) | apply rg_eq | refine rg_fr (by assumption) (by first | decide | (simp; omega)) ?_)) rfl ?_
    rw [nI_1, g1]
    refine a_icmp_ge 79 70 dX12_besides_67 rfl (by decide) (fun c_67 => ?_) (fun c_67 => ?_)
    · refine a_bipush (-9) 81 dX12_besides_79 rfl (by decide) ?_
      exact a_ireturn dX12_besides_81 rfl rfl (Nat.le_of_ble_eq_true rfl) (Nat.le_of_ble_eq_true rfl) ⟨rfl, by rw [show besN wi le k 1 = none from by unfold besN; rw [if_neg z0, if_neg (by decide), if_pos rfl, if_pos (z2.mp ((nI_leI (by omega) (by omega)).mp c_67))]]⟩
    · refine a_iload_n 71 dX12_besides_70 rfl rfl ?_
      refine a_aload_n 72 dX12_besides_71 rfl rfl ?_
      refine a_get fd_X12_111 rfl 75 dX12_besides_72 rfl (by repeat (first | assumption | (refine rg_ne (by first | decide | omega) ?_) | apply rg_eq | refine rg_fr (by assumption) (by first | decide | (simp; omega)) ?_)) rfl ?_
      rw [g2]
      refine a_iadd 76 dX12_besides_75 rfl ?_
      refine a_goto 81 dX12_besides_76 (by decide) ?_
      exact a_ireturn dX12_besides_81 rfl rfl (Nat.le_of_ble_eq_true rfl) (Nat.le_of_ble_eq_true rfl) ⟨rfl, by rw [show besN wi le k 1 = some (k + wi) from by unfold besN; rw [if_neg z0, if_neg (by decide), if_pos rfl, if_neg (fun u => c_67 ((nI_leI (by omega) (by omega)).mpr (z2.mpr u)))], nI_add]⟩
  · refine a_tableIn 82 dX12_besides_16 (by rw [w_16]; decide) (by rw [w_16]; decide) (by rw [w_16]; rfl) (by decide) ?_
    have ew : w = 2 := by omega
    subst ew
    refine a_iload 84 dX12_besides_82 rfl rfl ?_
    refine a_if_le 93 87 dX12_besides_84 rfl (by decide) (fun c_84 => ?_) (fun c_84 => ?_)
    · refine a_bipush (-9) 95 dX12_besides_93 rfl (by decide) ?_
      exact a_ireturn dX12_besides_95 rfl rfl (Nat.le_of_ble_eq_true rfl) (Nat.le_of_ble_eq_true rfl) ⟨rfl, by rw [show besN wi le k 2 = none from by unfold besN; rw [if_neg z0, if_neg (by decide), if_neg (by decide), if_pos rfl, if_pos ((nI_le0 (by omega)).mp c_84)]]⟩
    · refine a_iload_n 88 dX12_besides_87 rfl rfl ?_
      refine a_iconst (1) 89 dX12_besides_88 rfl (by decide) ?_
      refine a_isub 90 dX12_besides_89 rfl ?_
      refine a_goto 95 dX12_besides_90 (by decide) ?_
      exact a_ireturn dX12_besides_95 rfl rfl (Nat.le_of_ble_eq_true rfl) (Nat.le_of_ble_eq_true rfl) ⟨rfl, by have hz : ¬ k % wi = 0 := fun u => c_84 ((nI_le0 (by omega)).mpr u); rw [show besN wi le k 2 = some (k - 1) from by unfold besN; rw [if_neg z0, if_neg (by decide), if_neg (by decide), if_pos rfl, if_neg hz], show (1 : Int32) = nI 1 from rfl, pk_sub (by have := Nat.mod_le k wi; omega)]⟩
  · refine a_tableOut 96 dX12_besides_16 w_16 (by decide) ?_
    have ew : w = 3 := by omega
    subst ew
    refine a_iload 98 dX12_besides_96 rfl rfl ?_
    refine a_iconst (1) 99 dX12_besides_98 rfl (by decide) ?_
    refine a_iadd 100 dX12_besides_99 rfl ?_
    refine a_aload_n 101 dX12_besides_100 rfl rfl ?_
    refine a_get fd_X12_111 rfl 104 dX12_besides_101 rfl (by repeat (first | assumption | (refine rg_ne (by first | decide | omega) ?_) | apply rg_eq | refine rg_fr (by assumption) (by first | decide | (simp; omega)) ?_)) rfl ?_
    rw [nI_1, g2]
    refine a_icmp_ge 113 107 dX12_besides_104 rfl (by decide) (fun c_104 => ?_) (fun c_104 => ?_)
    · refine a_bipush (-9) 115 dX12_besides_113 rfl (by decide) ?_
      exact a_ireturn dX12_besides_115 rfl rfl (Nat.le_of_ble_eq_true rfl) (Nat.le_of_ble_eq_true rfl) ⟨rfl, by rw [show besN wi le k 3 = none from by unfold besN; rw [if_neg z0, if_neg (by decide), if_neg (by decide), if_neg (by decide), if_pos ((nI_leI (by omega) (by omega)).mp c_104)]]⟩
    · refine a_iload_n 108 dX12_besides_107 rfl rfl ?_
      refine a_iconst (1) 109 dX12_besides_108 rfl (by decide) ?_
      refine a_iadd 110 dX12_besides_109 rfl ?_
      refine a_goto 115 dX12_besides_110 (by decide) ?_
      exact a_ireturn dX12_besides_115 rfl rfl (Nat.le_of_ble_eq_true rfl) (Nat.le_of_ble_eq_true rfl) ⟨rfl, by rw [show besN wi le k 3 = some (k + 1) from by unfold besN; rw [if_neg z0, if_neg (by decide), if_neg (by decide), if_neg (by decide), if_neg (fun u => c_104 ((nI_leI (by omega) (by omega)).mpr u))], nI_1]⟩
/-- a change of one cell's row at c: what is below c + 1 -/
theorem up_lt {f g : Nat → Int32} {c : Nat} {x : Int32} (h : ∀ t, t < c → f t = g t) (hx : x = g c) {t : Nat} (ht : t < c + 1) : upd f c x t = g t := by
  by_cases e : t = c
  · subst e; rw [pk_us]; exact hx
  · rw [pk_un e]; exact h t (by omega)
theorem up_ge {f g : Nat → Int32} {c N : Nat} {x : Int32} (hc : c < N) (h : ∀ t, N ≤ t → f t = g t) {t : Nat} (ht : N ≤ t) : upd f c x t = g t := by
  rw [pk_un (by omega)]; exact h t ht
abbrev facN (fa : Nat → Int32) (n : Nat) (t : Nat) : Int32 := if t < n then fa t else 0
theorem okC_new {T : Tn} (o : okC T.1) {code : Nat → Int32} {le wi : Nat} {mir : Bool} (l2 : le < 9) (w2 : wi < 5) (hfb : ∀ j, j < le * wi → 0 ≤ faceBI (code (carK mir + j))) : okC (newCar T code le wi mir).1 := by
  have hlw : le * wi ≤ 8 * 4 := Nat.mul_le_mul (by omega) (by omega)
  refine ⟨w2, l2, fun c => ?_, fun k => ?_, fun k w hk hw d hd => ?_, fun k w hk hw => ?_⟩
  · show (if c < 32 then (if c < le * wi then (faceBI (code (carK mir + c))).toNatClampNeg else 0) else T.face c) < 4
    split
    · split
      · rename_i u v
        rcases faceBI_cases (code (carK mir + c)) with e | ⟨k, hk, e⟩
        · exact absurd (hfb c v) ((faceBI_n _).mpr e)
        · rw [e, nI_clamp (by omega)]; exact hk
      · omega
    · exact o.2.2.1 c
  · show zB T.B 64 k = 0 ∨ zB T.B 64 k = 1
    unfold zB
    split
    · exact Or.inl rfl
    · exact o.2.2.2.1 k
  · have hd2 : (if k < le * wi then besN wi le k w else T.nb k w) = some d := hd
    by_cases u : k < le * wi
    · rw [if_pos u] at hd2
      have := bes_lt wi w2 le l2 k u w hw
      rw [hd2] at this
      have := of_decide_eq_true this
      omega
    · rw [if_neg u] at hd2
      exact o.2.2.2.2.1 k w hk hw d hd2
  · exact if_pos hk
set_option maxRecDepth 100000 in
set_option maxHeartbeats 400000 in
theorem car_end {h' : rH} {code fa nx sn fn : Nat → Int32} {le wi : Nat} {mir : Bool} {i3 : Nat → Int32} (q : mX G h T i j) (o : T.ok) (l2 : le < 9) (w2 : wi < 5) (hfb : ∀ j, j < le * wi → fa j = faceBI (code (carK mir + j)) ∧ 0 ≤ faceBI (code (carK mir + j))) (hn0 : nbOk fn T.nb) (hnx : ∀ t, t < 4 * (le * wi) → nx t = noI (besN wi le (t / 4) (t % 4))) (hnx2 : ∀ t, 4 * (le * wi) ≤ t → nx t = fn t) {w39 w40 w41 w42 : Nat → Int32} (e38 : h'[38]? = some (mo G i3 j)) (e39 : h'[39]? = some (.inl (gA G 0, 32, .inl w39))) (e40 : h'[40]? = some (.inl (gA G 1, 32, .inl w40))) (e41 : h'[41]? = some (.inl (gA G 1, 32, .inl w41))) (e42 : h'[42]? = some (.inl (gA G 0, 32, .inl w42))) (e43 : h'[43]? = some (.inl (gA G 0, 128, .inl nx))) (e44 : h'[44]? = some (.inl (gA G 1, 32, .inl sn))) (x39 : ∀ t, t < 32 → w39 t = facN fa (le * wi) t) (y39 : ∀ t, 32 ≤ t → w39 t = nI (T.face t)) (x40 : ∀ t, t < 32 → w40 t = 0) (y40 : ∀ t, 32 ≤ t → w40 t = T.bR t) (x41 : ∀ t, t < 32 → w41 t = 0) (y41 : ∀ t, 32 ≤ t → w41 t = T.bB t) (x44 : ∀ t, t < 32 → sn t = 0) (y44 : ∀ t, 32 ≤ t → sn t = 0) (hi : i3 0 = 0 ∧ i3 1 = nI le ∧ i3 2 = nI wi ∧ i3 3 = bI mir ∧ i3 15 = 0 ∧ i3 20 = i 20 ∧ i3 23 = 0 ∧ i3 39 = i 39) (hf : fr h h' [38, 39, 40, 41, 42, 43, 44]) : mX G h' (newCar T code le wi mir) i3 j := by
  obtain ⟨k0, k1, k2, k3, k15, k20, k23, k39⟩ := hi
  have hlw : le * wi ≤ 8 * 4 := Nat.mul_le_mul (by omega) (by omega)
  have oC : okC (newCar T code le wi mir).1 := okC_new o.1 l2 w2 (fun j hj => (hfb j hj).2)
  obtain ⟨-, ⟨-, c2, c3, ⟨g1, c4, c5⟩, ⟨g2, c6, c7⟩, ⟨g3, c8, c9⟩, ⟨g4, c10, c11⟩⟩, ⟨-, d2, d3, g5, d4, d5⟩, ⟨-, e2, e3, ⟨g6, e4, e5⟩, ⟨g7, e6, e7⟩⟩, q5, ⟨-, p50, p53, p54, p55, p56, p60⟩, q7, q8, q9⟩ := q
  have hp := kp_fr hf
  have E39 : w39 = (fun c => nI ((newCar T code le wi mir).face c)) := by
    funext c
    show w39 c = nI (if c < 32 then (if c < le * wi then (faceBI (code (carK mir + c))).toNatClampNeg else 0) else T.face c)
    by_cases u : c < 32
    · rw [x39 c u, if_pos u]
      unfold facN
      by_cases v : c < le * wi
      · rw [if_pos v, if_pos v, (hfb c v).1]
        rcases faceBI_cases (code (carK mir + c)) with e | ⟨k, hk, e⟩
        · exact absurd (hfb c v).2 ((faceBI_n _).mpr e)
        · rw [e, nI_clamp (by omega)]
      · rw [if_neg v, if_neg v]; rfl
    · rw [y39 c (by omega), if_neg u]
  have E40 : w40 = (newCar T code le wi mir).bR := by
    funext c
    show w40 c = if 2 * c < 64 then 0 else T.B (2 * c)
    by_cases u : c < 32
    · rw [x40 c u, if_pos (by omega)]
    · rw [y40 c (by omega), if_neg (by omega)]
  have E41 : w41 = (newCar T code le wi mir).bB := by
    funext c
    show w41 c = if 2 * c + 1 < 64 then 0 else T.B (2 * c + 1)
    by_cases u : c < 32
    · rw [x41 c u, if_pos (by omega)]
    · rw [y41 c (by omega), if_neg (by omega)]
  subst E39; subst E40; subst E41
  have hnb : nbOk nx (newCar T code le wi mir).nb := by
    intro k w hk hw
    refine ⟨?_, fun d hd => oC.2.2.2.2.1 k w hk hw d hd⟩
    show nx (4 * k + w) = noI (if k < le * wi then besN wi le k w else T.nb k w)
    by_cases u : k < le * wi
    · rw [hnx _ (by omega), if_pos u, show (4 * k + w) / 4 = k by omega, show (4 * k + w) % 4 = w by omega]
    · rw [hnx2 _ (by omega), if_neg u]
      exact (hn0 k w hk hw).1
  refine ⟨mc_mk (T := newCar T code le wi mir) oC ⟨nx, e38, k2, by show wi < 32; omega, e43, hnb, e40, e41, fun c => oC.2.2.2.1 _, fun c => oC.2.2.2.1 _⟩ (by rw [k1, k2, pk_mul]) k3 e39 ⟨sn, e44, fun d _ => ?_⟩, ⟨e38, k15, by show 0 ≤ 12; omega, ⟨g1, kp_get hp (by decide) c4, fun x hx => absurd hx (Nat.not_lt_zero x)⟩, ⟨g2, kp_get hp (by decide) c6, fun x hx => absurd hx (Nat.not_lt_zero x)⟩, ⟨g3, kp_get hp (by decide) c8, fun x hx => absurd hx (Nat.not_lt_zero x)⟩, ⟨g4, kp_get hp (by decide) c10, fun x hx => absurd hx (Nat.not_lt_zero x)⟩⟩, ⟨e38, k20.trans d2, d3, g5, kp_get hp (by decide) d4, d5⟩, ⟨e38, k23, by show 0 ≤ 24; omega, ⟨g6, kp_get hp (by decide) e4, fun x hx => absurd hx (Nat.not_lt_zero x)⟩, ⟨g7, kp_get hp (by decide) e6, fun x hx => absurd hx (Nat.not_lt_zero x)⟩⟩, q5.kp hp (by decide), ⟨⟨_, e42⟩, ex_kp p50 hp (by decide), ex_kp p53 hp (by decide), ex_kp p54 hp (by decide), ex_kp p55 hp (by decide), ex_kp p56 hp (by decide), ex_kp p60 hp (by decide)⟩, k0, k39.trans q8, k1⟩
  by_cases u : d < 32
  · exact x44 d u
  · exact y44 d (by omega)
end MCAR
