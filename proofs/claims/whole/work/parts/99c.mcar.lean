/-! THE MODEL: carriage, the first loop -/
section MCARB2
variable {l : Launch} {G : rG} {h : rH} {T : Tn} {i : Nat → Int32} {j : Nat → Int64}
set_option maxRecDepth 100000 in
set_option maxHeartbeats 400000 in
theorem carM1 (q : mX G h T i j) (o : T.ok) {code fa fn : Nat → Int32} {le wi : Nat} {mir : Bool} {i2 : Nat → Int32} (l2 : le < 9) (w2 : wi < 5) (hfb : ∀ j, j < le * wi → fa j = faceBI (code (carK mir + j)) ∧ 0 ≤ faceBI (code (carK mir + j))) (hn0 : nbOk fn T.nb) (hi : i2 0 = i 0 ∧ i2 1 = nI le ∧ i2 2 = nI wi ∧ i2 3 = bI mir ∧ i2 15 = i 15 ∧ i2 20 = i 20 ∧ i2 23 = i 23 ∧ i2 39 = i 39) {a1 a2 a3 a4 : Option Value} {a5 : Int32} : ∀ (r c : Nat) (y : Int32) (w39 w40 w41 sn : Nat → Int32) (h1 : rH), c + r = 32 → y = nI c → h1[38]? = some (mo G i2 j) → h1[39]? = some (.inl (gA G 0, 32, .inl w39)) → h1[40]? = some (.inl (gA G 1, 32, .inl w40)) → h1[41]? = some (.inl (gA G 1, 32, .inl w41)) → h1[42]? = some (.inl (gA G 0, 32, .inl fa)) → h1[43]? = some (.inl (gA G 0, 128, .inl fn)) → h1[44]? = some (.inl (gA G 1, 32, .inl sn)) → (∀ t, t < c → w39 t = facN fa (le * wi) t) → (∀ t, 32 ≤ t → w39 t = nI (T.face t)) → (∀ t, t < c → w40 t = (fun _ => (0 : Int32)) t) → (∀ t, 32 ≤ t → w40 t = T.bR t) → (∀ t, t < c → w41 t = (fun _ => (0 : Int32)) t) → (∀ t, 32 ≤ t → w41 t = T.bB t) → (∀ t, t < c → sn t = (fun _ => (0 : Int32)) t) → (∀ t, 32 ≤ t → sn t = (fun _ => (0 : Int32)) t) → fr h h1 [38, 39, 40, 41, 42, 43, 44] → rW l G (rRm 12 0 0) mX12_carriage (rZ G (carPQ G h (nI (le * wi)) (newCar T code le wi mir)) 0 0) 0 0 74 [some (.ref (gN G + 38)), a1, a2, a3, a4, some (.int a5), some (.int y)] [] h1 := by
  have hlw : le * wi ≤ 8 * 4 := Nat.mul_le_mul (by omega) (by omega)
  have hi2 := hi
  obtain ⟨k0, k1, k2, k3, k15, k20, k23, k39⟩ := hi
  intro r
  induction r with
  | zero =>
    intro c y w39 w40 w41 sn h1 hc hy e38 e39 e40 e41 e42 e43 e44 x39 y39 x40 y40 x41 y41 x44 y44 hf
    subst hy
    have ec : c = 32 := by omega
    subst ec
    refine a_iload 76 dX12_carriage_74 rfl rfl ?_
    refine a_bipush (32) 78 dX12_carriage_76 rfl (by decide) ?_
    refine a_icmp_ge 138 81 dX12_carriage_78 rfl (by decide) (fun c_78 => ?_) (fun c_78 => absurd (Int32.le_refl _) c_78)
    refine a_iconst (0) 139 dX12_carriage_138 rfl (by decide) ?_
    refine a_istore 141 dX12_carriage_139 rfl (by decide) ?_
    exact carM2 q o l2 w2 hfb hn0 x39 y39 x40 y40 x41 y41 x44 y44 hi2 (4 * (le * wi)) 0 _ fn _ (by omega) rfl e38 e39 e40 e41 e42 e43 e44 (fun t ht => absurd ht (by omega)) (fun _ _ => rfl) hf
  | succ r ih =>
    intro c y w39 w40 w41 sn h1 hc hy e38 e39 e40 e41 e42 e43 e44 x39 y39 x40 y40 x41 y41 x44 y44 hf
    subst hy
    have vc : vp_in (nI c) 32 := vp_in_nI (by omega) (by decide)
    have cc : (nI c).toNatClampNeg = c := nI_clamp (by omega)
    have e93 : i2 1 * i2 2 = nI (le * wi) := by rw [k1, k2, pk_mul]
    have hnar : vp_nar .boolean 0 = 0 := by decide
    refine a_iload 76 dX12_carriage_74 rfl rfl ?_
    refine a_bipush (32) 78 dX12_carriage_76 rfl (by decide) ?_
    refine a_icmp_ge 138 81 dX12_carriage_78 rfl (by decide) (fun c_78 => absurd c_78 (nI_ge (a := c) (b := 32) (by omega) (by decide))) (fun c_78 => ?_)
    refine a_aload_n 82 dX12_carriage_81 rfl rfl ?_
    refine a_get fd_X12_7 rfl 85 dX12_carriage_82 rfl (by repeat (first | assumption | (refine rg_ne (by first | decide | omega) ?_) | apply rg_eq | refine rg_fr (by assumption) (by first | decide | (simp; omega)) ?_)) rfl ?_
    refine a_iload 87 dX12_carriage_85 rfl rfl ?_
    refine a_iload 89 dX12_carriage_87 rfl rfl ?_
    refine a_aload_n 90 dX12_carriage_89 rfl rfl ?_
    refine a_callV ok_X12_seats ln_X12_114 in_X12_seats rfl 93 dX12_carriage_90 rfl (k_X12_seats e38) (by repeat (first | assumption | (refine rg_ne (by first | decide | omega) ?_) | apply rg_eq | refine rg_fr (by assumption) (by first | decide | (simp; omega)) ?_)) rfl rfl rfl ⟨(Nat.le_of_ble_eq_true rfl), (Nat.le_of_ble_eq_true rfl)⟩ (Nat.le_of_ble_eq_true rfl) ⟨(Nat.le_of_ble_eq_true rfl), (Nat.le_of_ble_eq_true rfl)⟩ ?_
    rintro _ _ ⟨rfl, rfl⟩
    rw [e93]
    refine a_icmp_ge 106 96 dX12_carriage_93 rfl (by decide) (fun c_93 => ?_) (fun c_93 => ?_)
    · refine a_iconst (0) 107 dX12_carriage_106 rfl (by decide) ?_
      refine a_iastore 108 dX12_carriage_107 rfl (by repeat (first | assumption | (refine rg_ne (by first | decide | omega) ?_) | apply rg_eq | refine rg_fr (by assumption) (by first | decide | (simp; omega)) ?_)) vc ?_
      refine a_aload_n 109 dX12_carriage_108 rfl rfl ?_
      refine a_get fd_X12_13 rfl 112 dX12_carriage_109 rfl (by repeat (first | assumption | (refine rg_ne (by first | decide | omega) ?_) | apply rg_eq | refine rg_fr (by assumption) (by first | decide | (simp; omega)) ?_)) rfl ?_
      refine a_iload 114 dX12_carriage_112 rfl rfl ?_
      refine a_iconst (0) 115 dX12_carriage_114 rfl (by decide) ?_
      refine a_bastore 116 dX12_carriage_115 rfl (by repeat (first | assumption | (refine rg_ne (by first | decide | omega) ?_) | apply rg_eq | refine rg_fr (by assumption) (by first | decide | (simp; omega)) ?_)) vc ?_
      refine a_aload_n 117 dX12_carriage_116 rfl rfl ?_
      refine a_get fd_X12_17 rfl 120 dX12_carriage_117 rfl (by repeat (first | assumption | (refine rg_ne (by first | decide | omega) ?_) | apply rg_eq | refine rg_fr (by assumption) (by first | decide | (simp; omega)) ?_)) rfl ?_
      refine a_iload 122 dX12_carriage_120 rfl rfl ?_
      refine a_iconst (0) 123 dX12_carriage_122 rfl (by decide) ?_
      refine a_bastore 124 dX12_carriage_123 rfl (by repeat (first | assumption | (refine rg_ne (by first | decide | omega) ?_) | apply rg_eq | refine rg_fr (by assumption) (by first | decide | (simp; omega)) ?_)) vc ?_
      refine a_aload_n 125 dX12_carriage_124 rfl rfl ?_
      refine a_get fd_X12_26 rfl 128 dX12_carriage_125 rfl (by repeat (first | assumption | (refine rg_ne (by first | decide | omega) ?_) | apply rg_eq | refine rg_fr (by assumption) (by first | decide | (simp; omega)) ?_)) rfl ?_
      refine a_iload 130 dX12_carriage_128 rfl rfl ?_
      refine a_iconst (0) 131 dX12_carriage_130 rfl (by decide) ?_
      refine a_bastore 132 dX12_carriage_131 rfl (by repeat (first | assumption | (refine rg_ne (by first | decide | omega) ?_) | apply rg_eq | refine rg_fr (by assumption) (by first | decide | (simp; omega)) ?_)) vc ?_
      refine a_iinc _ 135 dX12_carriage_132 rfl rfl (by decide) rfl ?_
      refine a_goto 74 dX12_carriage_135 (by decide) ?_
      exact ih (c + 1) _ _ _ _ _ _ (by omega) (nI_1 c) (rg_ne (by decide) (rg_ne (by decide) (rg_ne (by decide) (rg_ne (by decide) e38)))) (rg_ne (by decide) (rg_ne (by decide) (rg_ne (by decide) (rg_eq e39)))) (rg_ne (by decide) (rg_ne (by decide) (rg_eq (rg_ne (by decide) e40)))) (rg_ne (by decide) (rg_eq (rg_ne (by decide) (rg_ne (by decide) e41)))) (rg_ne (by decide) (rg_ne (by decide) (rg_ne (by decide) (rg_ne (by decide) e42)))) (rg_ne (by decide) (rg_ne (by decide) (rg_ne (by decide) (rg_ne (by decide) e43)))) (rg_eq (rg_ne (by decide) (rg_ne (by decide) (rg_ne (by decide) e44)))) (fun t ht => by rw [cc]; exact up_lt x39 (by unfold facN; rw [if_neg (fun u => nI_ge (a := c) (b := le * wi) u (by omega) c_93)]) ht) (fun t ht => by rw [cc]; exact up_ge (by omega) y39 ht) (fun t ht => by rw [cc, hnar]; exact up_lt x40 rfl ht) (fun t ht => by rw [cc, hnar]; exact up_ge (by omega) y40 ht) (fun t ht => by rw [cc, hnar]; exact up_lt x41 rfl ht) (fun t ht => by rw [cc, hnar]; exact up_ge (by omega) y41 ht) (fun t ht => by rw [cc, hnar]; exact up_lt x44 rfl ht) (fun t ht => by rw [cc, hnar]; exact up_ge (by omega) y44 ht) (fr_set (fr_set (fr_set (fr_set hf (by decide)) (by decide)) (by decide)) (by decide))
    · refine a_aload_n 97 dX12_carriage_96 rfl rfl ?_
      refine a_get fd_X12_20 rfl 100 dX12_carriage_97 rfl (by repeat (first | assumption | (refine rg_ne (by first | decide | omega) ?_) | apply rg_eq | refine rg_fr (by assumption) (by first | decide | (simp; omega)) ?_)) rfl ?_
      refine a_iload 102 dX12_carriage_100 rfl rfl ?_
      refine a_iaload 103 dX12_carriage_102 rfl (by repeat (first | assumption | (refine rg_ne (by first | decide | omega) ?_) | apply rg_eq | refine rg_fr (by assumption) (by first | decide | (simp; omega)) ?_)) vc ?_
      rw [cc]
      refine a_goto 107 dX12_carriage_103 (by decide) ?_
      refine a_iastore 108 dX12_carriage_107 rfl (by repeat (first | assumption | (refine rg_ne (by first | decide | omega) ?_) | apply rg_eq | refine rg_fr (by assumption) (by first | decide | (simp; omega)) ?_)) vc ?_
      refine a_aload_n 109 dX12_carriage_108 rfl rfl ?_
      refine a_get fd_X12_13 rfl 112 dX12_carriage_109 rfl (by repeat (first | assumption | (refine rg_ne (by first | decide | omega) ?_) | apply rg_eq | refine rg_fr (by assumption) (by first | decide | (simp; omega)) ?_)) rfl ?_
      refine a_iload 114 dX12_carriage_112 rfl rfl ?_
      refine a_iconst (0) 115 dX12_carriage_114 rfl (by decide) ?_
      refine a_bastore 116 dX12_carriage_115 rfl (by repeat (first | assumption | (refine rg_ne (by first | decide | omega) ?_) | apply rg_eq | refine rg_fr (by assumption) (by first | decide | (simp; omega)) ?_)) vc ?_
      refine a_aload_n 117 dX12_carriage_116 rfl rfl ?_
      refine a_get fd_X12_17 rfl 120 dX12_carriage_117 rfl (by repeat (first | assumption | (refine rg_ne (by first | decide | omega) ?_) | apply rg_eq | refine rg_fr (by assumption) (by first | decide | (simp; omega)) ?_)) rfl ?_
      refine a_iload 122 dX12_carriage_120 rfl rfl ?_
      refine a_iconst (0) 123 dX12_carriage_122 rfl (by decide) ?_
      refine a_bastore 124 dX12_carriage_123 rfl (by repeat (first | assumption | (refine rg_ne (by first | decide | omega) ?_) | apply rg_eq | refine rg_fr (by assumption) (by first | decide | (simp; omega)) ?_)) vc ?_
      refine a_aload_n 125 dX12_carriage_124 rfl rfl ?_
      refine a_get fd_X12_26 rfl 128 dX12_carriage_125 rfl (by repeat (first | assumption | (refine rg_ne (by first | decide | omega) ?_) | apply rg_eq | refine rg_fr (by assumption) (by first | decide | (simp; omega)) ?_)) rfl ?_
      refine a_iload 130 dX12_carriage_128 rfl rfl ?_
      refine a_iconst (0) 131 dX12_carriage_130 rfl (by decide) ?_
      refine a_bastore 132 dX12_carriage_131 rfl (by repeat (first | assumption | (refine rg_ne (by first | decide | omega) ?_) | apply rg_eq | refine rg_fr (by assumption) (by first | decide | (simp; omega)) ?_)) vc ?_
      refine a_iinc _ 135 dX12_carriage_132 rfl rfl (by decide) rfl ?_
      refine a_goto 74 dX12_carriage_135 (by decide) ?_
      exact ih (c + 1) _ _ _ _ _ _ (by omega) (nI_1 c) (rg_ne (by decide) (rg_ne (by decide) (rg_ne (by decide) (rg_ne (by decide) e38)))) (rg_ne (by decide) (rg_ne (by decide) (rg_ne (by decide) (rg_eq e39)))) (rg_ne (by decide) (rg_ne (by decide) (rg_eq (rg_ne (by decide) e40)))) (rg_ne (by decide) (rg_eq (rg_ne (by decide) (rg_ne (by decide) e41)))) (rg_ne (by decide) (rg_ne (by decide) (rg_ne (by decide) (rg_ne (by decide) e42)))) (rg_ne (by decide) (rg_ne (by decide) (rg_ne (by decide) (rg_ne (by decide) e43)))) (rg_eq (rg_ne (by decide) (rg_ne (by decide) (rg_ne (by decide) e44)))) (fun t ht => by rw [cc]; exact up_lt x39 (by unfold facN; rw [if_pos (Decidable.not_not.mp (fun u => c_93 (nI_le (by omega) (by omega))))]) ht) (fun t ht => by rw [cc]; exact up_ge (by omega) y39 ht) (fun t ht => by rw [cc, hnar]; exact up_lt x40 rfl ht) (fun t ht => by rw [cc, hnar]; exact up_ge (by omega) y40 ht) (fun t ht => by rw [cc, hnar]; exact up_lt x41 rfl ht) (fun t ht => by rw [cc, hnar]; exact up_ge (by omega) y41 ht) (fun t ht => by rw [cc, hnar]; exact up_lt x44 rfl ht) (fun t ht => by rw [cc, hnar]; exact up_ge (by omega) y44 ht) (fr_set (fr_set (fr_set (fr_set hf (by decide)) (by decide)) (by decide)) (by decide))
end MCARB2
