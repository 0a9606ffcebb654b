/-! THE MODEL: a look at the spread with three blinds more -/
section MLOOK
variable {l : Launch} {G : rG} {h : rH} {T : Tn} {i : Nat → Int32} {j : Nat → Int64} {ga gb : Nat → Int32}
set_option maxRecDepth 100000 in
set_option maxHeartbeats 400000 in
theorem m_hangGap (q : mX G h T i j) (o : okC T.1) (h54 : h[54]? = some (.inl (gA G 0, 64, .inl ga))) (h55 : h[55]? = some (.inl (gA G 0, 64, .inl gb))) {p g : Nat} (hp : p < 64) (hg : g < 64) (hgo : gapOk T.wi T.n g = true) (ea : ga p = nI (g / 2)) (eb : gb p = nI (othN T.wi g)) {x : Int32} (hx : x = 0 ∨ x = 1) : rM l G 1 mX12_hangGap 0 0 [.ref (gN G + 38), .int (nI p), .int x] h (fun h' v => v = none ∧ mX G h' (setB T (upd T.B g x)) i j ∧ fr h h' [40, 41]) := by
  have hm := q.at
  have hn32 := okC_n o
  have hd := gp_D T.wi o.1 T.lo o.2.1 g hg
  rw [hgo] at hd
  simp only [Bool.not_true, Bool.false_or, Bool.and_eq_true, decide_eq_true_eq] at hd
  have vp : vp_in (nI p) 64 := vp_in_nI hp (by decide)
  have cp : (nI p).toNatClampNeg = p := nI_clamp (by omega)
  obtain ⟨⟨⟨fn, a1, a2, a3, a4, a5, a6, a7, a8, a9⟩, -⟩, -⟩ := id q
  refine rM_start (by decide) (Nat.le_of_ble_eq_true rfl) ?_
  refine a_aload_n 1 dX12_hangGap_0 rfl rfl ?_
  refine a_aload_n 2 dX12_hangGap_1 rfl rfl ?_
  refine a_get fd_X12_56 rfl 5 dX12_hangGap_2 rfl (by repeat (first | assumption | (refine rg_ne (by first | decide | omega) ?_) | apply rg_eq | refine rg_fr (by assumption) (by first | decide | (simp; omega)) ?_)) rfl ?_
  refine a_iload_n 6 dX12_hangGap_5 rfl rfl ?_
  refine a_iaload 7 dX12_hangGap_6 rfl (by repeat (first | assumption | (refine rg_ne (by first | decide | omega) ?_) | apply rg_eq | refine rg_fr (by assumption) (by first | decide | (simp; omega)) ?_)) vp ?_
  rw [cp, ea]
  refine a_aload_n 8 dX12_hangGap_7 rfl rfl ?_
  refine a_get fd_X12_59 rfl 11 dX12_hangGap_8 rfl (by repeat (first | assumption | (refine rg_ne (by first | decide | omega) ?_) | apply rg_eq | refine rg_fr (by assumption) (by first | decide | (simp; omega)) ?_)) rfl ?_
  refine a_iload_n 12 dX12_hangGap_11 rfl rfl ?_
  refine a_iaload 13 dX12_hangGap_12 rfl (by repeat (first | assumption | (refine rg_ne (by first | decide | omega) ?_) | apply rg_eq | refine rg_fr (by assumption) (by first | decide | (simp; omega)) ?_)) vp ?_
  rw [cp, eb]
  refine a_iload_n 14 dX12_hangGap_13 rfl rfl ?_
  refine a_callV ok_X12_hang ln_X12_188 in_X12_hang rfl 17 dX12_hangGap_14 rfl (k_X12_hang hm a2 a3 a6 a7 (k := g / 2) (d := othN T.wi g) (by exact Nat.lt_of_lt_of_le hd.2 hn32) (by exact Nat.lt_of_lt_of_le hd.1.2 hn32) hx) (by repeat (first | assumption | (refine rg_ne (by first | decide | omega) ?_) | apply rg_eq | refine rg_fr (by assumption) (by first | decide | (simp; omega)) ?_)) rfl rfl rfl ⟨(Nat.le_of_ble_eq_true rfl), (Nat.le_of_ble_eq_true rfl)⟩ (Nat.le_of_ble_eq_true rfl) ⟨(Nat.le_of_ble_eq_true rfl), (Nat.le_of_ble_eq_true rfl)⟩ ?_
  rintro h2 v ⟨rfl, x40, x41, f2⟩
  have q2 := mX_B q o hx x40 x41 f2
  rw [hd.1.1] at q2
  exact a_return dX12_hangGap_17 rfl (Nat.le_of_ble_eq_true rfl) (Nat.le_of_ble_eq_true rfl) ⟨rfl, q2, f2⟩
abbrev bst : Type := Int32 × Int32 × Int32 × Int32
def lookI (v : Int32) (s : bst) (a b c : Nat) : bst := if s.1 < 0 ∨ v < s.1 then (v, nI a, nI b, nI c) else s
abbrev hB3 (T : Tn) (a b c : Nat) : Tn := setB T (upd (upd (upd T.B a 1) b 1) c 1)
abbrev cosI (T : Tn) (z a b c : Nat) : Int32 := nI (sprT (hB3 T a b c) z)
theorem hang_back {B : Nat → Int32} {a b c : Nat} (ha : B a = 0) (hb : B b = 0) (hc : B c = 0) : upd (upd (upd (upd (upd (upd B a 1) b 1) c 1) a 0) b 0) c 0 = B := by
  funext g
  by_cases e1 : g = c
  · subst e1; rw [pk_us, hc]
  · rw [pk_un e1]
    by_cases e2 : g = b
    · subst e2; rw [pk_us, hb]
    · rw [pk_un e2]
      by_cases e3 : g = a
      · subst e3; rw [pk_us, ha]
      · rw [pk_un e3, pk_un e1, pk_un e2, pk_un e3]
theorem ok_setB (o : T.ok) {B : Nat → Int32} (hB : isB B) : (setB T B).ok := ⟨okC_B o.1 hB, o.2⟩
theorem frP_B {C : CarT} {g : Nat} (h : frP C g = true) : gapOk C.2.2.1 (C.2.2.2.1 * C.2.2.1) g = true ∧ C.2.1 g = 0 := by
  have h2 : (gapOk C.2.2.1 (C.2.2.2.1 * C.2.2.1) g && decide (C.2.1 g = 0)) = true := h
  simp only [Bool.and_eq_true, decide_eq_true_eq] at h2
  exact h2
theorem mk_56 {h' : rH} {S : List Nat} {f : Nat → Int32} (q : mkAt G h) (e : h'[56]? = some (.inl (gA G 0, 3, .inl f))) (hf : fr h h' S) (hS : ∀ k ∈ S, k ≠ 42 ∧ k ≠ 50 ∧ k ≠ 53 ∧ k ≠ 54 ∧ k ≠ 55 ∧ k ≠ 60) : mkAt G h' := by
  obtain ⟨p42, p50, p53, p54, p55, -, p60⟩ := q
  have hp := kp_fr hf
  exact ⟨ex_kp p42 hp (fun u => (hS _ u).1 rfl), ex_kp p50 hp (fun u => (hS _ u).2.1 rfl), ex_kp p53 hp (fun u => (hS _ u).2.2.1 rfl), ex_kp p54 hp (fun u => (hS _ u).2.2.2.1 rfl), ex_kp p55 hp (fun u => (hS _ u).2.2.2.2.1 rfl), ⟨_, e⟩, ex_kp p60 hp (fun u => (hS _ u).2.2.2.2.2 rfl)⟩
theorem lk_e {i f : Nat → Int32} {v a b c : Int32} : (upd i 32 v 32, upd (upd (upd f (0 : Int32).toNatClampNeg a) (1 : Int32).toNatClampNeg b) (2 : Int32).toNatClampNeg c 0, upd (upd (upd f (0 : Int32).toNatClampNeg a) (1 : Int32).toNatClampNeg b) (2 : Int32).toNatClampNeg c 1, upd (upd (upd f (0 : Int32).toNatClampNeg a) (1 : Int32).toNatClampNeg b) (2 : Int32).toNatClampNeg c 2) = (v, a, b, c) := by
  have e0 : (0 : Int32).toNatClampNeg = 0 := by decide
  have e1 : (1 : Int32).toNatClampNeg = 1 := by decide
  have e2 : (2 : Int32).toNatClampNeg = 2 := by decide
  rw [e0, e1, e2]
  rfl
/-- what stands of the search at a time -/
def bsAt (G : rG) (h0 h : rH) (T : Tn) (i0 : Nat → Int32) (j : Nat → Int64) (fr0 many : Nat) (ga gb : Nat → Int32) (s : bst) : Prop := ∃ i f, mX G h T i j ∧ sameI i0 i ∧ i 27 = nI fr0 ∧ i 31 = nI many ∧ h[54]? = some (.inl (gA G 0, 64, .inl ga)) ∧ h[55]? = some (.inl (gA G 0, 64, .inl gb)) ∧ h[56]? = some (.inl (gA G 0, 3, .inl f)) ∧ fr h0 h [38, 40, 41, 44, 56] ∧ (i 32, f 0, f 1, f 2) = s
set_option maxRecDepth 100000 in
set_option maxHeartbeats 400000 in
theorem m_look {h0 : rH} {i0 : Nat → Int32} {fr0 many : Nat} {s : bst} (q0 : bsAt G h0 h T i0 j fr0 many ga gb s) (o : T.ok) {z : Nat} (hz : z < T.nl) {pa pb pc g1 g2 g3 : Nat} (hg1 : g1 < 64) (hg2 : g2 < 64) (hg3 : g3 < 64) (f1 : frP T.1 g1 = true) (f2 : frP T.1 g2 = true) (f3 : frP T.1 g3 = true) (hpa : pa < 64) (hpb : pb < 64) (hpc : pc < 64) (e1 : ga pa = nI (g1 / 2) ∧ gb pa = nI (othN T.wi g1)) (e2 : ga pb = nI (g2 / 2) ∧ gb pb = nI (othN T.wi g2)) (e3 : ga pc = nI (g3 / 2) ∧ gb pc = nI (othN T.wi g3)) : rM l G 6 mX12_look 0 0 [.ref (gN G + 38), .int (nI z), .int (nI pa), .int (nI pb), .int (nI pc)] h (fun h' v => v = none ∧ bsAt G h0 h' T i0 j fr0 many ga gb (lookI (cosI T z g1 g2 g3) s pa pb pc)) := by
  obtain ⟨i, f, q, si, g27, g31, h54, h55, h56, hf, hs⟩ := q0
  have hm := q.at
  have B1 : isB (upd T.B g1 1) := isB_upd o.1.2.2.2.1 (Or.inr rfl)
  have B2 : isB (upd (upd T.B g1 1) g2 1) := isB_upd B1 (Or.inr rfl)
  have B3 : isB (upd (upd (upd T.B g1 1) g2 1) g3 1) := isB_upd B2 (Or.inr rfl)
  have B4 : isB (upd (upd (upd (upd T.B g1 1) g2 1) g3 1) g1 0) := isB_upd B3 (Or.inl rfl)
  have B5 : isB (upd (upd (upd (upd (upd T.B g1 1) g2 1) g3 1) g1 0) g2 0) := isB_upd B4 (Or.inl rfl)
  have hback := hang_back (frP_B f1).2 (frP_B f2).2 (frP_B f3).2
  refine rM_start (by decide) (Nat.le_of_ble_eq_true rfl) ?_
  refine a_aload_n 1 dX12_look_0 rfl rfl ?_
  refine a_iload_n 2 dX12_look_1 rfl rfl ?_
  refine a_iconst (1) 3 dX12_look_2 rfl (by decide) ?_
  refine a_callV ok_X12_hangGap ln_X12_283 in_X12_hangGap rfl 6 dX12_look_3 rfl (m_hangGap q o.1 h54 h55 hpa hg1 (frP_B f1).1 e1.1 e1.2 (Or.inr rfl)) (by repeat (first | assumption | (refine rg_ne (by first | decide | omega) ?_) | apply rg_eq | refine rg_fr (by assumption) (by first | decide | (simp; omega)) ?_)) rfl rfl rfl ⟨(Nat.le_of_ble_eq_true rfl), (Nat.le_of_ble_eq_true rfl)⟩ (Nat.le_of_ble_eq_true rfl) ⟨(Nat.le_of_ble_eq_true rfl), (Nat.le_of_ble_eq_true rfl)⟩ ?_
  rintro h1 v ⟨rfl, q1, F1⟩
  have m1 := q1.at
  refine a_aload_n 7 dX12_look_6 rfl rfl ?_
  refine a_iload_n 8 dX12_look_7 rfl rfl ?_
  refine a_iconst (1) 9 dX12_look_8 rfl (by decide) ?_
  refine a_callV ok_X12_hangGap ln_X12_283 in_X12_hangGap rfl 12 dX12_look_9 rfl (m_hangGap (T := setB T (upd T.B g1 1)) q1 (okC_B o.1 B1) (rg_fr F1 (by decide) h54) (rg_fr F1 (by decide) h55) hpb hg2 (frP_B f2).1 e2.1 e2.2 (Or.inr rfl)) (by repeat (first | assumption | (refine rg_ne (by first | decide | omega) ?_) | apply rg_eq | refine rg_fr (by assumption) (by first | decide | (simp; omega)) ?_)) rfl rfl rfl ⟨(Nat.le_of_ble_eq_true rfl), (Nat.le_of_ble_eq_true rfl)⟩ (Nat.le_of_ble_eq_true rfl) ⟨(Nat.le_of_ble_eq_true rfl), (Nat.le_of_ble_eq_true rfl)⟩ ?_
  rintro h2 v ⟨rfl, q2, F2'⟩
  have m2 := q2.at
  have F2 : fr h h2 [40, 41] := fr_trans F1 F2' (by decide)
  refine a_aload_n 13 dX12_look_12 rfl rfl ?_
  refine a_iload 15 dX12_look_13 rfl rfl ?_
  refine a_iconst (1) 16 dX12_look_15 rfl (by decide) ?_
  refine a_callV ok_X12_hangGap ln_X12_283 in_X12_hangGap rfl 19 dX12_look_16 rfl (m_hangGap (T := setB T (upd (upd T.B g1 1) g2 1)) q2 (okC_B o.1 B2) (rg_fr F2 (by decide) h54) (rg_fr F2 (by decide) h55) hpc hg3 (frP_B f3).1 e3.1 e3.2 (Or.inr rfl)) (by repeat (first | assumption | (refine rg_ne (by first | decide | omega) ?_) | apply rg_eq | refine rg_fr (by assumption) (by first | decide | (simp; omega)) ?_)) rfl rfl rfl ⟨(Nat.le_of_ble_eq_true rfl), (Nat.le_of_ble_eq_true rfl)⟩ (Nat.le_of_ble_eq_true rfl) ⟨(Nat.le_of_ble_eq_true rfl), (Nat.le_of_ble_eq_true rfl)⟩ ?_
  rintro h3 v ⟨rfl, q3, F3'⟩
  have m3 := q3.at
  have F3 : fr h h3 [40, 41] := fr_trans F2 F3' (by decide)
  refine a_aload_n 20 dX12_look_19 rfl rfl ?_
  refine a_iload_n 21 dX12_look_20 rfl rfl ?_
  refine a_callV ok_X12_spreadOf ln_X12_277 in_X12_spreadOf rfl 24 dX12_look_21 rfl (m_spreadOf (T := setB T (upd (upd (upd T.B g1 1) g2 1) g3 1)) q3 (ok_setB o B3) hz) (by repeat (first | assumption | (refine rg_ne (by first | decide | omega) ?_) | apply rg_eq | refine rg_fr (by assumption) (by first | decide | (simp; omega)) ?_)) rfl rfl rfl ⟨(Nat.le_of_ble_eq_true rfl), (Nat.le_of_ble_eq_true rfl)⟩ (Nat.le_of_ble_eq_true rfl) ⟨(Nat.le_of_ble_eq_true rfl), (Nat.le_of_ble_eq_true rfl)⟩ ?_
  rintro h4 v ⟨rfl, q4, F4'⟩
  have m4 := q4.at
  have F4 : fr h h4 [40, 41, 44] := fr_trans (fr_mono F3 (by decide)) F4' (by decide)
  refine a_istore 26 dX12_look_24 rfl (by decide) ?_
  refine a_aload_n 27 dX12_look_26 rfl rfl ?_
  refine a_iload_n 28 dX12_look_27 rfl rfl ?_
  refine a_iconst (0) 29 dX12_look_28 rfl (by decide) ?_
  refine a_callV ok_X12_hangGap ln_X12_283 in_X12_hangGap rfl 32 dX12_look_29 rfl (m_hangGap (T := setB T (upd (upd (upd T.B g1 1) g2 1) g3 1)) q4 (okC_B o.1 B3) (rg_fr F4 (by decide) h54) (rg_fr F4 (by decide) h55) hpa hg1 (frP_B f1).1 e1.1 e1.2 (Or.inl rfl)) (by repeat (first | assumption | (refine rg_ne (by first | decide | omega) ?_) | apply rg_eq | refine rg_fr (by assumption) (by first | decide | (simp; omega)) ?_)) rfl rfl rfl ⟨(Nat.le_of_ble_eq_true rfl), (Nat.le_of_ble_eq_true rfl)⟩ (Nat.le_of_ble_eq_true rfl) ⟨(Nat.le_of_ble_eq_true rfl), (Nat.le_of_ble_eq_true rfl)⟩ ?_
  rintro h5 v ⟨rfl, q5, F5'⟩
  have m5 := q5.at
  have F5 : fr h h5 [40, 41, 44] := fr_trans F4 F5' (by decide)
  refine a_aload_n 33 dX12_look_32 rfl rfl ?_
  refine a_iload_n 34 dX12_look_33 rfl rfl ?_
  refine a_iconst (0) 35 dX12_look_34 rfl (by decide) ?_
  refine a_callV ok_X12_hangGap ln_X12_283 in_X12_hangGap rfl 38 dX12_look_35 rfl (m_hangGap (T := setB T (upd (upd (upd (upd T.B g1 1) g2 1) g3 1) g1 0)) q5 (okC_B o.1 B4) (rg_fr F5 (by decide) h54) (rg_fr F5 (by decide) h55) hpb hg2 (frP_B f2).1 e2.1 e2.2 (Or.inl rfl)) (by repeat (first | assumption | (refine rg_ne (by first | decide | omega) ?_) | apply rg_eq | refine rg_fr (by assumption) (by first | decide | (simp; omega)) ?_)) rfl rfl rfl ⟨(Nat.le_of_ble_eq_true rfl), (Nat.le_of_ble_eq_true rfl)⟩ (Nat.le_of_ble_eq_true rfl) ⟨(Nat.le_of_ble_eq_true rfl), (Nat.le_of_ble_eq_true rfl)⟩ ?_
  rintro h6 v ⟨rfl, q6, F6'⟩
  have m6 := q6.at
  have F6 : fr h h6 [40, 41, 44] := fr_trans F5 F6' (by decide)
  refine a_aload_n 39 dX12_look_38 rfl rfl ?_
  refine a_iload 41 dX12_look_39 rfl rfl ?_
  refine a_iconst (0) 42 dX12_look_41 rfl (by decide) ?_
  refine a_callV ok_X12_hangGap ln_X12_283 in_X12_hangGap rfl 45 dX12_look_42 rfl (m_hangGap (T := setB T (upd (upd (upd (upd (upd T.B g1 1) g2 1) g3 1) g1 0) g2 0)) q6 (okC_B o.1 B5) (rg_fr F6 (by decide) h54) (rg_fr F6 (by decide) h55) hpc hg3 (frP_B f3).1 e3.1 e3.2 (Or.inl rfl)) (by repeat (first | assumption | (refine rg_ne (by first | decide | omega) ?_) | apply rg_eq | refine rg_fr (by assumption) (by first | decide | (simp; omega)) ?_)) rfl rfl rfl ⟨(Nat.le_of_ble_eq_true rfl), (Nat.le_of_ble_eq_true rfl)⟩ (Nat.le_of_ble_eq_true rfl) ⟨(Nat.le_of_ble_eq_true rfl), (Nat.le_of_ble_eq_true rfl)⟩ ?_
  rintro h7 v ⟨rfl, q7', F7'⟩
  have m7 := q7'.at
  have F7 : fr h h7 [40, 41, 44] := fr_trans F6 F7' (by decide)
  have q7 : mX G h7 T i j := by
    have u : mX G h7 (setB T (upd (upd (upd (upd (upd (upd T.B g1 1) g2 1) g3 1) g1 0) g2 0) g3 0)) i j := q7'
    rw [hback] at u
    exact u
  have k54 := rg_fr F7 (by decide) h54
  have k55 := rg_fr F7 (by decide) h55
  have k56 := rg_fr F7 (by decide) h56
  have FF : fr h0 h7 [38, 40, 41, 44, 56] := fr_trans hf F7 (by decide)
  refine a_aload_n 46 dX12_look_45 rfl rfl ?_
  refine a_get fd_X12_287 rfl 49 dX12_look_46 rfl (by repeat (first | assumption | (refine rg_ne (by first | decide | omega) ?_) | apply rg_eq | refine rg_fr (by assumption) (by first | decide | (simp; omega)) ?_)) rfl ?_
  refine a_if_lt 61 52 dX12_look_49 rfl (by decide) (fun c_49 => ?_) (fun c_49 => ?_)
  · refine a_aload_n 62 dX12_look_61 rfl rfl ?_
    refine a_iload 64 dX12_look_62 rfl rfl ?_
    refine a_put fd_X12_287 cl_X12 rfl 67 dX12_look_64 rfl (by repeat (first | assumption | (refine rg_ne (by first | decide | omega) ?_) | apply rg_eq | refine rg_fr (by assumption) (by first | decide | (simp; omega)) ?_)) (Nat.le_of_ble_eq_true rfl) rfl rfl rfl ?_
    refine a_aload_n 68 dX12_look_67 rfl rfl ?_
    refine a_get fd_X12_62 rfl 71 dX12_look_68 rfl (by repeat (first | assumption | (refine rg_ne (by first | decide | omega) ?_) | apply rg_eq | refine rg_fr (by assumption) (by first | decide | (simp; omega)) ?_)) rfl ?_
    refine a_iconst (0) 72 dX12_look_71 rfl (by decide) ?_
    refine a_iload_n 73 dX12_look_72 rfl rfl ?_
    refine a_iastore 74 dX12_look_73 rfl (by repeat (first | assumption | (refine rg_ne (by first | decide | omega) ?_) | apply rg_eq | refine rg_fr (by assumption) (by first | decide | (simp; omega)) ?_)) (vp_in_nI (n := 0) (by decide) (by decide)) ?_
    refine a_aload_n 75 dX12_look_74 rfl rfl ?_
    refine a_get fd_X12_62 rfl 78 dX12_look_75 rfl (by repeat (first | assumption | (refine rg_ne (by first | decide | omega) ?_) | apply rg_eq | refine rg_fr (by assumption) (by first | decide | (simp; omega)) ?_)) rfl ?_
    refine a_iconst (1) 79 dX12_look_78 rfl (by decide) ?_
    refine a_iload_n 80 dX12_look_79 rfl rfl ?_
    refine a_iastore 81 dX12_look_80 rfl (by repeat (first | assumption | (refine rg_ne (by first | decide | omega) ?_) | apply rg_eq | refine rg_fr (by assumption) (by first | decide | (simp; omega)) ?_)) (vp_in_nI (n := 1) (by decide) (by decide)) ?_
    refine a_aload_n 82 dX12_look_81 rfl rfl ?_
    refine a_get fd_X12_62 rfl 85 dX12_look_82 rfl (by repeat (first | assumption | (refine rg_ne (by first | decide | omega) ?_) | apply rg_eq | refine rg_fr (by assumption) (by first | decide | (simp; omega)) ?_)) rfl ?_
    refine a_iconst (2) 86 dX12_look_85 rfl (by decide) ?_
    refine a_iload 88 dX12_look_86 rfl rfl ?_
    refine a_iastore 89 dX12_look_88 rfl (by repeat (first | assumption | (refine rg_ne (by first | decide | omega) ?_) | apply rg_eq | refine rg_fr (by assumption) (by first | decide | (simp; omega)) ?_)) (vp_in_nI (n := 2) (by decide) (by decide)) ?_
    exact a_return dX12_look_89 rfl (Nat.le_of_ble_eq_true rfl) (Nat.le_of_ble_eq_true rfl) ⟨rfl, upd i 32 _, _, mX_w q7 (rg_ne (by decide) (rg_ne (by decide) (rg_ne (by decide) (rg_eq m7)))) (mk_56 q7.2.2.2.2.2.1 (rg_eq (rg_eq (rg_eq (rg_ne (by decide) k56)))) (fr_set (fr_set (fr_set (fr_set (fr_refl _ _) (by decide)) (by decide)) (by decide)) (by decide) : fr _ _ [38, 56]) (by decide)) (fr_set (fr_set (fr_set (fr_set (fr_refl _ _) (by decide)) (by decide)) (by decide)) (by decide) : fr _ _ [38, 56]) (by decide) ⟨rfl, rfl, rfl, rfl, rfl, rfl, rfl, rfl⟩, si, g27, g31, rg_ne (by decide) (rg_ne (by decide) (rg_ne (by decide) (rg_ne (by decide) k54))), rg_ne (by decide) (rg_ne (by decide) (rg_ne (by decide) (rg_ne (by decide) k55))), rg_eq (rg_eq (rg_eq (rg_ne (by decide) k56))), fr_set (fr_set (fr_set (fr_set FF (by decide)) (by decide)) (by decide)) (by decide), by rw [← hs]; unfold lookI; rw [if_pos (Or.inl c_49)]; exact lk_e⟩
  · refine a_iload 54 dX12_look_52 rfl rfl ?_
    refine a_aload_n 55 dX12_look_54 rfl rfl ?_
    refine a_get fd_X12_287 rfl 58 dX12_look_55 rfl (by repeat (first | assumption | (refine rg_ne (by first | decide | omega) ?_) | apply rg_eq | refine rg_fr (by assumption) (by first | decide | (simp; omega)) ?_)) rfl ?_
    refine a_icmp_ge 89 61 dX12_look_58 rfl (by decide) (fun c_58 => ?_) (fun c_58 => ?_)
    · exact a_return dX12_look_89 rfl (Nat.le_of_ble_eq_true rfl) (Nat.le_of_ble_eq_true rfl) ⟨rfl, i, f, q7, si, g27, g31, k54, k55, k56, FF, by rw [hs]; unfold lookI; rw [if_neg (fun u => by rw [← hs] at u; rcases u with u | u; exact c_49 u; exact absurd u (Int32.not_lt.mpr c_58))]⟩
    · refine a_aload_n 62 dX12_look_61 rfl rfl ?_
      refine a_iload 64 dX12_look_62 rfl rfl ?_
      refine a_put fd_X12_287 cl_X12 rfl 67 dX12_look_64 rfl (by repeat (first | assumption | (refine rg_ne (by first | decide | omega) ?_) | apply rg_eq | refine rg_fr (by assumption) (by first | decide | (simp; omega)) ?_)) (Nat.le_of_ble_eq_true rfl) rfl rfl rfl ?_
      refine a_aload_n 68 dX12_look_67 rfl rfl ?_
      refine a_get fd_X12_62 rfl 71 dX12_look_68 rfl (by repeat (first | assumption | (refine rg_ne (by first | decide | omega) ?_) | apply rg_eq | refine rg_fr (by assumption) (by first | decide | (simp; omega)) ?_)) rfl ?_
      refine a_iconst (0) 72 dX12_look_71 rfl (by decide) ?_
      refine a_iload_n 73 dX12_look_72 rfl rfl ?_
      refine a_iastore 74 dX12_look_73 rfl (by repeat (first | assumption | (refine rg_ne (by first | decide | omega) ?_) | apply rg_eq | refine rg_fr (by assumption) (by first | decide | (simp; omega)) ?_)) (vp_in_nI (n := 0) (by decide) (by decide)) ?_
      refine a_aload_n 75 dX12_look_74 rfl rfl ?_
      refine a_get fd_X12_62 rfl 78 dX12_look_75 rfl (by repeat (first | assumption | (refine rg_ne (by first | decide | omega) ?_) | apply rg_eq | refine rg_fr (by assumption) (by first | decide | (simp; omega)) ?_)) rfl ?_
      refine a_iconst (1) 79 dX12_look_78 rfl (by decide) ?_
      refine a_iload_n 80 dX12_look_79 rfl rfl ?_
      refine a_iastore 81 dX12_look_80 rfl (by repeat (first | assumption | (refine rg_ne (by first | decide | omega) ?_) | apply rg_eq | refine rg_fr (by assumption) (by first | decide | (simp; omega)) ?_)) (vp_in_nI (n := 1) (by decide) (by decide)) ?_
      refine a_aload_n 82 dX12_look_81 rfl rfl ?_
      refine a_get fd_X12_62 rfl 85 dX12_look_82 rfl (by repeat (first | assumption | (refine rg_ne (by first | decide | omega) ?_) | apply rg_eq | refine rg_fr (by assumption) (by first | decide | (simp; omega)) ?_)) rfl ?_
      refine a_iconst (2) 86 dX12_look_85 rfl (by decide) ?_
      refine a_iload 88 dX12_look_86 rfl rfl ?_
      refine a_iastore 89 dX12_look_88 rfl (by repeat (first | assumption | (refine rg_ne (by first | decide | omega) ?_) | apply rg_eq | refine rg_fr (by assumption) (by first | decide | (simp; omega)) ?_)) (vp_in_nI (n := 2) (by decide) (by decide)) ?_
      exact a_return dX12_look_89 rfl (Nat.le_of_ble_eq_true rfl) (Nat.le_of_ble_eq_true rfl) ⟨rfl, upd i 32 _, _, mX_w q7 (rg_ne (by decide) (rg_ne (by decide) (rg_ne (by decide) (rg_eq m7)))) (mk_56 q7.2.2.2.2.2.1 (rg_eq (rg_eq (rg_eq (rg_ne (by decide) k56)))) (fr_set (fr_set (fr_set (fr_set (fr_refl _ _) (by decide)) (by decide)) (by decide)) (by decide) : fr _ _ [38, 56]) (by decide)) (fr_set (fr_set (fr_set (fr_set (fr_refl _ _) (by decide)) (by decide)) (by decide)) (by decide) : fr _ _ [38, 56]) (by decide) ⟨rfl, rfl, rfl, rfl, rfl, rfl, rfl, rfl⟩, si, g27, g31, rg_ne (by decide) (rg_ne (by decide) (rg_ne (by decide) (rg_ne (by decide) k54))), rg_ne (by decide) (rg_ne (by decide) (rg_ne (by decide) (rg_ne (by decide) k55))), rg_eq (rg_eq (rg_eq (rg_ne (by decide) k56))), fr_set (fr_set (fr_set (fr_set FF (by decide)) (by decide)) (by decide)) (by decide), by rw [← hs]; unfold lookI; rw [if_pos (Or.inr (Int32.not_le.mp c_58))]; exact lk_e⟩
end MLOOK
