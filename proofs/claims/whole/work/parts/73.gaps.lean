/-! THE GAPS without a blind, in order; the class's plan begun -/
def gapOk (wi n g : Nat) : Bool := decide (g / 2 < n) && (if g % 2 = 0 then decide (g / 2 % wi + 1 < wi) else decide (g / 2 + wi < n))
def cntB (P : Nat → Bool) : Nat → Nat
  | 0 => 0
  | n + 1 => cntB P n + if P n then 1 else 0
abbrev frP (C : CarT) (g : Nat) : Bool := gapOk C.2.2.1 (C.2.2.2.1 * C.2.2.1) g && decide (C.2.1 g = 0)
abbrev rkP (C : CarT) (g : Nat) : Nat := cntB (frP C) g
abbrev lnN (wi g : Nat) : Nat := if g % 2 = 0 then g / 2 / wi else 32 + g / 2 % wi
theorem cntB_le {P Q : Nat → Bool} (h : ∀ g, P g = true → Q g = true) : ∀ n, cntB P n ≤ cntB Q n
  | 0 => Nat.le_refl _
  | n + 1 => by
    have ih := cntB_le h n
    rw [cntB, cntB]
    by_cases e : P n = true
    · rw [if_pos e, if_pos (h n e)]; omega
    · rw [if_neg e]; omega
theorem cntB_mono {P : Nat → Bool} {a : Nat} : ∀ {b : Nat}, a ≤ b → cntB P a ≤ cntB P b
  | 0, h => by rw [show a = 0 by omega]; exact Nat.le_refl _
  | b + 1, h => by
    by_cases e : a = b + 1
    · rw [e]; exact Nat.le_refl _
    · have := cntB_mono (P := P) (a := a) (b := b) (by omega)
      rw [cntB]; omega
theorem cntB_lt {P : Nat → Bool} {a b : Nat} (h : a < b) (hp : P a = true) : cntB P a < cntB P b := by
  have h1 := cntB_mono (P := P) (show a + 1 ≤ b by omega)
  rw [cntB, if_pos hp] at h1
  omega
theorem gaps_52 : ∀ wi, wi < 5 → ∀ le, le < 9 → cntB (gapOk wi (le * wi)) 64 ≤ 52 := by decide +kernel
theorem rk_52 {C : CarT} (o : okC C) {g : Nat} (hg : g ≤ 64) : rkP C g ≤ 52 :=
  Nat.le_trans (cntB_mono hg) (Nat.le_trans (cntB_le (fun g h => by rw [Bool.and_eq_true] at h; exact h.1) 64) (gaps_52 C.2.2.1 o.1 C.2.2.2.1 o.2.1))
theorem rk_lt {C : CarT} (o : okC C) {g : Nat} (hg : g < 64) (hp : frP C g = true) : rkP C g < 52 :=
  Nat.lt_of_lt_of_le (cntB_lt hg hp) (rk_52 o (Nat.le_refl _))
theorem gapN_D : ∀ wi, wi < 5 → ∀ le, le < 9 → ∀ c, c < le * wi → (match besN wi le c 3 with | none => !gapOk wi (le * wi) (2 * c) | some d => decide (d < le * wi ∧ hearD wi le c d = true ∧ gpN wi c d = 2 * c) && gapOk wi (le * wi) (2 * c)) = true ∧ (match besN wi le c 1 with | none => !gapOk wi (le * wi) (2 * c + 1) | some d => decide (d < le * wi ∧ hearD wi le c d = true ∧ gpN wi c d = 2 * c + 1) && gapOk wi (le * wi) (2 * c + 1)) = true := by decide +kernel
/-- the gap of a seat on its right (b = 0) or behind (b = 1) -/
theorem gap_at {C : CarT} (o : okC C) {c b : Nat} (hc : c < C.2.2.2.1 * C.2.2.1) (hb : b < 2) : (match besN C.2.2.1 C.2.2.2.1 c (3 - 2 * b) with | none => gapOk C.2.2.1 (C.2.2.2.1 * C.2.2.1) (2 * c + b) = false | some d => d < C.2.2.2.1 * C.2.2.1 ∧ hearD C.2.2.1 C.2.2.2.1 c d = true ∧ gpN C.2.2.1 c d = 2 * c + b ∧ gapOk C.2.2.1 (C.2.2.2.1 * C.2.2.1) (2 * c + b) = true) := by
  have h := gapN_D C.2.2.1 o.1 C.2.2.2.1 o.2.1 c hc
  rcases (show b = 0 ∨ b = 1 by omega) with e | e
  · subst e
    have h1 := h.1
    show (match besN C.2.2.1 C.2.2.2.1 c 3 with | none => _ | some d => _)
    cases hn : besN C.2.2.1 C.2.2.2.1 c 3 with
    | none => rw [hn] at h1; simpa using h1
    | some d => rw [hn] at h1; simp only [Bool.and_eq_true, decide_eq_true_eq] at h1; exact ⟨h1.1.1, h1.1.2.1, h1.1.2.2, h1.2⟩
  · subst e
    have h1 := h.2
    show (match besN C.2.2.1 C.2.2.2.1 c 1 with | none => _ | some d => _)
    cases hn : besN C.2.2.1 C.2.2.2.1 c 1 with
    | none => rw [hn] at h1; simpa using h1
    | some d => rw [hn] at h1; simp only [Bool.and_eq_true, decide_eq_true_eq] at h1; exact ⟨h1.1.1, h1.1.2.1, h1.1.2.2, h1.2⟩
def plI (C : CarT) (k : Nat) (ga pl li : Nat → Int32) : Prop := ∀ j, j < k → frP C j = true → ga (rkP C j) = nI j ∧ pl j = nI (rkP C j) ∧ li (rkP C j) = nI (lnN C.2.2.1 j)
theorem plI_s {C : CarT} {g : Nat} {ga pl li : Nat → Int32} (h : plI C g ga pl li) : plI C (g + 1) (upd ga (rkP C g) (nI g)) (upd pl g (nI (rkP C g))) (upd li (rkP C g) (nI (lnN C.2.2.1 g))) := by
  intro j hj hp
  by_cases e : j = g
  · subst e; exact ⟨pk_us, pk_us, pk_us⟩
  · have hjg : j < g := by omega
    have hr : rkP C j ≠ rkP C g := fun z => by have : rkP C j < rkP C g := cntB_lt hjg hp; omega
    rw [pk_un hr, pk_un e, pk_un hr]
    exact h j hjg hp
theorem plI_n {C : CarT} {g : Nat} {ga pl li : Nat → Int32} (h : plI C g ga pl li) (hp : ¬ frP C g = true) : plI C (g + 1) ga pl li := by
  intro j hj hp2
  by_cases e : j = g
  · subst e; exact absurd hp2 hp
  · exact h j (by omega) hp2
section GAPS
variable {l : Launch} {G : rG} {h : rH} {C : CarT} {tk sv bc : Int32} {ga pl li al bo pa ch f s L : Nat → Int32}
set_option maxRecDepth 100000 in
set_option maxHeartbeats 400000 in
theorem k_X0_addGap (o : okC C) {c b : Nat} (hc : c < C.2.2.2.1 * C.2.2.1) (hb : b < 2) (hp : plAt G h (nI (rkP C (2 * c + b))) tk sv ga pl li al bo pa ch) (hI : plI C (2 * c + b) ga pl li) (hcc : ccAt G h (nI C.2.2.1) (nI (C.2.2.2.1 * C.2.2.1)) (bI C.2.2.2.2.1) bc f s L C.2.1) : rM l G 3 mX0_addGap 0 0 [.ref (gN G + 17), .ref (gN G + 7), .int (nI c), .int (nI (3 - 2 * b))] h (fun h' v => v = none ∧ (∃ ga' pl' li', plAt G h' (nI (rkP C (2 * c + b + 1))) tk sv ga' pl' li' al bo pa ch ∧ plI C (2 * c + b + 1) ga' pl' li') ∧ fr h h' [17, 18, 19, 20]) := by
  have hn32 := okC_n o
  obtain ⟨g7, g8, g9, g10, g11⟩ := hcc
  have hp0 := hp
  obtain ⟨p1, p2, p3, p4, p5, p6, p7, p8⟩ := hp
  have en := nxS_D C.2.2.1 o.1 C.2.2.2.1 o.2.1 c hc (3 - 2 * b) (by omega)
  have hga := gap_at o hc hb
  have hg64 : 2 * c + b < 64 := by omega
  cases hn : besN C.2.2.1 C.2.2.2.1 c (3 - 2 * b) with
  | none =>
    rw [hn] at en hga
    have hP : ¬ frP C (2 * c + b) = true := by
      unfold frP
      rw [show gapOk C.2.2.1 (C.2.2.2.1 * C.2.2.1) (2 * c + b) = false from hga, Bool.false_and]
      decide
    have er : rkP C (2 * c + b + 1) = rkP C (2 * c + b) := by unfold rkP; rw [cntB, if_neg hP]; rfl
    refine rM_start (by decide) (Nat.le_of_ble_eq_true rfl) ?_
    refine a_aload_n 1 dX0_addGap_0 rfl rfl ?_
    refine a_iload_n 2 dX0_addGap_1 rfl rfl ?_
    refine a_iload_n 3 dX0_addGap_2 rfl rfl ?_
    refine a_callV ok_X1_nextSeat ln_X0_46 in_X1_nextSeat rfl 6 dX0_addGap_3 rfl (k_X1_nextSeat g7 (nI c) (nI (3 - 2 * b))) (by repeat (first | assumption | (refine rg_ne (by first | decide | omega) ?_) | apply rg_eq | refine rg_fr (by assumption) (by first | decide | (simp; omega)) ?_)) rfl rfl rfl ⟨(Nat.le_of_ble_eq_true rfl), (Nat.le_of_ble_eq_true rfl)⟩ (Nat.le_of_ble_eq_true rfl) ⟨(Nat.le_of_ble_eq_true rfl), (Nat.le_of_ble_eq_true rfl)⟩ ?_
    rintro _ _ ⟨rfl, rfl⟩
    rw [en]
    refine a_istore 8 dX0_addGap_6 rfl (by decide) ?_
    refine a_iload 10 dX0_addGap_8 rfl rfl ?_
    refine a_bipush (-9) 12 dX0_addGap_10 rfl (by decide) ?_
    refine a_icmp_ne 20 15 dX0_addGap_12 rfl (by decide) (fun c_12 => absurd rfl c_12) (fun c_12 => ?_)
    refine a_bipush (-9) 17 dX0_addGap_15 rfl (by decide) ?_
    refine a_goto 27 dX0_addGap_17 (by decide) ?_
    refine a_istore 29 dX0_addGap_27 rfl (by decide) ?_
    refine a_iload 31 dX0_addGap_29 rfl rfl ?_
    refine a_if_lt 53 34 dX0_addGap_31 rfl (by decide) (fun c_31 => ?_) (fun c_31 => absurd c_31 (by decide))
    exact a_return dX0_addGap_53 rfl (Nat.le_of_ble_eq_true rfl) (Nat.le_of_ble_eq_true rfl) ⟨rfl, ⟨ga, pl, li, by rw [er]; exact hp0, plI_n hI hP⟩, fr_refl _ _⟩
  | some d =>
    rw [hn] at en hga
    obtain ⟨hdn, hh, hgp, hok⟩ := hga
    have eg := gap_D C.2.2.1 o.1 C.2.2.2.1 o.2.1 c hc d hdn
    rw [if_pos hh, hgp] at eg
    have hd9 : ¬ nI d = -9 := nI_ne9 (by omega)
    have ebl : blW C.2.1 (nI (2 * c + b)) ↔ ¬ C.2.1 (2 * c + b) = 0 := by
      unfold blW
      rw [nI_clamp (by omega)]
      exact ⟨fun z => z.2.2, fun z => ⟨nI_pos' (by omega), nI_lt (b := 64) hg64 (by decide), z⟩⟩
    by_cases hB : C.2.1 (2 * c + b) = 0
    · have hP : frP C (2 * c + b) = true := by
        unfold frP
        rw [hok, decide_eq_true hB]; rfl
      have er : rkP C (2 * c + b + 1) = rkP C (2 * c + b) + 1 := by unfold rkP; rw [cntB, if_pos hP]
      have hr52 := rk_lt o hg64 hP
      have vg : vp_in (nI (2 * c + b)) 64 := vp_in_nI hg64 (by decide)
      have vr : vp_in (nI (rkP C (2 * c + b))) 52 := vp_in_nI hr52 (by decide)
      have e0 : (nI (2 * c + b)).toNatClampNeg = 2 * c + b := nI_clamp (by omega)
      have e1 : (nI (rkP C (2 * c + b))).toNatClampNeg = rkP C (2 * c + b) := nI_clamp (by omega)
      have hw0 : 0 < C.2.2.1 := by rcases Nat.eq_zero_or_pos C.2.2.1 with z | z; (rw [z] at hc; omega); exact z
      have hwi := o.1
      have hdv : nI c / nI C.2.2.1 = nI (c / C.2.2.1) := pk_div (by omega) hw0 (by omega)
      have hrm : (32 : Int32) + (nI c - nI c / nI C.2.2.1 * nI C.2.2.1) = nI (32 + c % C.2.2.1) := by rw [pk_rem (by omega) hw0 (by omega), show (32 : Int32) = nI 32 from rfl, nI_add]
      have eb3 : nI (3 - 2 * b) = 3 ↔ b = 0 := by
        rw [show (3 : Int32) = nI 3 from rfl, nI_eq (by omega) (by omega)]
        omega
      have hln : ∀ v, (v = nI (c / C.2.2.1) ∧ b = 0 ∨ v = nI (32 + c % C.2.2.1) ∧ ¬ b = 0) → v = nI (lnN C.2.2.1 (2 * c + b)) := by
        intro v hv
        unfold lnN
        rcases hv with ⟨hv, e⟩ | ⟨hv, e⟩
        · subst e
          rw [hv, if_pos (by omega), show (2 * c + 0) / 2 = c by omega]
        · have e2 : b = 1 := by omega
          subst e2
          rw [hv, if_neg (by omega), show (2 * c + 1) / 2 = c by omega]
      refine rM_start (by decide) (Nat.le_of_ble_eq_true rfl) ?_
      refine a_aload_n 1 dX0_addGap_0 rfl rfl ?_
      refine a_iload_n 2 dX0_addGap_1 rfl rfl ?_
      refine a_iload_n 3 dX0_addGap_2 rfl rfl ?_
      refine a_callV ok_X1_nextSeat ln_X0_46 in_X1_nextSeat rfl 6 dX0_addGap_3 rfl (k_X1_nextSeat g7 (nI c) (nI (3 - 2 * b))) (by repeat (first | assumption | (refine rg_ne (by first | decide | omega) ?_) | apply rg_eq | refine rg_fr (by assumption) (by first | decide | (simp; omega)) ?_)) rfl rfl rfl ⟨(Nat.le_of_ble_eq_true rfl), (Nat.le_of_ble_eq_true rfl)⟩ (Nat.le_of_ble_eq_true rfl) ⟨(Nat.le_of_ble_eq_true rfl), (Nat.le_of_ble_eq_true rfl)⟩ ?_
      rintro _ _ ⟨rfl, rfl⟩
      rw [en]
      refine a_istore 8 dX0_addGap_6 rfl (by decide) ?_
      refine a_iload 10 dX0_addGap_8 rfl rfl ?_
      refine a_bipush (-9) 12 dX0_addGap_10 rfl (by decide) ?_
      refine a_icmp_ne 20 15 dX0_addGap_12 rfl (by decide) (fun c_12 => ?_) (fun c_12 => absurd c_12 hd9)
      refine a_aload_n 21 dX0_addGap_20 rfl rfl ?_
      refine a_iload_n 22 dX0_addGap_21 rfl rfl ?_
      refine a_iload 24 dX0_addGap_22 rfl rfl ?_
      refine a_callV ok_X1_gapBetween ln_X0_50 in_X1_gapBetween rfl 27 dX0_addGap_24 rfl (k_X1_gapBetween g7 (nI c) (nI d)) (by repeat (first | assumption | (refine rg_ne (by first | decide | omega) ?_) | apply rg_eq | refine rg_fr (by assumption) (by first | decide | (simp; omega)) ?_)) rfl rfl rfl ⟨(Nat.le_of_ble_eq_true rfl), (Nat.le_of_ble_eq_true rfl)⟩ (Nat.le_of_ble_eq_true rfl) ⟨(Nat.le_of_ble_eq_true rfl), (Nat.le_of_ble_eq_true rfl)⟩ ?_
      rintro _ _ ⟨rfl, rfl⟩
      rw [eg]
      refine a_istore 29 dX0_addGap_27 rfl (by decide) ?_
      refine a_iload 31 dX0_addGap_29 rfl rfl ?_
      refine a_if_lt 53 34 dX0_addGap_31 rfl (by decide) (fun c_31 => absurd c_31 (nI_pos (by omega))) (fun c_31 => ?_)
      refine a_iload 36 dX0_addGap_34 rfl rfl ?_
      refine a_aload_n 37 dX0_addGap_36 rfl rfl ?_
      refine a_get fd_X0_15 rfl 40 dX0_addGap_37 rfl (by repeat (first | assumption | (refine rg_ne (by first | decide | omega) ?_) | apply rg_eq | refine rg_fr (by assumption) (by first | decide | (simp; omega)) ?_)) rfl ?_
      refine a_alen_0 41 dX0_addGap_40 rfl (by repeat (first | assumption | (refine rg_ne (by first | decide | omega) ?_) | apply rg_eq | refine rg_fr (by assumption) (by first | decide | (simp; omega)) ?_)) ?_
      refine a_icmp_ge 53 44 dX0_addGap_41 rfl (by decide) (fun c_41 => absurd c_41 (nI_ge (a := 2 * c + b) (b := 64) hg64 (by decide))) (fun c_41 => ?_)
      refine a_aload_n 45 dX0_addGap_44 rfl rfl ?_
      refine a_iload 47 dX0_addGap_45 rfl rfl ?_
      refine a_callV ok_X1_hasBlind ln_X0_53 in_X1_hasBlind rfl 50 dX0_addGap_47 rfl (k_X1_hasBlind g7 g11 (nI (2 * c + b))) (by repeat (first | assumption | (refine rg_ne (by first | decide | omega) ?_) | apply rg_eq | refine rg_fr (by assumption) (by first | decide | (simp; omega)) ?_)) rfl rfl rfl ⟨(Nat.le_of_ble_eq_true rfl), (Nat.le_of_ble_eq_true rfl)⟩ (Nat.le_of_ble_eq_true rfl) ⟨(Nat.le_of_ble_eq_true rfl), (Nat.le_of_ble_eq_true rfl)⟩ ?_
      rintro _ _ ⟨rfl, rfl⟩
      refine a_if_eq 54 53 dX0_addGap_50 rfl (by decide) (fun c_50 => ?_) (fun c_50 => absurd (if_neg (fun z => ebl.mp z hB)) c_50)
      refine a_aload_n 55 dX0_addGap_54 rfl rfl ?_
      refine a_get fd_X0_57 rfl 58 dX0_addGap_55 rfl (by repeat (first | assumption | (refine rg_ne (by first | decide | omega) ?_) | apply rg_eq | refine rg_fr (by assumption) (by first | decide | (simp; omega)) ?_)) rfl ?_
      refine a_if_le 156 61 dX0_addGap_58 rfl (by decide) (fun c_58 => absurd c_58 (nI_nle hw0 (by omega))) (fun c_58 => ?_)
      refine a_aload_n 62 dX0_addGap_61 rfl rfl ?_
      refine a_get fd_X0_33 rfl 65 dX0_addGap_62 rfl (by repeat (first | assumption | (refine rg_ne (by first | decide | omega) ?_) | apply rg_eq | refine rg_fr (by assumption) (by first | decide | (simp; omega)) ?_)) rfl ?_
      refine a_if_lt 156 68 dX0_addGap_65 rfl (by decide) (fun c_65 => absurd c_65 (nI_pos (by omega))) (fun c_65 => ?_)
      refine a_aload_n 69 dX0_addGap_68 rfl rfl ?_
      refine a_get fd_X0_33 rfl 72 dX0_addGap_69 rfl (by repeat (first | assumption | (refine rg_ne (by first | decide | omega) ?_) | apply rg_eq | refine rg_fr (by assumption) (by first | decide | (simp; omega)) ?_)) rfl ?_
      refine a_aload_n 73 dX0_addGap_72 rfl rfl ?_
      refine a_get fd_X0_9 rfl 76 dX0_addGap_73 rfl (by repeat (first | assumption | (refine rg_ne (by first | decide | omega) ?_) | apply rg_eq | refine rg_fr (by assumption) (by first | decide | (simp; omega)) ?_)) rfl ?_
      refine a_alen_0 77 dX0_addGap_76 rfl (by repeat (first | assumption | (refine rg_ne (by first | decide | omega) ?_) | apply rg_eq | refine rg_fr (by assumption) (by first | decide | (simp; omega)) ?_)) ?_
      refine a_icmp_ge 156 80 dX0_addGap_77 rfl (by decide) (fun c_77 => absurd c_77 (nI_ge (a := rkP C (2 * c + b)) (b := 52) hr52 (by decide))) (fun c_77 => ?_)
      refine a_aload_n 81 dX0_addGap_80 rfl rfl ?_
      refine a_get fd_X0_33 rfl 84 dX0_addGap_81 rfl (by repeat (first | assumption | (refine rg_ne (by first | decide | omega) ?_) | apply rg_eq | refine rg_fr (by assumption) (by first | decide | (simp; omega)) ?_)) rfl ?_
      refine a_aload_n 85 dX0_addGap_84 rfl rfl ?_
      refine a_get fd_X0_18 rfl 88 dX0_addGap_85 rfl (by repeat (first | assumption | (refine rg_ne (by first | decide | omega) ?_) | apply rg_eq | refine rg_fr (by assumption) (by first | decide | (simp; omega)) ?_)) rfl ?_
      refine a_alen_0 89 dX0_addGap_88 rfl (by repeat (first | assumption | (refine rg_ne (by first | decide | omega) ?_) | apply rg_eq | refine rg_fr (by assumption) (by first | decide | (simp; omega)) ?_)) ?_
      refine a_icmp_ge 156 92 dX0_addGap_89 rfl (by decide) (fun c_89 => absurd c_89 (nI_ge (a := rkP C (2 * c + b)) (b := 52) hr52 (by decide))) (fun c_89 => ?_)
      refine a_aload_n 93 dX0_addGap_92 rfl rfl ?_
      refine a_get fd_X0_9 rfl 96 dX0_addGap_93 rfl (by repeat (first | assumption | (refine rg_ne (by first | decide | omega) ?_) | apply rg_eq | refine rg_fr (by assumption) (by first | decide | (simp; omega)) ?_)) rfl ?_
      refine a_aload_n 97 dX0_addGap_96 rfl rfl ?_
      refine a_get fd_X0_33 rfl 100 dX0_addGap_97 rfl (by repeat (first | assumption | (refine rg_ne (by first | decide | omega) ?_) | apply rg_eq | refine rg_fr (by assumption) (by first | decide | (simp; omega)) ?_)) rfl ?_
      refine a_iload 102 dX0_addGap_100 rfl rfl ?_
      refine a_iastore 103 dX0_addGap_102 rfl (by repeat (first | assumption | (refine rg_ne (by first | decide | omega) ?_) | apply rg_eq | refine rg_fr (by assumption) (by first | decide | (simp; omega)) ?_)) vr ?_
      refine a_aload_n 104 dX0_addGap_103 rfl rfl ?_
      refine a_get fd_X0_15 rfl 107 dX0_addGap_104 rfl (by repeat (first | assumption | (refine rg_ne (by first | decide | omega) ?_) | apply rg_eq | refine rg_fr (by assumption) (by first | decide | (simp; omega)) ?_)) rfl ?_
      refine a_iload 109 dX0_addGap_107 rfl rfl ?_
      refine a_aload_n 110 dX0_addGap_109 rfl rfl ?_
      refine a_get fd_X0_33 rfl 113 dX0_addGap_110 rfl (by repeat (first | assumption | (refine rg_ne (by first | decide | omega) ?_) | apply rg_eq | refine rg_fr (by assumption) (by first | decide | (simp; omega)) ?_)) rfl ?_
      refine a_iastore 114 dX0_addGap_113 rfl (by repeat (first | assumption | (refine rg_ne (by first | decide | omega) ?_) | apply rg_eq | refine rg_fr (by assumption) (by first | decide | (simp; omega)) ?_)) vg ?_
      refine a_aload_n 115 dX0_addGap_114 rfl rfl ?_
      refine a_get fd_X0_18 rfl 118 dX0_addGap_115 rfl (by repeat (first | assumption | (refine rg_ne (by first | decide | omega) ?_) | apply rg_eq | refine rg_fr (by assumption) (by first | decide | (simp; omega)) ?_)) rfl ?_
      refine a_aload_n 119 dX0_addGap_118 rfl rfl ?_
      refine a_get fd_X0_33 rfl 122 dX0_addGap_119 rfl (by repeat (first | assumption | (refine rg_ne (by first | decide | omega) ?_) | apply rg_eq | refine rg_fr (by assumption) (by first | decide | (simp; omega)) ?_)) rfl ?_
      refine a_iload_n 123 dX0_addGap_122 rfl rfl ?_
      refine a_iconst (3) 124 dX0_addGap_123 rfl (by decide) ?_
      refine a_icmp_ne 136 127 dX0_addGap_124 rfl (by decide) (fun c_124 => ?_) (fun c_124 => ?_)
      · refine a_bipush (32) 138 dX0_addGap_136 rfl (by decide) ?_
        refine a_iload_n 139 dX0_addGap_138 rfl rfl ?_
        refine a_aload_n 140 dX0_addGap_139 rfl rfl ?_
        refine a_get fd_X0_57 rfl 143 dX0_addGap_140 rfl (by repeat (first | assumption | (refine rg_ne (by first | decide | omega) ?_) | apply rg_eq | refine rg_fr (by assumption) (by first | decide | (simp; omega)) ?_)) rfl ?_
        refine a_irem 144 dX0_addGap_143 rfl (nI_ne0 hw0 (by omega)) ?_
        refine a_iadd 145 dX0_addGap_144 rfl ?_
        rw [hln _ (Or.inr ⟨hrm, fun z => c_124 (eb3.mpr z)⟩)]
        refine a_iastore 146 dX0_addGap_145 rfl (by repeat (first | assumption | (refine rg_ne (by first | decide | omega) ?_) | apply rg_eq | refine rg_fr (by assumption) (by first | decide | (simp; omega)) ?_)) vr ?_
        refine a_aload_n 147 dX0_addGap_146 rfl rfl ?_
        refine a_dup 148 dX0_addGap_147 rfl rfl ?_
        refine a_get fd_X0_33 rfl 151 dX0_addGap_148 rfl (by repeat (first | assumption | (refine rg_ne (by first | decide | omega) ?_) | apply rg_eq | refine rg_fr (by assumption) (by first | decide | (simp; omega)) ?_)) rfl ?_
        refine a_iconst (1) 152 dX0_addGap_151 rfl (by decide) ?_
        refine a_iadd 153 dX0_addGap_152 rfl ?_
        refine a_put fd_X0_33 cl_X0 rfl 156 dX0_addGap_153 rfl (by repeat (first | assumption | (refine rg_ne (by first | decide | omega) ?_) | apply rg_eq | refine rg_fr (by assumption) (by first | decide | (simp; omega)) ?_)) (Nat.le_of_ble_eq_true rfl) rfl rfl rfl ?_
        exact a_return dX0_addGap_156 rfl (Nat.le_of_ble_eq_true rfl) (Nat.le_of_ble_eq_true rfl) ⟨rfl, ⟨_, _, _, ⟨by rw [er]; exact (nI_1 _) ▸ rg_eq (rg_ne (by decide) (rg_ne (by decide) (rg_ne (by decide) p1))), rg_ne (by decide) (rg_ne (by decide) (rg_ne (by decide) (rg_eq p2))), rg_ne (by decide) (rg_ne (by decide) (rg_eq (rg_ne (by decide) p3))), rg_ne (by decide) (rg_eq (rg_ne (by decide) (rg_ne (by decide) p4))), rg_ne (by decide) (rg_ne (by decide) (rg_ne (by decide) (rg_ne (by decide) p5))), rg_ne (by decide) (rg_ne (by decide) (rg_ne (by decide) (rg_ne (by decide) p6))), rg_ne (by decide) (rg_ne (by decide) (rg_ne (by decide) (rg_ne (by decide) p7))), rg_ne (by decide) (rg_ne (by decide) (rg_ne (by decide) (rg_ne (by decide) p8)))⟩, by rw [e0, e1]; exact plI_s hI⟩, fr_set (fr_set (fr_set (fr_set (fr_refl _ _) (by decide)) (by decide)) (by decide)) (by decide)⟩
      · refine a_iload_n 128 dX0_addGap_127 rfl rfl ?_
        refine a_aload_n 129 dX0_addGap_128 rfl rfl ?_
        refine a_get fd_X0_57 rfl 132 dX0_addGap_129 rfl (by repeat (first | assumption | (refine rg_ne (by first | decide | omega) ?_) | apply rg_eq | refine rg_fr (by assumption) (by first | decide | (simp; omega)) ?_)) rfl ?_
        refine a_idiv 133 dX0_addGap_132 rfl (nI_ne0 hw0 (by omega)) ?_
        refine a_goto 145 dX0_addGap_133 (by decide) ?_
        rw [hln _ (Or.inl ⟨hdv, eb3.mp c_124⟩)]
        refine a_iastore 146 dX0_addGap_145 rfl (by repeat (first | assumption | (refine rg_ne (by first | decide | omega) ?_) | apply rg_eq | refine rg_fr (by assumption) (by first | decide | (simp; omega)) ?_)) vr ?_
        refine a_aload_n 147 dX0_addGap_146 rfl rfl ?_
        refine a_dup 148 dX0_addGap_147 rfl rfl ?_
        refine a_get fd_X0_33 rfl 151 dX0_addGap_148 rfl (by repeat (first | assumption | (refine rg_ne (by first | decide | omega) ?_) | apply rg_eq | refine rg_fr (by assumption) (by first | decide | (simp; omega)) ?_)) rfl ?_
        refine a_iconst (1) 152 dX0_addGap_151 rfl (by decide) ?_
        refine a_iadd 153 dX0_addGap_152 rfl ?_
        refine a_put fd_X0_33 cl_X0 rfl 156 dX0_addGap_153 rfl (by repeat (first | assumption | (refine rg_ne (by first | decide | omega) ?_) | apply rg_eq | refine rg_fr (by assumption) (by first | decide | (simp; omega)) ?_)) (Nat.le_of_ble_eq_true rfl) rfl rfl rfl ?_
        exact a_return dX0_addGap_156 rfl (Nat.le_of_ble_eq_true rfl) (Nat.le_of_ble_eq_true rfl) ⟨rfl, ⟨_, _, _, ⟨by rw [er]; exact (nI_1 _) ▸ rg_eq (rg_ne (by decide) (rg_ne (by decide) (rg_ne (by decide) p1))), rg_ne (by decide) (rg_ne (by decide) (rg_ne (by decide) (rg_eq p2))), rg_ne (by decide) (rg_ne (by decide) (rg_eq (rg_ne (by decide) p3))), rg_ne (by decide) (rg_eq (rg_ne (by decide) (rg_ne (by decide) p4))), rg_ne (by decide) (rg_ne (by decide) (rg_ne (by decide) (rg_ne (by decide) p5))), rg_ne (by decide) (rg_ne (by decide) (rg_ne (by decide) (rg_ne (by decide) p6))), rg_ne (by decide) (rg_ne (by decide) (rg_ne (by decide) (rg_ne (by decide) p7))), rg_ne (by decide) (rg_ne (by decide) (rg_ne (by decide) (rg_ne (by decide) p8)))⟩, by rw [e0, e1]; exact plI_s hI⟩, fr_set (fr_set (fr_set (fr_set (fr_refl _ _) (by decide)) (by decide)) (by decide)) (by decide)⟩
    · have hP : ¬ frP C (2 * c + b) = true := by
        unfold frP
        rw [decide_eq_false hB, Bool.and_false]; decide
      have er : rkP C (2 * c + b + 1) = rkP C (2 * c + b) := by unfold rkP; rw [cntB, if_neg hP]; rfl
      refine rM_start (by decide) (Nat.le_of_ble_eq_true rfl) ?_
      refine a_aload_n 1 dX0_addGap_0 rfl rfl ?_
      refine a_iload_n 2 dX0_addGap_1 rfl rfl ?_
      refine a_iload_n 3 dX0_addGap_2 rfl rfl ?_
      refine a_callV ok_X1_nextSeat ln_X0_46 in_X1_nextSeat rfl 6 dX0_addGap_3 rfl (k_X1_nextSeat g7 (nI c) (nI (3 - 2 * b))) (by repeat (first | assumption | (refine rg_ne (by first | decide | omega) ?_) | apply rg_eq | refine rg_fr (by assumption) (by first | decide | (simp; omega)) ?_)) rfl rfl rfl ⟨(Nat.le_of_ble_eq_true rfl), (Nat.le_of_ble_eq_true rfl)⟩ (Nat.le_of_ble_eq_true rfl) ⟨(Nat.le_of_ble_eq_true rfl), (Nat.le_of_ble_eq_true rfl)⟩ ?_
      rintro _ _ ⟨rfl, rfl⟩
      rw [en]
      refine a_istore 8 dX0_addGap_6 rfl (by decide) ?_
      refine a_iload 10 dX0_addGap_8 rfl rfl ?_
      refine a_bipush (-9) 12 dX0_addGap_10 rfl (by decide) ?_
      refine a_icmp_ne 20 15 dX0_addGap_12 rfl (by decide) (fun c_12 => ?_) (fun c_12 => absurd c_12 hd9)
      refine a_aload_n 21 dX0_addGap_20 rfl rfl ?_
      refine a_iload_n 22 dX0_addGap_21 rfl rfl ?_
      refine a_iload 24 dX0_addGap_22 rfl rfl ?_
      refine a_callV ok_X1_gapBetween ln_X0_50 in_X1_gapBetween rfl 27 dX0_addGap_24 rfl (k_X1_gapBetween g7 (nI c) (nI d)) (by repeat (first | assumption | (refine rg_ne (by first | decide | omega) ?_) | apply rg_eq | refine rg_fr (by assumption) (by first | decide | (simp; omega)) ?_)) rfl rfl rfl ⟨(Nat.le_of_ble_eq_true rfl), (Nat.le_of_ble_eq_true rfl)⟩ (Nat.le_of_ble_eq_true rfl) ⟨(Nat.le_of_ble_eq_true rfl), (Nat.le_of_ble_eq_true rfl)⟩ ?_
      rintro _ _ ⟨rfl, rfl⟩
      rw [eg]
      refine a_istore 29 dX0_addGap_27 rfl (by decide) ?_
      refine a_iload 31 dX0_addGap_29 rfl rfl ?_
      refine a_if_lt 53 34 dX0_addGap_31 rfl (by decide) (fun c_31 => absurd c_31 (nI_pos (by omega))) (fun c_31 => ?_)
      refine a_iload 36 dX0_addGap_34 rfl rfl ?_
      refine a_aload_n 37 dX0_addGap_36 rfl rfl ?_
      refine a_get fd_X0_15 rfl 40 dX0_addGap_37 rfl (by repeat (first | assumption | (refine rg_ne (by first | decide | omega) ?_) | apply rg_eq | refine rg_fr (by assumption) (by first | decide | (simp; omega)) ?_)) rfl ?_
      refine a_alen_0 41 dX0_addGap_40 rfl (by repeat (first | assumption | (refine rg_ne (by first | decide | omega) ?_) | apply rg_eq | refine rg_fr (by assumption) (by first | decide | (simp; omega)) ?_)) ?_
      refine a_icmp_ge 53 44 dX0_addGap_41 rfl (by decide) (fun c_41 => absurd c_41 (nI_ge (a := 2 * c + b) (b := 64) hg64 (by decide))) (fun c_41 => ?_)
      refine a_aload_n 45 dX0_addGap_44 rfl rfl ?_
      refine a_iload 47 dX0_addGap_45 rfl rfl ?_
      refine a_callV ok_X1_hasBlind ln_X0_53 in_X1_hasBlind rfl 50 dX0_addGap_47 rfl (k_X1_hasBlind g7 g11 (nI (2 * c + b))) (by repeat (first | assumption | (refine rg_ne (by first | decide | omega) ?_) | apply rg_eq | refine rg_fr (by assumption) (by first | decide | (simp; omega)) ?_)) rfl rfl rfl ⟨(Nat.le_of_ble_eq_true rfl), (Nat.le_of_ble_eq_true rfl)⟩ (Nat.le_of_ble_eq_true rfl) ⟨(Nat.le_of_ble_eq_true rfl), (Nat.le_of_ble_eq_true rfl)⟩ ?_
      rintro _ _ ⟨rfl, rfl⟩
      refine a_if_eq 54 53 dX0_addGap_50 rfl (by decide) (fun c_50 => absurd c_50 (by rw [if_pos (ebl.mpr hB)]; decide)) (fun c_50 => ?_)
      exact a_return dX0_addGap_53 rfl (Nat.le_of_ble_eq_true rfl) (Nat.le_of_ble_eq_true rfl) ⟨rfl, ⟨ga, pl, li, by rw [er]; exact hp0, plI_n hI hP⟩, fr_refl _ _⟩
end GAPS
