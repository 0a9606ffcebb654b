/-! THE MODEL: the search for blinds -/
def lk3 (cost : Nat → Nat → Nat → Int32) (a b : Nat) : Nat → Nat → bst → bst
  | 0, _, s => s
  | r + 1, c, s => lk3 cost a b r (c + 1) (lookI (cost a b c) s a b c)
def lk2 (cost : Nat → Nat → Nat → Int32) (many fr0 a : Nat) : Nat → Nat → bst → bst
  | 0, _, s => s
  | r + 1, b, s => lk2 cost many fr0 a r (b + 1) (lk3 cost a b (if 2 < many then fr0 - (b + 1) else 1) (if 2 < many then b + 1 else b) s)
def lk1 (cost : Nat → Nat → Nat → Int32) (many fr0 : Nat) : Nat → Nat → bst → bst
  | 0, _, s => s
  | r + 1, a, s => lk1 cost many fr0 r (a + 1) (lk2 cost many fr0 a (if 1 < many then fr0 - (a + 1) else 1) (if 1 < many then a + 1 else a) s)
section MLAYB
variable {l : Launch} {G : rG} {h : rH} {T : Tn} {i : Nat → Int32} {j : Nat → Int64} {ga gb : Nat → Int32} {z fr0 many : Nat} {gn : Nat → Nat}
/-- the gap of a place -/
abbrev gnOk (T : Tn) (fr0 : Nat) (gn : Nat → Nat) (ga gb : Nat → Int32) : Prop := ∀ p, p < fr0 → gn p < 64 ∧ frP T.1 (gn p) = true ∧ ga p = nI (gn p / 2) ∧ gb p = nI (othN T.wi (gn p))
abbrev cosG (T : Tn) (z : Nat) (gn : Nat → Nat) (a b c : Nat) : Int32 := cosI T z (gn a) (gn b) (gn c)
abbrev lbQ (G : rG) (h : rH) (T : Tn) (i : Nat → Int32) (j : Nat → Int64) (fr0 many : Nat) (ga gb : Nat → Int32) (s : bst) : rH → Option Value → Prop := fun h' v => v = none ∧ bsAt G h h' T i j fr0 many ga gb s
theorem bs_at {h0 h : rH} {i0 : Nat → Int32} {s : bst} (q : bsAt G h0 h T i0 j fr0 many ga gb s) : ∃ i, h[38]? = some (mo G i j) ∧ i 27 = nI fr0 ∧ i 31 = nI many := by
  obtain ⟨i, f, q1, si, g27, g31, -⟩ := q
  exact ⟨i, q1.at, g27, g31⟩
def lbW (l : Launch) (G : rG) (h : rH) (T : Tn) (i : Nat → Int32) (j : Nat → Int64) (fr0 many : Nat) (ga gb : Nat → Int32) (z : Nat) (k : Int32) (S : bst) (pc : Nat) (ls : List (Option Value)) (s : bst) : Prop := ∀ h1, bsAt G h h1 T i j fr0 many ga gb s → rW l G (rRm 7 0 0) mX12_layBlinds (rZ G (lbQ G h T i j fr0 many ga gb S) 0 0) 0 0 pc ([some (.ref (gN G + 38)), some (.int (nI z)), some (.int k)] ++ ls) [] h1
set_option maxRecDepth 100000 in
set_option maxHeartbeats 400000 in
theorem lb3 (o : T.ok) (hz : z < T.nl) (hfr : fr0 ≤ 52) (hgn : gnOk T fr0 gn ga gb) {k : Int32} {S : bst} {a b e2 e : Nat} (ha : a < fr0) (hb : b < fr0) (he : e < fr0) {s0 : bst} {r0 c0 : Nat} (hc0 : c0 + r0 = e + 1) (NX : ∀ a6 a7, lbW l G h T i j fr0 many ga gb z k S 72 [some (.int (nI a)), some (.int (nI e2)), some (.int (nI (b + 1))), a6, a7] (lk3 (cosG T z gn) a b r0 c0 s0)) : ∀ (r c : Nat) (s : bst), c + r = e + 1 → lk3 (cosG T z gn) a b r c s = lk3 (cosG T z gn) a b r0 c0 s0 → lbW l G h T i j fr0 many ga gb z k S 119 [some (.int (nI a)), some (.int (nI e2)), some (.int (nI b)), some (.int (nI e)), some (.int (nI c))] s := by
  intro r
  induction r with
  | zero =>
    intro c s hc hs h1 q1
    have ec : c = e + 1 := by omega
    subst ec
    have q2 : bsAt G h h1 T i j fr0 many ga gb (lk3 (cosG T z gn) a b r0 c0 s0) := by rw [← hs]; exact q1
    obtain ⟨i1, hm1, g27, g31⟩ := bs_at q1
    refine a_iload 121 dX12_layBlinds_119 rfl rfl ?_
    refine a_iload 123 dX12_layBlinds_121 rfl rfl ?_
    refine a_icmp_gt 142 126 dX12_layBlinds_123 rfl (by decide) (fun c_123 => ?_) (fun c_123 => absurd (nI_lt (by omega) (by omega)) c_123)
    refine a_iinc _ 145 dX12_layBlinds_142 rfl rfl (by decide) rfl ?_
    refine a_goto 72 dX12_layBlinds_145 (by decide) ?_
    rw [show nI b + Int32.ofInt 1 = nI (b + 1) from nI_1 b]
    exact NX _ _ _ q2
  | succ r ih =>
    intro c s hc hs h1 q1
    obtain ⟨i1, hm1, g27, g31⟩ := bs_at q1
    have hcf : c < fr0 := by omega
    obtain ⟨u1, u2, u3⟩ := hgn a ha
    obtain ⟨v1, v2, v3⟩ := hgn b hb
    obtain ⟨w1, w2, w3⟩ := hgn c hcf
    refine a_iload 121 dX12_layBlinds_119 rfl rfl ?_
    refine a_iload 123 dX12_layBlinds_121 rfl rfl ?_
    refine a_icmp_gt 142 126 dX12_layBlinds_123 rfl (by decide) (fun c_123 => absurd c_123 (nI_nlt (a := e) (b := c) (by omega) (by omega))) (fun c_123 => ?_)
    refine a_aload_n 127 dX12_layBlinds_126 rfl rfl ?_
    refine a_iload_n 128 dX12_layBlinds_127 rfl rfl ?_
    refine a_iload_n 129 dX12_layBlinds_128 rfl rfl ?_
    refine a_iload 131 dX12_layBlinds_129 rfl rfl ?_
    refine a_iload 133 dX12_layBlinds_131 rfl rfl ?_
    refine a_callV ok_X12_look ln_X12_293 in_X12_look rfl 136 dX12_layBlinds_133 rfl (m_look q1 o hz u1 v1 w1 u2 v2 w2 (by omega) (by omega) (by omega) u3 v3 w3) (by repeat (first | assumption | (refine rg_ne (by first | decide | omega) ?_) | apply rg_eq | refine rg_fr (by assumption) (by first | decide | (simp; omega)) ?_)) rfl rfl rfl ⟨(Nat.le_of_ble_eq_true rfl), (Nat.le_of_ble_eq_true rfl)⟩ (Nat.le_of_ble_eq_true rfl) ⟨(Nat.le_of_ble_eq_true rfl), (Nat.le_of_ble_eq_true rfl)⟩ ?_
    rintro h2 v ⟨rfl, q2⟩
    refine a_iinc _ 139 dX12_layBlinds_136 rfl rfl (by decide) rfl ?_
    refine a_goto 119 dX12_layBlinds_139 (by decide) ?_
    rw [show nI c + Int32.ofInt 1 = nI (c + 1) from nI_1 c]
    exact ih (c + 1) _ (by omega) hs _ q2
set_option maxRecDepth 100000 in
set_option maxHeartbeats 400000 in
theorem lb2 (o : T.ok) (hz : z < T.nl) (hfr : fr0 ≤ 52) (hgn : gnOk T fr0 gn ga gb) (hmany : many ≤ 3) {k : Int32} {S : bst} {a e2 : Nat} (ha : a < fr0) (he2 : e2 < fr0) {X : bst} (NX : ∀ a4 a5 a6 a7, lbW l G h T i j fr0 many ga gb z k S 27 [some (.int (nI (a + 1))), a4, a5, a6, a7] X) : ∀ (r b : Nat) (s : bst) (a6 a7 : Option Value), b + r = e2 + 1 → lk2 (cosG T z gn) many fr0 a r b s = X → lbW l G h T i j fr0 many ga gb z k S 72 [some (.int (nI a)), some (.int (nI e2)), some (.int (nI b)), a6, a7] s := by
  have e92 : nI fr0 - 1 = nI (fr0 - 1) := by rw [show (1 : Int32) = nI 1 from rfl]; exact pk_sub (by omega)
  intro r
  induction r with
  | zero =>
    intro b s a6 a7 hb hs h1 q1
    have eb : b = e2 + 1 := by omega
    subst eb
    have q2 : bsAt G h h1 T i j fr0 many ga gb X := by rw [← hs]; exact q1
    obtain ⟨i1, hm1, g27, g31⟩ := bs_at q1
    refine a_iload 74 dX12_layBlinds_72 rfl rfl ?_
    refine a_iload 76 dX12_layBlinds_74 rfl rfl ?_
    refine a_icmp_gt 148 79 dX12_layBlinds_76 rfl (by decide) (fun c_76 => ?_) (fun c_76 => absurd (nI_lt (by omega) (by omega)) c_76)
    refine a_iinc _ 151 dX12_layBlinds_148 rfl rfl (by decide) rfl ?_
    refine a_goto 27 dX12_layBlinds_151 (by decide) ?_
    rw [show nI a + Int32.ofInt 1 = nI (a + 1) from nI_1 a]
    exact NX _ _ _ _ _ q2
  | succ r ih =>
    intro b s a6 a7 hb hs h1 q1
    have hbf : b < fr0 := by omega
    obtain ⟨i1, hm1, g27, g31⟩ := bs_at q1
    by_cases h2 : 2 < many
    · have hs2 : lk2 (cosG T z gn) many fr0 a r (b + 1) (lk3 (cosG T z gn) a b (fr0 - (b + 1)) (b + 1) s) = X := by
        rw [lk2, if_pos h2, if_pos h2] at hs; exact hs
      refine a_iload 74 dX12_layBlinds_72 rfl rfl ?_
      refine a_iload 76 dX12_layBlinds_74 rfl rfl ?_
      refine a_icmp_gt 148 79 dX12_layBlinds_76 rfl (by decide) (fun c_76 => absurd c_76 (nI_nlt (a := e2) (b := b) (by omega) (by omega))) (fun c_76 => ?_)
      refine a_aload_n 80 dX12_layBlinds_79 rfl rfl ?_
      refine a_get fd_X12_290 rfl 83 dX12_layBlinds_80 rfl (by repeat (first | assumption | (refine rg_ne (by first | decide | omega) ?_) | apply rg_eq | refine rg_fr (by assumption) (by first | decide | (simp; omega)) ?_)) rfl ?_
      refine a_iconst (2) 84 dX12_layBlinds_83 rfl (by decide) ?_
      rw [g31]
      refine a_icmp_le 96 87 dX12_layBlinds_84 rfl (by decide) (fun c_84 => absurd c_84 (nI_ge (a := 2) (b := many) (by omega) (by omega))) (fun c_84 => ?_)
      refine a_aload_n 88 dX12_layBlinds_87 rfl rfl ?_
      refine a_get fd_X12_280 rfl 91 dX12_layBlinds_88 rfl (by repeat (first | assumption | (refine rg_ne (by first | decide | omega) ?_) | apply rg_eq | refine rg_fr (by assumption) (by first | decide | (simp; omega)) ?_)) rfl ?_
      refine a_iconst (1) 92 dX12_layBlinds_91 rfl (by decide) ?_
      rw [g27]
      refine a_isub 93 dX12_layBlinds_92 rfl ?_
      rw [e92]
      refine a_goto 98 dX12_layBlinds_93 (by decide) ?_
      refine a_istore 100 dX12_layBlinds_98 rfl (by decide) ?_
      refine a_aload_n 101 dX12_layBlinds_100 rfl rfl ?_
      refine a_get fd_X12_290 rfl 104 dX12_layBlinds_101 rfl (by repeat (first | assumption | (refine rg_ne (by first | decide | omega) ?_) | apply rg_eq | refine rg_fr (by assumption) (by first | decide | (simp; omega)) ?_)) rfl ?_
      refine a_iconst (2) 105 dX12_layBlinds_104 rfl (by decide) ?_
      rw [g31]
      refine a_icmp_le 115 108 dX12_layBlinds_105 rfl (by decide) (fun c_105 => absurd c_105 (nI_ge (a := 2) (b := many) (by omega) (by omega))) (fun c_105 => ?_)
      refine a_iload 110 dX12_layBlinds_108 rfl rfl ?_
      refine a_iconst (1) 111 dX12_layBlinds_110 rfl (by decide) ?_
      refine a_iadd 112 dX12_layBlinds_111 rfl ?_
      rw [nI_1]
      refine a_goto 117 dX12_layBlinds_112 (by decide) ?_
      refine a_istore 119 dX12_layBlinds_117 rfl (by decide) ?_
      exact lb3 o hz hfr hgn (e := fr0 - 1) (r0 := fr0 - (b + 1)) (c0 := b + 1) ha hbf (by omega) (by omega) (fun a6 a7 => ih (b + 1) _ a6 a7 (by omega) hs2) (fr0 - (b + 1)) (b + 1) s (by omega) rfl _ q1
    · have hs2 : lk2 (cosG T z gn) many fr0 a r (b + 1) (lk3 (cosG T z gn) a b 1 b s) = X := by
        rw [lk2, if_neg h2, if_neg h2] at hs; exact hs
      refine a_iload 74 dX12_layBlinds_72 rfl rfl ?_
      refine a_iload 76 dX12_layBlinds_74 rfl rfl ?_
      refine a_icmp_gt 148 79 dX12_layBlinds_76 rfl (by decide) (fun c_76 => absurd c_76 (nI_nlt (a := e2) (b := b) (by omega) (by omega))) (fun c_76 => ?_)
      refine a_aload_n 80 dX12_layBlinds_79 rfl rfl ?_
      refine a_get fd_X12_290 rfl 83 dX12_layBlinds_80 rfl (by repeat (first | assumption | (refine rg_ne (by first | decide | omega) ?_) | apply rg_eq | refine rg_fr (by assumption) (by first | decide | (simp; omega)) ?_)) rfl ?_
      refine a_iconst (2) 84 dX12_layBlinds_83 rfl (by decide) ?_
      rw [g31]
      refine a_icmp_le 96 87 dX12_layBlinds_84 rfl (by decide) (fun c_84 => ?_) (fun c_84 => absurd (nI_le (a := many) (b := 2) (by omega) (by omega)) c_84)
      refine a_iload 98 dX12_layBlinds_96 rfl rfl ?_
      refine a_istore 100 dX12_layBlinds_98 rfl (by decide) ?_
      refine a_aload_n 101 dX12_layBlinds_100 rfl rfl ?_
      refine a_get fd_X12_290 rfl 104 dX12_layBlinds_101 rfl (by repeat (first | assumption | (refine rg_ne (by first | decide | omega) ?_) | apply rg_eq | refine rg_fr (by assumption) (by first | decide | (simp; omega)) ?_)) rfl ?_
      refine a_iconst (2) 105 dX12_layBlinds_104 rfl (by decide) ?_
      rw [g31]
      refine a_icmp_le 115 108 dX12_layBlinds_105 rfl (by decide) (fun c_105 => ?_) (fun c_105 => absurd (nI_le (a := many) (b := 2) (by omega) (by omega)) c_105)
      refine a_iload 117 dX12_layBlinds_115 rfl rfl ?_
      refine a_istore 119 dX12_layBlinds_117 rfl (by decide) ?_
      exact lb3 o hz hfr hgn (e := b) (r0 := 1) (c0 := b) ha hbf hbf rfl (fun a6 a7 => ih (b + 1) _ a6 a7 (by omega) hs2) 1 b s rfl rfl _ q1
set_option maxRecDepth 100000 in
set_option maxHeartbeats 400000 in
theorem lb1 (o : T.ok) (hz : z < T.nl) (hfr : fr0 ≤ 52) (hgn : gnOk T fr0 gn ga gb) (hmany : many ≤ 3) {k : Int32} {S : bst} : ∀ (r a : Nat) (s : bst) (a4 a5 a6 a7 : Option Value), a + r = fr0 → lk1 (cosG T z gn) many fr0 r a s = S → lbW l G h T i j fr0 many ga gb z k S 27 [some (.int (nI a)), a4, a5, a6, a7] s := by
  intro r
  induction r with
  | zero =>
    intro a s a4 a5 a6 a7 ha hs h1 q1
    have ea : a = fr0 := by omega
    subst ea
    have q2 : bsAt G h h1 T i j a many ga gb S := by rw [← hs]; exact q1
    obtain ⟨i1, hm1, g27, g31⟩ := bs_at q1
    refine a_iload_n 28 dX12_layBlinds_27 rfl rfl ?_
    refine a_aload_n 29 dX12_layBlinds_28 rfl rfl ?_
    refine a_get fd_X12_280 rfl 32 dX12_layBlinds_29 rfl (by repeat (first | assumption | (refine rg_ne (by first | decide | omega) ?_) | apply rg_eq | refine rg_fr (by assumption) (by first | decide | (simp; omega)) ?_)) rfl ?_
    rw [g27]
    refine a_icmp_ge 154 35 dX12_layBlinds_32 rfl (by decide) (fun c_32 => ?_) (fun c_32 => absurd (Int32.le_refl _) c_32)
    exact a_return dX12_layBlinds_154 rfl (Nat.le_of_ble_eq_true rfl) (Nat.le_of_ble_eq_true rfl) ⟨rfl, q2⟩
  | succ r ih =>
    intro a s a4 a5 a6 a7 ha hs h1 q1
    have haf : a < fr0 := by omega
    have e92 : nI fr0 - 1 = nI (fr0 - 1) := by rw [show (1 : Int32) = nI 1 from rfl]; exact pk_sub (by omega)
    obtain ⟨i1, hm1, g27, g31⟩ := bs_at q1
    by_cases h2 : 1 < many
    · have hs2 : lk1 (cosG T z gn) many fr0 r (a + 1) (lk2 (cosG T z gn) many fr0 a (fr0 - (a + 1)) (a + 1) s) = S := by
        rw [lk1, if_pos h2, if_pos h2] at hs; exact hs
      refine a_iload_n 28 dX12_layBlinds_27 rfl rfl ?_
      refine a_aload_n 29 dX12_layBlinds_28 rfl rfl ?_
      refine a_get fd_X12_280 rfl 32 dX12_layBlinds_29 rfl (by repeat (first | assumption | (refine rg_ne (by first | decide | omega) ?_) | apply rg_eq | refine rg_fr (by assumption) (by first | decide | (simp; omega)) ?_)) rfl ?_
      rw [g27]
      refine a_icmp_ge 154 35 dX12_layBlinds_32 rfl (by decide) (fun c_32 => absurd c_32 (nI_ge (a := a) (b := fr0) (by omega) (by omega))) (fun c_32 => ?_)
      refine a_aload_n 36 dX12_layBlinds_35 rfl rfl ?_
      refine a_get fd_X12_290 rfl 39 dX12_layBlinds_36 rfl (by repeat (first | assumption | (refine rg_ne (by first | decide | omega) ?_) | apply rg_eq | refine rg_fr (by assumption) (by first | decide | (simp; omega)) ?_)) rfl ?_
      refine a_iconst (1) 40 dX12_layBlinds_39 rfl (by decide) ?_
      rw [g31]
      refine a_icmp_le 52 43 dX12_layBlinds_40 rfl (by decide) (fun c_40 => absurd c_40 (nI_ge (a := 1) (b := many) (by omega) (by omega))) (fun c_40 => ?_)
      refine a_aload_n 44 dX12_layBlinds_43 rfl rfl ?_
      refine a_get fd_X12_280 rfl 47 dX12_layBlinds_44 rfl (by repeat (first | assumption | (refine rg_ne (by first | decide | omega) ?_) | apply rg_eq | refine rg_fr (by assumption) (by first | decide | (simp; omega)) ?_)) rfl ?_
      refine a_iconst (1) 48 dX12_layBlinds_47 rfl (by decide) ?_
      rw [g27]
      refine a_isub 49 dX12_layBlinds_48 rfl ?_
      rw [e92]
      refine a_goto 53 dX12_layBlinds_49 (by decide) ?_
      refine a_istore 55 dX12_layBlinds_53 rfl (by decide) ?_
      refine a_aload_n 56 dX12_layBlinds_55 rfl rfl ?_
      refine a_get fd_X12_290 rfl 59 dX12_layBlinds_56 rfl (by repeat (first | assumption | (refine rg_ne (by first | decide | omega) ?_) | apply rg_eq | refine rg_fr (by assumption) (by first | decide | (simp; omega)) ?_)) rfl ?_
      refine a_iconst (1) 60 dX12_layBlinds_59 rfl (by decide) ?_
      rw [g31]
      refine a_icmp_le 69 63 dX12_layBlinds_60 rfl (by decide) (fun c_60 => absurd c_60 (nI_ge (a := 1) (b := many) (by omega) (by omega))) (fun c_60 => ?_)
      refine a_iload_n 64 dX12_layBlinds_63 rfl rfl ?_
      refine a_iconst (1) 65 dX12_layBlinds_64 rfl (by decide) ?_
      refine a_iadd 66 dX12_layBlinds_65 rfl ?_
      rw [nI_1]
      refine a_goto 70 dX12_layBlinds_66 (by decide) ?_
      refine a_istore 72 dX12_layBlinds_70 rfl (by decide) ?_
      exact lb2 o hz hfr hgn hmany (e2 := fr0 - 1) haf (by omega) (fun a4 a5 a6 a7 => ih (a + 1) _ a4 a5 a6 a7 (by omega) hs2) (fr0 - (a + 1)) (a + 1) s _ _ (by omega) rfl _ q1
    · have hs2 : lk1 (cosG T z gn) many fr0 r (a + 1) (lk2 (cosG T z gn) many fr0 a 1 a s) = S := by
        rw [lk1, if_neg h2, if_neg h2] at hs; exact hs
      refine a_iload_n 28 dX12_layBlinds_27 rfl rfl ?_
      refine a_aload_n 29 dX12_layBlinds_28 rfl rfl ?_
      refine a_get fd_X12_280 rfl 32 dX12_layBlinds_29 rfl (by repeat (first | assumption | (refine rg_ne (by first | decide | omega) ?_) | apply rg_eq | refine rg_fr (by assumption) (by first | decide | (simp; omega)) ?_)) rfl ?_
      rw [g27]
      refine a_icmp_ge 154 35 dX12_layBlinds_32 rfl (by decide) (fun c_32 => absurd c_32 (nI_ge (a := a) (b := fr0) (by omega) (by omega))) (fun c_32 => ?_)
      refine a_aload_n 36 dX12_layBlinds_35 rfl rfl ?_
      refine a_get fd_X12_290 rfl 39 dX12_layBlinds_36 rfl (by repeat (first | assumption | (refine rg_ne (by first | decide | omega) ?_) | apply rg_eq | refine rg_fr (by assumption) (by first | decide | (simp; omega)) ?_)) rfl ?_
      refine a_iconst (1) 40 dX12_layBlinds_39 rfl (by decide) ?_
      rw [g31]
      refine a_icmp_le 52 43 dX12_layBlinds_40 rfl (by decide) (fun c_40 => ?_) (fun c_40 => absurd (nI_le (a := many) (b := 1) (by omega) (by omega)) c_40)
      refine a_iload_n 53 dX12_layBlinds_52 rfl rfl ?_
      refine a_istore 55 dX12_layBlinds_53 rfl (by decide) ?_
      refine a_aload_n 56 dX12_layBlinds_55 rfl rfl ?_
      refine a_get fd_X12_290 rfl 59 dX12_layBlinds_56 rfl (by repeat (first | assumption | (refine rg_ne (by first | decide | omega) ?_) | apply rg_eq | refine rg_fr (by assumption) (by first | decide | (simp; omega)) ?_)) rfl ?_
      refine a_iconst (1) 60 dX12_layBlinds_59 rfl (by decide) ?_
      rw [g31]
      refine a_icmp_le 69 63 dX12_layBlinds_60 rfl (by decide) (fun c_60 => ?_) (fun c_60 => absurd (nI_le (a := many) (b := 1) (by omega) (by omega)) c_60)
      refine a_iload_n 70 dX12_layBlinds_69 rfl rfl ?_
      refine a_istore 72 dX12_layBlinds_70 rfl (by decide) ?_
      exact lb2 o hz hfr hgn hmany (e2 := a) haf haf (fun a4 a5 a6 a7 => ih (a + 1) _ a4 a5 a6 a7 (by omega) hs2) 1 a s _ _ rfl rfl _ q1
set_option maxRecDepth 100000 in
set_option maxHeartbeats 400000 in
theorem m_layBlinds (q : mX G h T i j) (o : T.ok) (hz : z < T.nl) (hfr : fr0 ≤ 52) (hgn : gnOk T fr0 gn ga gb) (g27 : i 27 = nI fr0) (h54 : h[54]? = some (.inl (gA G 0, 64, .inl ga))) (h55 : h[55]? = some (.inl (gA G 0, 64, .inl gb))) {f : Nat → Int32} (h56 : h[56]? = some (.inl (gA G 0, 3, .inl f))) {kk : Nat} (hk : kk ≤ 3) : rM l G 7 mX12_layBlinds 0 0 [.ref (gN G + 38), .int (nI z), .int (nI kk)] h (lbQ G h T i j fr0 (min kk fr0) ga gb (lk1 (cosG T z gn) (min kk fr0) fr0 fr0 0 (-1, f 0, f 1, f 2))) := by
  have hm := q.at
  have hst : ∀ {x : Int32}, x = nI (min kk fr0) → ∀ {H : rH}, H[38]? = some (mo G (upd (upd i 31 x) 32 (-1)) j) → fr h H [38] → bsAt G h H T i j fr0 (min kk fr0) ga gb (-1, f 0, f 1, f 2) := by
    intro x ex H e38 hf
    subst ex
    exact ⟨upd (upd i 31 (nI (min kk fr0))) 32 (-1), f, mX_w q e38 (q.2.2.2.2.2.1.kp (kp_fr hf) (by decide)) hf (by decide) ⟨rfl, rfl, rfl, rfl, rfl, rfl, rfl, rfl⟩, ⟨rfl, rfl, rfl, rfl, rfl, rfl, rfl, rfl⟩, g27, rfl, rg_fr hf (by decide) h54, rg_fr hf (by decide) h55, rg_fr hf (by decide) h56, fr_mono hf (by decide), rfl⟩
  refine rM_start (by decide) (Nat.le_of_ble_eq_true rfl) ?_
  refine a_aload_n 1 dX12_layBlinds_0 rfl rfl ?_
  refine a_iload_n 2 dX12_layBlinds_1 rfl rfl ?_
  refine a_aload_n 3 dX12_layBlinds_2 rfl rfl ?_
  refine a_get fd_X12_280 rfl 6 dX12_layBlinds_3 rfl (by repeat (first | assumption | (refine rg_ne (by first | decide | omega) ?_) | apply rg_eq | refine rg_fr (by assumption) (by first | decide | (simp; omega)) ?_)) rfl ?_
  rw [g27]
  refine a_icmp_ge 13 9 dX12_layBlinds_6 rfl (by decide) (fun c_6 => ?_) (fun c_6 => ?_)
  · refine a_aload_n 14 dX12_layBlinds_13 rfl rfl ?_
    refine a_get fd_X12_280 rfl 17 dX12_layBlinds_14 rfl (by repeat (first | assumption | (refine rg_ne (by first | decide | omega) ?_) | apply rg_eq | refine rg_fr (by assumption) (by first | decide | (simp; omega)) ?_)) rfl ?_
    rw [g27]
    refine a_put fd_X12_290 cl_X12 rfl 20 dX12_layBlinds_17 rfl (by repeat (first | assumption | (refine rg_ne (by first | decide | omega) ?_) | apply rg_eq | refine rg_fr (by assumption) (by first | decide | (simp; omega)) ?_)) (Nat.le_of_ble_eq_true rfl) rfl rfl rfl ?_
    refine a_aload_n 21 dX12_layBlinds_20 rfl rfl ?_
    refine a_iconst (-1) 22 dX12_layBlinds_21 rfl (by decide) ?_
    refine a_put fd_X12_287 cl_X12 rfl 25 dX12_layBlinds_22 rfl (by repeat (first | assumption | (refine rg_ne (by first | decide | omega) ?_) | apply rg_eq | refine rg_fr (by assumption) (by first | decide | (simp; omega)) ?_)) (Nat.le_of_ble_eq_true rfl) rfl rfl rfl ?_
    refine a_iconst (0) 26 dX12_layBlinds_25 rfl (by decide) ?_
    refine a_istore_n 27 dX12_layBlinds_26 rfl (by decide) ?_
    exact lb1 o hz hfr hgn (by omega) fr0 0 _ _ _ _ _ (by omega) rfl _ (hst (x := nI fr0) (congrArg nI (by have := (nI_leI (a := fr0) (b := kk) (by omega) (by omega)).mp c_6; omega)) (rg_eq (rg_eq hm)) (fr_set (fr_set (fr_refl _ _) (by decide)) (by decide)))
  · refine a_iload_n 10 dX12_layBlinds_9 rfl rfl ?_
    refine a_goto 17 dX12_layBlinds_10 (by decide) ?_
    refine a_put fd_X12_290 cl_X12 rfl 20 dX12_layBlinds_17 rfl (by repeat (first | assumption | (refine rg_ne (by first | decide | omega) ?_) | apply rg_eq | refine rg_fr (by assumption) (by first | decide | (simp; omega)) ?_)) (Nat.le_of_ble_eq_true rfl) rfl rfl rfl ?_
    refine a_aload_n 21 dX12_layBlinds_20 rfl rfl ?_
    refine a_iconst (-1) 22 dX12_layBlinds_21 rfl (by decide) ?_
    refine a_put fd_X12_287 cl_X12 rfl 25 dX12_layBlinds_22 rfl (by repeat (first | assumption | (refine rg_ne (by first | decide | omega) ?_) | apply rg_eq | refine rg_fr (by assumption) (by first | decide | (simp; omega)) ?_)) (Nat.le_of_ble_eq_true rfl) rfl rfl rfl ?_
    refine a_iconst (0) 26 dX12_layBlinds_25 rfl (by decide) ?_
    refine a_istore_n 27 dX12_layBlinds_26 rfl (by decide) ?_
    exact lb1 o hz hfr hgn (by omega) fr0 0 _ _ _ _ _ (by omega) rfl _ (hst (x := nI kk) (congrArg nI (by have := (nI_leI (a := fr0) (b := kk) (by omega) (by omega)); have u : ¬ fr0 ≤ kk := fun v => c_6 (this.mpr v); omega)) (rg_eq (rg_eq hm)) (fr_set (fr_set (fr_refl _ _) (by decide)) (by decide)))
end MLAYB
