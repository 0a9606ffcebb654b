/-! THE MODEL: the search for blinds -/
def lk3 (cost : Nat → Nat → Nat → Int32) (a b : Nat) : Nat → Nat → bst → bst
  | 0, _, s => s
  | r + 1, c, s => lk3 cost a b r (c + 1) (lookI (cost a b c) s a b c)
def lk2 (cost : Nat → Nat → Nat → Int32) (many fr0 a : Nat) : Nat → Nat → bst → bst
  | 0, _, s => s
  | r + 1, b, s => lk2 cost many fr0 a r (b + 1) (lk3 cost a b (if 2 < many then fr0 - (b + 1) else 1) (if 2 < many then b + 1 else b) s)
def lk1 (cost : Nat → Nat → Nat → Int32) (many fr0 : Nat) : Nat → Nat → bst → bst
  | 0, _, s => s
  | r + 1, a, s => lk1 cost many fr0 r (a + 1) (lk2 cost many fr0 a (if 1 < many then fr0 - (a + 1) else 1) (if 1 < many then a + 1 else a) s)
section MLAYB
variable {l : Launch} {G : rG} {h : rH} {T : Tn} {i : Nat → Int32} {j : Nat → Int64} {ga gb : Nat → Int32} {z fr0 many : Nat} {gn : Nat → Nat}
/-- the gap of a place -/
abbrev gnOk (T : Tn) (fr0 : Nat) (gn : Nat → Nat) (ga gb : Nat → Int32) : Prop := ∀ p, p < fr0 → gn p < 64 ∧ frP T.1 (gn p) = true ∧ ga p = nI (gn p / 2) ∧ gb p = nI (othN T.wi (gn p))
abbrev cosG (T : Tn) (z : Nat) (gn : Nat → Nat) (a b c : Nat) : Int32 := cosI T z (gn a) (gn b) (gn c)
abbrev lbQ (G : rG) (h : rH) (T : Tn) (i : Nat → Int32) (j : Nat → Int64) (fr0 many : Nat) (ga gb : Nat → Int32) (s : bst) : rH → Option Value → Prop := fun h' v => v = none ∧ bsAt G h h' T i j fr0 many ga gb s
theorem bs_at {h0 h : rH} {i0 : Nat → Int32} {s : bst} (q : bsAt G h0 h T i0 j fr0 many ga gb s) : ∃ i, h[38]? = some (mo G i j) ∧ i 27 = nI fr0 ∧ i 31 = nI many := by
  obtain ⟨i, f, q1, si, g27, g31, -⟩ := q
  exact ⟨i, q1.at, g27, g31⟩
def lbW (l : Launch) (G : rG) (h : rH) (T : Tn) (i : Nat → Int32) (j : Nat → Int64) (fr0 many : Nat) (ga gb : Nat → Int32) (z : Nat) (k : Int32) (S : bst) (pc : Nat) (ls : List (Option Value)) (s : bst) : Prop := ∀ h1, bsAt G h h1 T i j fr0 many ga gb s → rW l G (rRm 7 0 0) mX12_layBlinds (rZ G (lbQ G h T i j fr0 many ga gb S) 0 0) 0 0 pc ([some (.ref (gN G + 38)), some (.int (nI z)), some (.int k)] ++ ls) [] h1
set_option maxRecDepth 100000 in
set_option maxHeartbeats 400000 in
theorem lb3 (o : T.ok) (hz : z < T.nl) (hfr : fr0 ≤ 52) (hgn : gnOk T fr0 gn ga gb) {k : Int32} {S : bst} {a b e2 e : Nat} (ha : a < fr0) (hb : b < fr0) (he : e < fr0) {s0 : bst} {r0 c0 : Nat} (hc0 : c0 + r0 = e + 1) (NX : ∀ a6 a7, lbW l G h T i j fr0 many ga gb z k S 72 [some (.int (nI a)), some (.int (nI e2)), some (.int (nI (b + 1))), a6, a7] (lk3 (cosG T z gn) a b r0 c0 s0)) : ∀ (r c : Nat) (s : bst), c + r = e + 1 → lk3 (cosG T z gn) a b r c s = lk3 (cosG T z gn) a b r0 c0 s0 → lbW l G h T i j fr0 many ga gb z k S 119 [some (.int (nI a)), some (.int (nI e2)), some (.int (nI b)), some (.int (nI e)), some (.int (nI c))] s := by
  intro r
  induction r with
  | zero =>
    intro c s hc hs h1 q1
    have ec : c = e + 1 := by omega
    subst ec
    have q2 : bsAt G h h1 T i j fr0 many ga gb (lk3 (cosG T z gn) a b r0 c0 s0) := by rw [← hs]; exact q1
    obtain ⟨i1, hm1, g27, g31⟩ := bs_at q1
    refine a_iload 121 dX12_layBlinds_119 rfl rfl ?_
    refine a_iload 123 dX12_layBlinds_121 rfl rfl ?_
    refine a_icmp_gt 142 126 dX12_layBlinds_123 rfl (by decide) (fun c_123 => ?_) (fun c_123 => absurd (nI_lt (by omega) (by omega)) c_123)
    refine a_iinc _ 145 dX12_layBlinds_142 rfl rfl (by decide) rfl ?_
    refine a_goto 72 dX12_layBlinds_145 (by decide) ?_
    rw [show nI b + Int32.ofInt 1 = nI (b + 1) from nI_1 b]
    exact NX _ _ _ q2
  | succ r ih =>
    intro c s hc hs h1 q1
    obtain ⟨i1, hm1, g27, g31⟩ := bs_at q1
    have hcf : c < fr0 := by omega
    obtain ⟨u1, u2, u3⟩ := hgn a ha
    obtain ⟨v1, v2, v3⟩ := hgn b hb
    obtain ⟨w1, w2, w3⟩ := hgn c hcf
    refine a_iload 121 dX12_layBlinds_119 rfl rfl ?_
    refine a_iload 123 dX12_layBlinds_121 rfl rfl ?_
    refine a_icmp_gt 142 126 dX12_layBlinds_123 rfl (by decide) (fun c_123 => absurd c_123 (nI_nlt (a := e) (b := c) (by omega) (by omega))) (fun c_123 => ?_)
    refine a_aload_n 127 dX12_layBlinds_126 rfl rfl ?_
    refine a_iload_n 128 dX12_layBlinds_127 rfl rfl ?_
    refine a_iload_n 129 dX12_layBlinds_128 rfl rfl ?_
    refine a_iload 131 dX12_layBlinds_129 rfl rfl ?_
    refine a_iload 133 dX12_layBlinds_131 rfl rfl ?_
    refine a_callV ok_X12_look ln_X12_293 in_X12_look rfl 136 dX12_layBlinds_133 rfl (m_look q1 o hz u1 v1 w1 u2 v2 w2 (by omega) (by omega) (by omega) u3 v3 w3) (by repeat (first | assumption | (refine rg_ne (by first | decide | omega) ?_) | apply rg_eq | refine rg_fr (by assumption) (by first | decide | (simp; omega)) ?_)) rfl rfl rfl ⟨(Nat.le_of_ble_eq_true rfl), (Nat.le_of_ble_eq_true rfl)⟩ (Nat.le_of_ble_eq_true rfl) ⟨(Nat.le_of_ble_eq_true rfl), (Nat.le_of_ble_eq_true rfl)⟩ ?_
    rintro h2 v ⟨rfl, q2⟩
    refine a_iinc _ 139 dX12_layBlinds_136 rfl rfl (by decide) rfl ?_
    refine a_goto 119 dX12_layBlinds_139 (by decide) ?_
    rw [show nI c + Int32.ofInt 1 = nI (c + 1) from nI_1 c]
    exact ih (c + 1) _ (by omega) hs _ q2
end MLAYB
