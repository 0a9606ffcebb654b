/-! THE MODEL's carriage: who is beside whom (nb), blinds, lines. k, d are seats below 32 -/
abbrev noI (o : Option Nat) : Int32 := match o with
  | none => -9
  | some d => nI d
/-- the model's table of neighbours is nb -/
def nbOk (f : Nat → Int32) (nb : Nat → Nat → Option Nat) : Prop := ∀ k w, k < 32 → w < 4 → f (4 * k + w) = noI (nb k w) ∧ ∀ d, nb k w = some d → d < 32
def isB (f : Nat → Int32) : Prop := ∀ k, f k = 0 ∨ f k = 1
theorem isB_upd {f : Nat → Int32} (hf : isB f) {k : Nat} {x : Int32} (hx : x = 0 ∨ x = 1) : isB (upd f k x) := by
  intro j
  simp only [upd]
  split
  · exact hx
  · exact hf j
theorem vn01 {x : Int32} (h : x = 0 ∨ x = 1) : vp_nar .boolean x = x := by rcases h with rfl | rfl <;> rfl
def gapB (nb : Nat → Nat → Option Nat) (k d : Nat) : Nat → Bool
  | 0 => false
  | w + 1 => gapB nb k d w || decide (nb k w = some d)
abbrev blM (bR bB : Nat → Int32) (wi k d : Nat) : Int32 := if max k d - min k d = wi then bB (min k d) else bR (min k d)
theorem noI_eq {o : Option Nat} {d : Nat} (ho : ∀ x, o = some x → x < 32) (hd : d < 32) : noI o = nI d ↔ o = some d := by
  cases o with
  | none =>
    refine ⟨fun q => ?_, fun q => by cases q⟩
    have e1 : (nI d).toInt = (d : Int) := nI_toInt (by omega)
    have e2 : (nI d).toInt = -9 := by rw [← q]; rfl
    omega
  | some x =>
    show nI x = nI d ↔ some x = some d
    rw [nI_eq (by have := ho x rfl; omega) (by omega)]
    exact ⟨fun q => by rw [q], fun q => Option.some.inj q⟩
theorem noI_neg {o : Option Nat} (ho : ∀ x, o = some x → x < 32) : noI o < 0 ↔ o = none := by
  cases o with
  | none => exact ⟨fun _ => rfl, fun _ => by decide⟩
  | some x => exact ⟨fun q => absurd q (nI_pos (by have := ho x rfl; omega)), fun q => by cases q⟩
theorem gap_s1 {nb : Nat → Nat → Option Nat} {k d w : Nat} {y : Int32} (hy : y = (if gapB nb k d w then 1 else 0)) (c : ¬ y = 0) : (1 : Int32) = (if gapB nb k d (w + 1) then 1 else 0) := by
  cases hg : gapB nb k d w with
  | false => rw [hg] at hy; exact absurd hy c
  | true => simp [gapB, hg]
theorem gap_s2 {nb : Nat → Nat → Option Nat} {k d w : Nat} (c : nb k w = some d) : (1 : Int32) = (if gapB nb k d (w + 1) then 1 else 0) := by
  simp [gapB, c]
theorem gap_s3 {nb : Nat → Nat → Option Nat} {k d w : Nat} {y : Int32} (hy : y = (if gapB nb k d w then 1 else 0)) (c : y = 0) (c2 : ¬ nb k w = some d) : (0 : Int32) = (if gapB nb k d (w + 1) then 1 else 0) := by
  cases hg : gapB nb k d w with
  | false => simp [gapB, hg, c2]
  | true => rw [hg, c] at hy; exact absurd hy (by decide)
section MGEO
variable {l : Launch} {G : rG} {h : rH} {i : Nat → Int32} {j : Nat → Int64} {f bR bB s : Nat → Int32} {nb : Nat → Nat → Option Nat} {wi : Nat}
theorem k_X12_nextN (hm : h[38]? = some (mo G i j)) (hf : h[43]? = some (.inl (gA G 0, 128, .inl f))) (hn : nbOk f nb) {k w : Nat} (hk : k < 32) (hw : w < 4) : rM l G 0 mX12_nextTo 0 0 [.ref (gN G + 38), .int (nI k), .int (nI w)] h (rV h (some (.int (noI (nb k w))))) := by
  have e : (4 : Int32) * nI k + nI w = nI (4 * k + w) := by
    rw [show (4 : Int32) = nI 4 from rfl, pk_mul, nI_add]
  have h0 := k_X12_nextTo (l := l) hm hf (nI k) (nI w) (by rw [e]; exact vp_in_nI (by omega) (by decide))
  rw [e, nI_clamp (by omega), (hn k w hk hw).1] at h0
  exact h0
set_option maxRecDepth 100000 in
set_option maxHeartbeats 400000 in
theorem k_X12_isGap (hm : h[38]? = some (mo G i j)) (hf : h[43]? = some (.inl (gA G 0, 128, .inl f))) (hn : nbOk f nb) {k d : Nat} (hk : k < 32) (hd : d < 32) : rM l G 1 mX12_isGap 0 0 [.ref (gN G + 38), .int (nI k), .int (nI d)] h (rV h (some (.int (if gapB nb k d 4 then 1 else 0)))) := by
  refine rM_start (by decide) (Nat.le_of_ble_eq_true rfl) ?_
  have L : ∀ (r w : Nat) (y z : Int32), w + r = 4 → y = (if gapB nb k d w then 1 else 0) → z = nI w → rW l G (rRm 1 0 0) mX12_isGap (rZ G (rV h (some (.int (if gapB nb k d 4 then 1 else 0)))) 0 0) 0 0 5 [some (.ref (gN G + 38)), some (.int (nI k)), some (.int (nI d)), some (.int y), some (.int z)] [] h := by
    intro r
    induction r with
    | zero =>
      intro w y z hw hy hz
      subst hz
      have : w = 4 := by omega
      subst this
      refine a_iload 7 dX12_isGap_5 rfl rfl ?_
      refine a_iconst (4) 8 dX12_isGap_7 rfl (by decide) ?_
      refine a_icmp_ge 38 11 dX12_isGap_8 rfl (by decide) (fun c_8 => ?_) (fun c_8 => absurd (by decide) c_8)
      refine a_iload_n 39 dX12_isGap_38 rfl rfl ?_
      exact a_ireturn dX12_isGap_39 rfl (nb01 (by subst hy; split <;> simp)) (Nat.le_of_ble_eq_true rfl) (Nat.le_of_ble_eq_true rfl) ⟨rfl, by rw [hy]⟩
    | succ r ih =>
      intro w y z hw hy hz
      subst hz
      have hw4 : w < 4 := by omega
      refine a_iload 7 dX12_isGap_5 rfl rfl ?_
      refine a_iconst (4) 8 dX12_isGap_7 rfl (by decide) ?_
      refine a_icmp_ge 38 11 dX12_isGap_8 rfl (by decide) (fun c_8 => absurd c_8 (nI_ge (a := w) (b := 4) (by omega) (by omega))) (fun c_8 => ?_)
      refine a_iload_n 12 dX12_isGap_11 rfl rfl ?_
      refine a_if_ne 26 15 dX12_isGap_12 rfl (by decide) (fun c_12 => ?_) (fun c_12 => ?_)
      · refine a_iconst (1) 27 dX12_isGap_26 rfl (by decide) ?_
        refine a_goto 31 dX12_isGap_27 (by decide) ?_
        refine a_istore_n 32 dX12_isGap_31 rfl (by decide) ?_
        refine a_iinc _ 35 dX12_isGap_32 rfl rfl (by decide) rfl ?_
        refine a_goto 5 dX12_isGap_35 (by decide) ?_
        exact ih (w + 1) _ _ (by omega) (gap_s1 hy c_12) (nI_1 w)
      · refine a_aload_n 16 dX12_isGap_15 rfl rfl ?_
        refine a_iload_n 17 dX12_isGap_16 rfl rfl ?_
        refine a_iload 19 dX12_isGap_17 rfl rfl ?_
        refine a_callV ok_X12_nextTo ln_X12_166 in_X12_nextTo rfl 22 dX12_isGap_19 rfl (k_X12_nextN hm hf hn hk hw4) (by repeat (first | assumption | (refine rg_ne (by first | decide | omega) ?_) | apply rg_eq | refine rg_fr (by assumption) (by first | decide | (simp; omega)) ?_)) rfl rfl rfl ⟨(Nat.le_of_ble_eq_true rfl), (Nat.le_of_ble_eq_true rfl)⟩ (Nat.le_of_ble_eq_true rfl) ⟨(Nat.le_of_ble_eq_true rfl), (Nat.le_of_ble_eq_true rfl)⟩ ?_
        rintro _ _ ⟨rfl, rfl⟩
        refine a_iload_n 23 dX12_isGap_22 rfl rfl ?_
        refine a_icmp_ne 30 26 dX12_isGap_23 rfl (by decide) (fun c_23 => ?_) (fun c_23 => ?_)
        · refine a_iconst (0) 31 dX12_isGap_30 rfl (by decide) ?_
          refine a_istore_n 32 dX12_isGap_31 rfl (by decide) ?_
          refine a_iinc _ 35 dX12_isGap_32 rfl rfl (by decide) rfl ?_
          refine a_goto 5 dX12_isGap_35 (by decide) ?_
          exact ih (w + 1) _ _ (by omega) (gap_s3 hy c_12 (fun q => c_23 ((noI_eq (hn k w hk hw4).2 hd).mpr q))) (nI_1 w)
        · refine a_iconst (1) 27 dX12_isGap_26 rfl (by decide) ?_
          refine a_goto 31 dX12_isGap_27 (by decide) ?_
          refine a_istore_n 32 dX12_isGap_31 rfl (by decide) ?_
          refine a_iinc _ 35 dX12_isGap_32 rfl rfl (by decide) rfl ?_
          refine a_goto 5 dX12_isGap_35 (by decide) ?_
          exact ih (w + 1) _ _ (by omega) (gap_s2 ((noI_eq (hn k w hk hw4).2 hd).mp c_23)) (nI_1 w)
  refine a_iconst (0) 1 dX12_isGap_0 rfl (by decide) ?_
  refine a_istore_n 2 dX12_isGap_1 rfl (by decide) ?_
  refine a_iconst (0) 3 dX12_isGap_2 rfl (by decide) ?_
  refine a_istore 5 dX12_isGap_3 rfl (by decide) ?_
  exact L 4 0 _ _ (by omega) rfl rfl
end MGEO
