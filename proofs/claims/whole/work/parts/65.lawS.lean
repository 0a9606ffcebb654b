/-! WHAT A LAW'S TEXT IS: the first fault, or the numbers that are told -/
abbrev leaN (w : Nat) : Nat := if w = 3 ∨ w = 5 ∨ w = 6 then 1 else 0
abbrev untN (w : Nat) : Nat := if w = 1 then 6 else if w = 2 then 2 else if w = 3 ∨ w = 4 then 3 else if w = 6 then 5 else 1
abbrev tolT : Type := Nat → Option Nat
def lawGo (code : Nat → Int32) (N : Nat) : Nat → Nat → tolT → Sum Nat tolT
  | 0, p, _ => .inl p
  | r + 1, p, t =>
    if p < N ∧ 0 ≤ numBI (code p) ∧ t (numBI (code p)).toNatClampNeg = none then
      (if p + 1 < N ∧ (nI (48 + leaN (numBI (code p)).toNatClampNeg) ≤ code (p + 1) ∧ code (p + 1) ≤ 57) then
        (if p + 2 < N then (if code (p + 2) = 59 ∧ r ≠ 0 then lawGo code N r (p + 3) (fun x => if x = (numBI (code p)).toNatClampNeg then some (code (p + 1) - 48).toNatClampNeg else t x) else .inl (p + 2))
          else .inr (fun x => if x = (numBI (code p)).toNatClampNeg then some (code (p + 1) - 48).toNatClampNeg else t x))
        else .inl (p + 1))
      else .inl p
abbrev lawS (code : Nat → Int32) (N : Nat) : Sum Nat tolT := lawGo code N 7 0 (fun _ => none)
abbrev numT (t : tolT) (w : Nat) : Nat := (t w).getD (untN w)
/-- what is told is a figure of its bounds -/
def tolOk (t : tolT) : Prop := ∀ w v, t w = some v → leaN w ≤ v ∧ v < 10
def ltOk (N : Nat) (X : ltS × Option Nat) (Y : Sum Nat tolT) : Prop := match Y with
  | .inl p => ltAns N X = nI p ∧ p ≤ 60
  | .inr t => ltAns N X = -9 ∧ tolOk t ∧ ∀ w, w < 7 → X.1.2.2.2.1 w = nI (numT t w)
theorem numBI_cases (c : Int32) : numBI c = -9 ∨ ∃ w : Nat, w < 7 ∧ numBI c = nI w := by
  unfold numBI
  repeat' split
  · exact Or.inr ⟨0, by decide, rfl⟩
  · exact Or.inr ⟨1, by decide, rfl⟩
  · exact Or.inr ⟨2, by decide, rfl⟩
  · exact Or.inr ⟨3, by decide, rfl⟩
  · exact Or.inr ⟨4, by decide, rfl⟩
  · exact Or.inr ⟨5, by decide, rfl⟩
  · exact Or.inr ⟨6, by decide, rfl⟩
  · exact Or.inl rfl
theorem lea_D : ∀ w, w < 7 → rLeast w = nI (leaN w) := by decide +kernel
theorem unt_D : ∀ w, w < 7 → rUntold w = nI (untN w) := by decide +kernel
theorem ltGo_lawS {code : Nat → Int32} {N : Nat} (hN : N ≤ 60) : ∀ (r R p : Nat) (t : tolT) (wh : Int32) (nu to : Nat → Int32), r ≤ 7 → p + R = N → tolOk t → (∀ w, w < 7 → nu w = nI (numT t w) ∧ (to w = 0 ↔ t w = none)) → 0 < r → ltOk N (ltGo code R p (0, wh, nI (7 - r), nu, to)) (lawGo code N r p t)
  | 0, _, _, _, _, _, _, _, _, _, _, h => absurd h (by omega)
  | r + 1, 0, p, t, wh, nu, to, hr, hp, ht, hn, _ => by
    rw [lawGo, if_neg (show ¬ (p < N ∧ 0 ≤ numBI (code p) ∧ t (numBI (code p)).toNatClampNeg = none) from fun z => absurd z.1 (by omega))]
    exact ⟨congrArg nI (by omega), by omega⟩
  | r + 1, R + 1, p, t, wh, nu, to, hr, hp, ht, hn, _ => by
    have t0 : ltTakes (0, wh, nI (7 - (r + 1)), nu, to) (code p) = ltLetter (1, wh, nI (7 - (r + 1)), nu, to) (numBI (code p)) := lq_0 rfl
    rw [ltGo, t0, lawGo]
    rcases numBI_cases (code p) with e | ⟨w, hw, e⟩
    · rw [e, if_neg (show ¬ (p < N ∧ (0 : Int32) ≤ -9 ∧ t (-9 : Int32).toNatClampNeg = none) from fun z => absurd z.2.1 (by decide))]
      have l0 : ltLetter (1, wh, nI (7 - (r + 1)), nu, to) (-9) = ((1, wh, nI (7 - (r + 1)), nu, to), 0) := rfl
      rw [l0, if_pos rfl]
      exact ⟨rfl, by omega⟩
    · rw [e, nI_clamp (by omega)]
      have hw0 : 0 ≤ nI w ∧ nI w < 7 := ⟨nI_pos' (by omega), nI_lt (b := 7) hw (by decide)⟩
      by_cases htw : t w = none
      · rw [if_pos (show p < N ∧ 0 ≤ nI w ∧ t w = none from ⟨by omega, hw0.1, htw⟩)]
        have l1 : ltLetter (1, wh, nI (7 - (r + 1)), nu, to) (nI w) = ((1, nI w, nI (7 - (r + 1)), nu, upd to w 1), 1) := by
          unfold ltLetter
          dsimp only
          rw [if_pos hw0, nI_clamp (by omega), if_pos ((hn w hw).2.mpr htw)]
        rw [l1, if_neg (show ¬ (1 : Int32) = 0 by decide)]
        cases R with
        | zero =>
          rw [if_neg (show ¬ (p + 1 < N ∧ (nI (48 + leaN w) ≤ code (p + 1) ∧ code (p + 1) ≤ 57)) from fun z => absurd z.1 (by omega))]
          exact ⟨congrArg nI (by omega), by omega⟩
        | succ R2 =>
          have t1 : ltTakes (1, nI w, nI (7 - (r + 1)), nu, upd to w 1) (code (p + 1)) = ltDigit (2, nI w, nI (7 - (r + 1)), nu, upd to w 1) (code (p + 1)) := lq_1 rfl
          have hlw : (48 : Int32) + rLeast (nI w).toNatClampNeg = nI (48 + leaN w) := by
            rw [nI_clamp (by omega), lea_D w hw, show (48 : Int32) = nI 48 from rfl, nI_add]
          have hlw1 : leaN w ≤ 1 := by unfold leaN; split <;> omega
          rw [ltGo, t1]
          by_cases hd : nI (48 + leaN w) ≤ code (p + 1) ∧ code (p + 1) ≤ 57
          · rw [if_pos (show p + 1 < N ∧ (nI (48 + leaN w) ≤ code (p + 1) ∧ code (p + 1) ≤ 57) from ⟨by omega, hd⟩)]
            obtain ⟨v, v1, v2, v3, v4⟩ := dig_N (lo := 48 + leaN w) (hi := 57) (by omega) (by omega) (by decide) hd
            have d1 : ltDigit (2, nI w, nI (7 - (r + 1)), nu, upd to w 1) (code (p + 1)) = ((2, nI w, nI (7 - r), upd nu w (nI v), upd to w 1), 1) := by
              unfold ltDigit
              dsimp only
              rw [if_pos hw0, hlw, if_neg (Int32.not_lt.mpr hd.1), if_pos hd.2, nI_clamp (by omega), v3, nI_1, show 7 - (r + 1) + 1 = 7 - r by omega]
            rw [d1, if_neg (show ¬ (1 : Int32) = 0 by decide), v4]
            have hn2 : ∀ x, x < 7 → upd nu w (nI v) x = nI (numT (fun x => if x = w then some v else t x) x) ∧ (upd to w 1 x = 0 ↔ (if x = w then some v else t x) = none) := by
              intro x hx
              by_cases ex : x = w
              · subst ex
                rw [pk_us, pk_us, if_pos rfl]
                refine ⟨by unfold numT; dsimp only; rw [if_pos rfl]; rfl, ⟨fun z => absurd z (by decide), fun z => by cases z⟩⟩
              · rw [pk_un ex, pk_un ex, if_neg ex]
                refine ⟨by unfold numT; dsimp only; rw [if_neg ex]; exact (hn x hx).1, (hn x hx).2⟩
            have ht2 : tolOk (fun x => if x = w then some v else t x) := by
              intro x y hy
              dsimp only at hy
              by_cases ex : x = w
              · rw [if_pos ex] at hy
                cases hy
                subst ex
                exact ⟨by omega, by omega⟩
              · rw [if_neg ex] at hy
                exact ht x y hy
            cases R2 with
            | zero =>
              rw [if_neg (show ¬ p + 2 < N by omega)]
              exact ⟨show (if (2 : Int32) = 2 then (-9 : Int32) else nI N) = -9 from if_pos rfl, ht2, fun x hx => (hn2 x hx).1⟩
            | succ R3 =>
              rw [if_pos (show p + 2 < N by omega)]
              have t2 : ltTakes (2, nI w, nI (7 - r), upd nu w (nI v), upd to w 1) (code (p + 1 + 1)) = ((0, nI w, nI (7 - r), upd nu w (nI v), upd to w 1), if code (p + 2) = 59 then (if nI (7 - r) < 7 then 1 else 0) else 0) := lq_d ⟨by decide, by decide⟩
              rw [ltGo, t2]
              have h7 : nI (7 - r) < 7 ↔ r ≠ 0 := by
                rw [show (7 : Int32) = nI 7 from rfl, nI_ltI (by omega) (by omega)]
                omega
              by_cases hs : code (p + 2) = 59 ∧ r ≠ 0
              · rw [if_pos hs, if_pos hs.1, if_pos (h7.mpr hs.2), if_neg (show ¬ (1 : Int32) = 0 by decide)]
                exact ltGo_lawS hN r R3 (p + 3) _ _ _ _ (by omega) (by omega) ht2 hn2 (by omega)
              · rw [if_neg hs]
                have e0 : (if code (p + 2) = 59 then (if nI (7 - r) < 7 then (1 : Int32) else 0) else 0) = 0 := by
                  by_cases h1 : code (p + 2) = 59
                  · rw [if_pos h1, if_neg (fun z => hs ⟨h1, h7.mp z⟩)]
                  · rw [if_neg h1]
                rw [e0, if_pos rfl]
                exact ⟨rfl, by omega⟩
          · rw [if_neg (show ¬ (p + 1 < N ∧ (nI (48 + leaN w) ≤ code (p + 1) ∧ code (p + 1) ≤ 57)) from fun z => hd z.2)]
            have d1 : ltDigit (2, nI w, nI (7 - (r + 1)), nu, upd to w 1) (code (p + 1)) = ((2, nI w, nI (7 - (r + 1)), nu, upd to w 1), 0) := by
              unfold ltDigit
              dsimp only
              rw [if_pos hw0, hlw]
              by_cases h1 : code (p + 1) < nI (48 + leaN w)
              · rw [if_pos h1]
              · rw [if_neg h1, if_neg (fun z => hd ⟨Int32.not_lt.mp h1, z⟩)]
            rw [d1, if_pos rfl]
            exact ⟨rfl, by omega⟩
      · rw [if_neg (show ¬ (p < N ∧ 0 ≤ nI w ∧ t w = none) from fun z => htw z.2.2)]
        have l1 : ltLetter (1, wh, nI (7 - (r + 1)), nu, to) (nI w) = ((1, wh, nI (7 - (r + 1)), nu, to), 0) := by
          unfold ltLetter
          dsimp only
          rw [if_pos hw0, nI_clamp (by omega), if_neg (fun z => htw ((hn w hw).2.mp z))]
        rw [l1, if_pos rfl]
        exact ⟨rfl, by omega⟩
