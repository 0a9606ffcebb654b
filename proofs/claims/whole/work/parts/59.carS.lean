/-! WHAT A CARRIAGE'S TEXT IS: n cells by their codes; the first fault, or long, wide, mirrors -/
abbrev carK (mir : Bool) : Nat := if mir then 5 else 4
def carFace (code : Nat → Int32) (N k1 : Nat) (j : Nat) : Bool := decide (¬ (k1 + j < N ∧ 0 ≤ faceBI (code (k1 + j))))
def carS (code : Nat → Int32) (N : Nat) : Sum Nat (Nat × Nat × Bool) :=
  if ¬ (0 < N ∧ code 0 = 99) then .inl 0
  else if ¬ (1 < N ∧ (49 ≤ code 1 ∧ code 1 ≤ 56)) then .inl 1
  else if ¬ (2 < N ∧ (49 ≤ code 2 ∧ code 2 ≤ 52)) then .inl 2
  else if ¬ ((if 3 < N ∧ code 3 = 109 then 4 else 3) < N ∧ code (if 3 < N ∧ code 3 = 109 then 4 else 3) = 59) then .inl (if 3 < N ∧ code 3 = 109 then 4 else 3)
  else match firstN (carFace code N (carK (decide (3 < N ∧ code 3 = 109)))) ((code 1 - 48).toNatClampNeg * (code 2 - 48).toNatClampNeg) 0 with
    | some j => .inl (carK (decide (3 < N ∧ code 3 = 109)) + j)
    | none => if carK (decide (3 < N ∧ code 3 = 109)) + (code 1 - 48).toNatClampNeg * (code 2 - 48).toNatClampNeg = N then .inr ((code 1 - 48).toNatClampNeg, (code 2 - 48).toNatClampNeg, decide (3 < N ∧ code 3 = 109)) else .inl (carK (decide (3 < N ∧ code 3 = 109)) + (code 1 - 48).toNatClampNeg * (code 2 - 48).toNatClampNeg)
/-- an end of the reading that is right: first fault p, or none with these seats -/
def ctOk (code : Nat → Int32) (N k1 le wi : Nat) (mi : Int32) (X : ctS × Option Nat) (F : Option Nat) : Prop := match F with
  | some j => ctAns N X = nI (k1 + j)
  | none => if k1 + le * wi = N then ctAns N X = -9 ∧ ∃ fa, X.1 = (5, nI le, nI wi, mi, nI (le * wi), fa) ∧ ∀ j, j < le * wi → fa j = faceBI (code (k1 + j)) else ctAns N X = nI (k1 + le * wi)
theorem faceBI_cases (c : Int32) : faceBI c = -9 ∨ ∃ k : Nat, k < 4 ∧ faceBI c = nI k := by
  unfold faceBI
  repeat' split
  · exact Or.inr ⟨1, by decide, rfl⟩
  · exact Or.inr ⟨0, by decide, rfl⟩
  · exact Or.inr ⟨2, by decide, rfl⟩
  · exact Or.inr ⟨3, by decide, rfl⟩
  · exact Or.inl rfl
theorem faceBI_n (c : Int32) : ¬ 0 ≤ faceBI c ↔ faceBI c = -9 := by
  rcases faceBI_cases c with e | ⟨k, hk, e⟩
  · rw [e]; decide
  · rw [e]
    exact ⟨fun z => absurd (nI_pos' (by omega)) z, fun z => absurd z (nI_ne9 (by omega))⟩
theorem ctS_seats {code : Nat → Int32} {N k1 le wi : Nat} {mi : Int32} (hle : le * wi ≤ 32) : ∀ (r c : Nat) (fa : Nat → Int32), c ≤ le * wi → k1 + c + r = N → N ≤ 60 → (∀ j, j < c → fa j = faceBI (code (k1 + j))) → ctOk code N k1 le wi mi (ctGo code r (k1 + c) (5, nI le, nI wi, mi, nI c, fa)) (firstN (carFace code N k1) (le * wi - c) c)
  | 0, c, fa, hc, hp, hN, hf => by
    have hw : ctW (5, nI le, nI wi, mi, nI c, fa) ↔ c = le * wi := by
      show ((5 : Int32) = 5 ∧ nI c = nI le * nI wi) ↔ _
      rw [pk_mul, nI_eq (by omega) (by omega)]
      exact ⟨fun z => z.2, fun z => ⟨rfl, z⟩⟩
    by_cases e : c = le * wi
    · rw [show le * wi - c = 0 by omega]
      show (if k1 + le * wi = N then _ else _)
      rw [if_pos (by omega)]
      exact ⟨if_pos (hw.mpr e), fa, by rw [e]; rfl, fun j hj => hf j (by omega)⟩
    · rw [show le * wi - c = (le * wi - c - 1) + 1 by omega, firstN, if_pos (show carFace code N k1 c = true from decide_eq_true (fun z => absurd z.1 (by omega)))]
      show ctAns N _ = _
      exact (if_neg (fun z => e (hw.mp z))).trans (congrArg nI (by omega))
  | r + 1, c, fa, hc, hp, hN, hf => by
    have ht : ctTakes (5, nI le, nI wi, mi, nI c, fa) (code (k1 + c)) = ctSeat (5, nI le, nI wi, mi, nI c, fa) (faceBI (code (k1 + c))) := rfl
    rw [ctGo, ht]
    by_cases e : c = le * wi
    · have hs : ctSeat (5, nI le, nI wi, mi, nI c, fa) (faceBI (code (k1 + c))) = ((5, nI le, nI wi, mi, nI c, fa), 0) := by
        unfold ctSeat
        dsimp only
        by_cases e9 : faceBI (code (k1 + c)) = -9
        · rw [if_pos e9]
        · rw [if_neg e9, if_pos (by rw [pk_mul]; exact nI_le (by omega) (by omega))]
      rw [hs, if_pos rfl, show le * wi - c = 0 by omega]
      show (if k1 + le * wi = N then _ else _)
      rw [if_neg (by omega)]
      show nI (k1 + c) = _
      rw [e]
    · rw [show le * wi - c = (le * wi - c - 1) + 1 by omega, firstN]
      by_cases e9 : faceBI (code (k1 + c)) = -9
      · have hs : ctSeat (5, nI le, nI wi, mi, nI c, fa) (faceBI (code (k1 + c))) = ((5, nI le, nI wi, mi, nI c, fa), 0) := by
          unfold ctSeat
          dsimp only
          rw [if_pos e9]
        rw [hs, if_pos rfl, if_pos (show carFace code N k1 c = true from decide_eq_true (fun z => (faceBI_n _).mpr e9 z.2))]
        rfl
      · have hs : ctSeat (5, nI le, nI wi, mi, nI c, fa) (faceBI (code (k1 + c))) = ((5, nI le, nI wi, mi, nI (c + 1), upd fa c (faceBI (code (k1 + c)))), 1) := by
          unfold ctSeat
          dsimp only
          rw [if_neg e9, if_neg (by rw [pk_mul]; exact nI_ge (by omega) (by omega)), if_neg (nI_pos (n := c) (by omega)), if_pos (show nI c < 32 from nI_lt (b := 32) (by omega) (by decide)), nI_clamp (by omega), nI_1]
        have hF : carFace code N k1 c = false := decide_eq_false (fun z => z ⟨by omega, Decidable.not_not.mp (fun w => e9 ((faceBI_n _).mp w))⟩)
        rw [hs, if_neg (show ¬ (1 : Int32) = 0 by decide), if_neg (show ¬ carFace code N k1 c = true by rw [hF]; decide)]
        have ih := ctS_seats (code := code) (k1 := k1) (mi := mi) hle r (c + 1) (upd fa c (faceBI (code (k1 + c)))) (by omega) (by omega) hN (fun j hj => by
          by_cases ej : j = c
          · subst ej; exact pk_us
          · rw [pk_un ej]; exact hf j (by omega))
        rw [show le * wi - (c + 1) = le * wi - c - 1 by omega] at ih
        exact ih
theorem dig_N {c : Int32} {lo hi : Nat} (h48 : 48 ≤ lo) (hl : lo < 100) (hh : hi < 100) (h : nI lo ≤ c ∧ c ≤ nI hi) : ∃ k : Nat, lo - 48 ≤ k ∧ k ≤ hi - 48 ∧ c - 48 = nI k ∧ (c - 48).toNatClampNeg = k := by
  obtain ⟨x, hx, rfl⟩ := nI_of (x := c) (Int32.not_lt.mpr (Int32.le_trans (nI_pos' (n := lo) (by omega)) h.1))
  rw [nI_leI (by omega) hx, nI_leI hx (by omega)] at h
  have e : nI x - 48 = nI (x - 48) := pk_sub (b := 48) (by omega)
  exact ⟨x - 48, by omega, by omega, e, by rw [e, nI_clamp (by omega)]⟩
theorem carS_fin {code : Nat → Int32} {N le wi : Nat} {mir : Bool} {X : ctS × Option Nat} (l1 : 1 ≤ le) (l2 : le < 9) (w1 : 1 ≤ wi) (w2 : wi < 5) (hN : N ≤ 60) (S : ctOk code N (carK mir) le wi (bI mir) X (firstN (carFace code N (carK mir)) (le * wi - 0) 0)) : match (match firstN (carFace code N (carK mir)) (le * wi) 0 with
    | some j => Sum.inl (carK mir + j)
    | none => if carK mir + le * wi = N then Sum.inr (le, wi, mir) else Sum.inl (carK mir + le * wi) : Sum Nat (Nat × Nat × Bool)) with
    | .inl p => ctAns N X = nI p ∧ p ≤ 60
    | .inr (le, wi, mir) => ctAns N X = -9 ∧ 1 ≤ le ∧ le < 9 ∧ 1 ≤ wi ∧ wi < 5 ∧ ∃ fb, X.1 = (5, nI le, nI wi, bI mir, nI (le * wi), fb) ∧ ∀ j, j < le * wi → fb j = faceBI (code (carK mir + j)) ∧ 0 ≤ faceBI (code (carK mir + j)) := by
  rw [Nat.sub_zero] at S
  have hk : carK mir ≤ 5 := by unfold carK; split <;> decide
  have hlw : le * wi ≤ 8 * 4 := Nat.mul_le_mul (by omega) (by omega)
  cases hF : firstN (carFace code N (carK mir)) (le * wi) 0 with
  | some j =>
    rw [hF] at S
    have := firstN_spec hF
    exact ⟨S, by omega⟩
  | none =>
    rw [hF] at S
    have S' : if carK mir + le * wi = N then ctAns N X = -9 ∧ ∃ fa, X.1 = (5, nI le, nI wi, bI mir, nI (le * wi), fa) ∧ ∀ j, j < le * wi → fa j = faceBI (code (carK mir + j)) else ctAns N X = nI (carK mir + le * wi) := S
    dsimp only
    by_cases e : carK mir + le * wi = N
    · rw [if_pos e] at S' ⊢
      obtain ⟨s1, fb, s2, s3⟩ := S'
      refine ⟨s1, l1, l2, w1, w2, fb, s2, fun j hj => ⟨s3 j hj, ?_⟩⟩
      have h0 := firstN_no hF j (Nat.zero_le _) (by omega)
      have h1 := of_decide_eq_false h0
      exact (Decidable.not_not.mp h1).2
    · rw [if_neg e] at S' ⊢
      exact ⟨S', by omega⟩
/-- the class reads just that -/
theorem ctGo_carS {code : Nat → Int32} {N : Nat} (hN : N ≤ 60) (fa : Nat → Int32) : match carS code N with
    | .inl p => ctAns N (ctGo code N 0 (0, 0, 0, 0, 0, fa)) = nI p ∧ p ≤ 60
    | .inr (le, wi, mir) => ctAns N (ctGo code N 0 (0, 0, 0, 0, 0, fa)) = -9 ∧ 1 ≤ le ∧ le < 9 ∧ 1 ≤ wi ∧ wi < 5 ∧ ∃ fb, (ctGo code N 0 (0, 0, 0, 0, 0, fa)).1 = (5, nI le, nI wi, bI mir, nI (le * wi), fb) ∧ ∀ j, j < le * wi → fb j = faceBI (code (carK mir + j)) ∧ 0 ≤ faceBI (code (carK mir + j)) := by
  cases N with
  | zero => exact ⟨rfl, by decide⟩
  | succ N1 =>
    have t0 : ctTakes (0, 0, 0, 0, 0, fa) (code 0) = ((1, 0, 0, 0, 0, fa), if code 0 = 99 then 1 else 0) := ct_0 rfl
    rw [ctGo, t0]
    unfold carS
    by_cases c0 : code 0 = 99
    · rw [if_neg (show ¬ ¬ (0 < _ ∧ code 0 = 99) from fun z => z ⟨by omega, c0⟩), if_pos c0, if_neg (show ¬ (1 : Int32) = 0 by decide)]
      cases N1 with
      | zero => rw [if_pos (show ¬ (1 < 0 + 1 ∧ (49 ≤ code 1 ∧ code 1 ≤ 56)) from fun z => absurd z.1 (by omega))]; exact ⟨rfl, by decide⟩
      | succ N2 =>
        have t1 : ctTakes (1, 0, 0, 0, 0, fa) (code (0 + 1)) = ((2, code 1 - 48, 0, 0, 0, fa), if 49 ≤ code 1 ∧ code 1 ≤ 56 then 1 else 0) := ct_1 rfl
        rw [ctGo, t1]
        by_cases c1 : 49 ≤ code 1 ∧ code 1 ≤ 56
        · rw [if_neg (show ¬ ¬ (1 < _ ∧ (49 ≤ code 1 ∧ code 1 ≤ 56)) from fun z => z ⟨by omega, c1⟩), if_pos c1, if_neg (show ¬ (1 : Int32) = 0 by decide)]
          obtain ⟨le, l1, l2, l3, l4⟩ := dig_N (lo := 49) (hi := 56) (by decide) (by decide) (by decide) c1
          rw [l4, l3]
          cases N2 with
          | zero => rw [if_pos (show ¬ (2 < 0 + 1 + 1 ∧ (49 ≤ code 2 ∧ code 2 ≤ 52)) from fun z => absurd z.1 (by omega))]; exact ⟨rfl, by decide⟩
          | succ N3 =>
            have t2 : ctTakes (2, nI le, 0, 0, 0, fa) (code (0 + 1 + 1)) = ((3, nI le, code 2 - 48, 0, 0, fa), if 49 ≤ code 2 ∧ code 2 ≤ 52 then 1 else 0) := ct_2 rfl
            rw [ctGo, t2]
            by_cases c2 : 49 ≤ code 2 ∧ code 2 ≤ 52
            · rw [if_neg (show ¬ ¬ (2 < _ ∧ (49 ≤ code 2 ∧ code 2 ≤ 52)) from fun z => z ⟨by omega, c2⟩), if_pos c2, if_neg (show ¬ (1 : Int32) = 0 by decide)]
              obtain ⟨wi, w1, w2, w3, w4⟩ := dig_N (lo := 49) (hi := 52) (by decide) (by decide) (by decide) c2
              rw [w4, w3]
              have hlw : le * wi ≤ 8 * 4 := Nat.mul_le_mul (by omega) (by omega)
              cases N3 with
              | zero =>
                rw [if_neg (show ¬ (3 < 0 + 1 + 1 + 1 ∧ code 3 = 109) from fun z => absurd z.1 (by omega)), if_pos (show ¬ (3 < 0 + 1 + 1 + 1 ∧ code 3 = 59) from fun z => absurd z.1 (by omega))]
                exact ⟨rfl, by decide⟩
              | succ N4 =>
                by_cases c3 : code 3 = 109
                · have t3 : ctTakes (3, nI le, nI wi, 0, 0, fa) (code (0 + 1 + 1 + 1)) = ((4, nI le, nI wi, 1, 0, fa), 1) := (ct_3 rfl).trans (if_pos c3)
                  have g3 : 3 < N4 + 1 + 1 + 1 + 1 ∧ code 3 = 109 := ⟨by omega, c3⟩
                  rw [ctGo, t3, if_neg (show ¬ (1 : Int32) = 0 by decide), if_pos g3, decide_eq_true g3]
                  cases N4 with
                  | zero => rw [if_pos (show ¬ (4 < 0 + 1 + 1 + 1 + 1 ∧ code 4 = 59) from fun z => absurd z.1 (by omega))]; exact ⟨rfl, by decide⟩
                  | succ N5 =>
                    have t4 : ctTakes (4, nI le, nI wi, 1, 0, fa) (code (0 + 1 + 1 + 1 + 1)) = ((5, nI le, nI wi, 1, 0, fa), if code 4 = 59 then 1 else 0) := ct_4 rfl
                    rw [ctGo, t4]
                    by_cases c4 : code 4 = 59
                    · rw [if_neg (show ¬ ¬ (4 < _ ∧ code 4 = 59) from fun z => z ⟨by omega, c4⟩), if_pos c4, if_neg (show ¬ (1 : Int32) = 0 by decide)]
                      have S := ctS_seats (code := code) (N := N5 + 1 + 1 + 1 + 1 + 1) (k1 := 5) (le := le) (wi := wi) (mi := 1) hlw N5 0 fa (by omega) (by omega) hN (fun j hj => absurd hj (by omega))
                      exact carS_fin (mir := true) (by omega) (by omega) (by omega) (by omega) hN S
                    · rw [if_pos (show ¬ (4 < _ ∧ code 4 = 59) from fun z => c4 z.2), if_neg c4, if_pos rfl]
                      exact ⟨rfl, by decide⟩
                · have g3 : ¬ (3 < N4 + 1 + 1 + 1 + 1 ∧ code 3 = 109) := fun z => c3 z.2
                  have t3 : ctTakes (3, nI le, nI wi, 0, 0, fa) (code (0 + 1 + 1 + 1)) = ((5, nI le, nI wi, 0, 0, fa), if code 3 = 59 then 1 else 0) := (ct_3 rfl).trans (if_neg c3)
                  rw [ctGo, t3, if_neg g3, decide_eq_false g3]
                  by_cases c4 : code 3 = 59
                  · rw [if_neg (show ¬ ¬ (3 < _ ∧ code 3 = 59) from fun z => z ⟨by omega, c4⟩), if_pos c4, if_neg (show ¬ (1 : Int32) = 0 by decide)]
                    have S := ctS_seats (code := code) (N := N4 + 1 + 1 + 1 + 1) (k1 := 4) (le := le) (wi := wi) (mi := 0) hlw N4 0 fa (by omega) (by omega) hN (fun j hj => absurd hj (by omega))
                    exact carS_fin (mir := false) (by omega) (by omega) (by omega) (by omega) hN S
                  · rw [if_pos (show ¬ (3 < _ ∧ code 3 = 59) from fun z => c4 z.2), if_neg c4, if_pos rfl]
                    exact ⟨rfl, by decide⟩
            · rw [if_pos (show ¬ (2 < _ ∧ (49 ≤ code 2 ∧ code 2 ≤ 52)) from fun z => c2 z.2), if_neg c2, if_pos rfl]
              exact ⟨rfl, by decide⟩
        · rw [if_pos (show ¬ (1 < _ ∧ (49 ≤ code 1 ∧ code 1 ≤ 56)) from fun z => c1 z.2), if_neg c1, if_pos rfl]
          exact ⟨rfl, by decide⟩
    · rw [if_pos (show ¬ (0 < _ ∧ code 0 = 99) from fun z => c0 z.2), if_neg c0, if_pos rfl]
      exact ⟨rfl, by decide⟩
