/-! WHAT ALWAYS HOLDS goes on holding -/
section OKS
variable {T : Tn}
theorem ok_S (o : T.ok) {f : Int32} {z : Nat} {hb : Bool} {ln : Int32} {sz : Nat} {ce : Nat → Int32} (h : sz ≤ 60) : (setS T f z hb ln sz ce).ok := by
  refine ⟨o.1, o.2.1, o.2.2.1, o.2.2.2.1, fun q hq => ?_⟩
  show (if q = z then sz else T.sz q) ≤ 60
  split
  · exact h
  · exact o.sz60 hq
theorem ok_FT (o : T.ok) (f t : Int32) : (setFT T f t).ok := o
theorem ok_lose (o : T.ok) (c : Int32) : (tLose T c).ok := by
  unfold tLose
  rcases oT_cases (n := 4) (by decide) c with ⟨e, hc⟩ | ⟨z, hz, rfl, e⟩
  · rw [e]; exact o
  · rw [e]; exact ok_S o (o.sz60 hz)
theorem ok_sheet (o : T.ok) (c d n : Int32) : (tSheet T c d n).ok := by
  unfold tSheet
  rcases oT_cases (n := 4) (by decide) c with ⟨e, hc⟩ | ⟨z, hz, rfl, e⟩
  · rw [e]; exact o
  · rw [e]
    dsimp only
    split
    · rename_i h
      split
      · exact o
      · rename_i h2
        obtain ⟨k, hk, ek⟩ := sheet_n h2 h.2
        subst ek
        exact ok_S o (by rw [nI_clamp (by omega)]; exact hk)
    · exact o
theorem ok_put (o : T.ok) (c a v : Int32) : (tPut T c a v).ok := by
  unfold tPut
  rcases oT_cases (n := 4) (by decide) c with ⟨e, hc⟩ | ⟨z, hz, rfl, e⟩
  · rw [e]; exact o
  · rw [e]
    dsimp only
    split
    · split
      · exact ok_S o (o.sz60 hz)
      · exact o
    · exact o
theorem ok_cell (o : T.ok) (c a d : Int32) : (tCell T c a d).ok := by
  unfold tCell
  split
  · split
    · exact o
    · exact o
  · exact o
theorem ok_copy (o : T.ok) (c a d b n : Int32) : (tCopy T c a d b n).ok := by
  unfold tCopy
  rcases oT_cases (n := 4) (by decide) c with ⟨e, hc⟩ | ⟨z, hz, rfl, e⟩
  · rw [e]; exact o
  · rcases oT_cases (n := 4) (by decide) d with ⟨e2, hd⟩ | ⟨y, hy, rfl, e2⟩
    · rw [e, e2]; exact o
    · rw [e, e2]
      dsimp only
      split
      · exact ok_S o (o.sz60 hy)
      · exact o
theorem carS_seen {code : Nat → Int32} {N le wi : Nat} {mir : Bool} (h : carS code N = .inr (le, wi, mir)) : le < 9 ∧ wi < 5 ∧ ∀ j, j < le * wi → 0 ≤ faceBI (code (carK mir + j)) := by
  by_cases C0 : 0 < N ∧ code 0 = 99
  · by_cases C1 : 1 < N ∧ (49 ≤ code 1 ∧ code 1 ≤ 56)
    · by_cases C2 : 2 < N ∧ (49 ≤ code 2 ∧ code 2 ≤ 52)
      · by_cases C4 : car4 code N < N ∧ code (car4 code N) = 59
        · obtain ⟨l1, q1, q2, q3, q4⟩ := dig_N (lo := 49) (hi := 56) (by decide) (by decide) (by decide) C1.2
          obtain ⟨w1, r1, r2, r3, r4⟩ := dig_N (lo := 49) (hi := 52) (by decide) (by decide) (by decide) C2.2
          rw [carS_5 C0 C1 C2 C4 q4 r4] at h
          unfold carE at h
          cases hF : firstN (carFace code N (carK (decide (3 < N ∧ code 3 = 109)))) (l1 * w1) 0 with
          | some j => rw [hF] at h; cases h
          | none =>
            rw [hF] at h
            dsimp only at h
            by_cases e : carK (decide (3 < N ∧ code 3 = 109)) + l1 * w1 = N
            · rw [if_pos e] at h
              cases h
              refine ⟨by omega, by omega, fun j hj => ?_⟩
              have := firstN_no hF j (Nat.zero_le _) (by omega)
              unfold carFace at this
              exact (Decidable.not_not.mp (of_decide_eq_false this)).2
            · rw [if_neg e] at h; cases h
        · rw [carS_4 C0 C1 C2 C4] at h; cases h
      · rw [carS_2 C0 C1 C2] at h; cases h
    · rw [carS_1 C0 C1] at h; cases h
  · rw [carS_0 C0] at h; cases h
theorem ok_car (o : T.ok) (c d a n : Int32) : (aCar T c d a n).2.ok := by
  unfold aCar
  split
  · rename_i hr
    obtain ⟨z, b, N, hz, rfl, ez, rfl, rfl, hbN, er, -, -⟩ := refF_ok o hr
    rw [ez]
    dsimp only
    cases hX : carS (codeT T z (nI b).toNatClampNeg) (nI N).toNatClampNeg with
    | inl p => exact o
    | inr y =>
      obtain ⟨le, wi, mir⟩ := y
      obtain ⟨h1, h2, h3⟩ := carS_seen hX
      exact ⟨okC_new o.1 h1 h2 h3, ⟨Nat.zero_le _, fun x hx => absurd hx (Nat.not_lt_zero x), fun x y hx => absurd hx (Nat.not_lt_zero x)⟩, o.2.2.1, ⟨Nat.zero_le _, fun q hq => absurd hq (Nat.not_lt_zero q), fun p q _ hq => absurd hq (Nat.not_lt_zero q)⟩, o.2.2.2.2⟩
  · exact o
theorem ok_blind (o : T.ok) (c d x : Int32) (hx : x = 0 ∨ x = 1) : (tBlind T c d x).ok := by
  unfold tBlind
  split
  · split
    · exact ok_setB o (isB_upd o.1.2.2.2.1 hx)
    · exact o
  · exact o
theorem ok_move (o : T.ok) (c d : Int32) : (tMove T c d).ok := by
  have hn := o.n32
  have hm := o.m12
  unfold tMove
  rcases oT_cases (n := T.m) (by omega) c with ⟨e, hc⟩ | ⟨x, hx, rfl, e⟩
  · rw [e]; exact o
  · rcases oT_cases (n := T.n) (Nat.lt_of_le_of_lt hn (by decide)) d with ⟨e2, hd⟩ | ⟨k, hk, rfl, e2⟩
    · rw [e, e2]; exact o
    · rw [e, e2]
      dsimp only
      split
      · rename_i hs
        refine ⟨o.1, ⟨o.2.1.1, fun y hy => ⟨(o.2.1.2.1 y hy).1, ?_, (o.2.1.2.1 y hy).2.2⟩, fun y w hy hw hyw => ?_⟩, o.2.2.1, o.2.2.2.1, o.2.2.2.2⟩
        · show (if y = x then k else T.se y) < T.n
          split
          · exact hk
          · exact o.sen hy
        · have h1 : (if y = x then k else T.se y) = (if w = x then k else T.se w) := hyw
          by_cases e3 : y = x
          · by_cases e4 : w = x
            · rw [e3, e4]
            · rw [if_pos e3, if_neg e4] at h1
              exact absurd h1.symm (sit_none hs hw)
          · by_cases e4 : w = x
            · rw [if_neg e3, if_pos e4] at h1
              exact absurd h1 (sit_none hs hy)
            · rw [if_neg e3, if_neg e4] at h1
              exact o.sei hy hw h1
      · exact o
theorem ok_one (o : T.ok) (k c s a : Int32) (hl : Nat) : (tOne T k c s a hl).ok := by
  have hn := o.n32
  have hm := o.m12
  unfold tOne
  rcases oT_cases (n := T.n) (Nat.lt_of_le_of_lt hn (by decide)) c with ⟨e, hc⟩ | ⟨x, hx, rfl, e⟩
  · rw [e]; exact o
  · rw [e]
    dsimp only
    rcases oT_cases (n := 3) (by decide) k with ⟨ek, hk⟩ | ⟨k, hk, rfl, ek⟩
    · rw [ek]; exact o
    rcases oT_cases (n := 10) (by decide) s with ⟨es, hs⟩ | ⟨s, hs, rfl, es⟩
    · rw [ek, es]; exact o
    rcases oT_cases (n := 10) (by decide) a with ⟨ea, ha⟩ | ⟨a, ha, rfl, ea⟩
    · rw [ek, es, ea]; exact o
    rw [ek, es, ea]
    dsimp only
    split
    · rename_i hsit
      split
      · exact o
      · rename_i h12
        refine ⟨o.1, ⟨by show T.m + 1 ≤ 12; omega, fun y hy => ?_, fun y w hy hw hyw => ?_⟩, o.2.2.1, ⟨o.2.2.2.1.1, fun q hq => ⟨o.ym hq, by show T.yw q < T.m + 1; have := o.yw hq; omega⟩, fun p q hp hq => o.ymm hp hq⟩, o.2.2.2.2⟩
        · have hy2 : y < T.m + 1 := hy
          show (if y = T.m then k else T.kd y) < 3 ∧ (if y = T.m then x else T.se y) < T.n ∧ (if y = T.m then s else T.sl y) < 10 ∧ (if y = T.m then a else T.ki y) < 10
          by_cases ey : y = T.m
          · rw [if_pos ey, if_pos ey, if_pos ey, if_pos ey]; exact ⟨hk, hx, hs, ha⟩
          · rw [if_neg ey, if_neg ey, if_neg ey, if_neg ey]
            have h3 : y < T.m := by omega
            exact ⟨o.kd3 h3, o.sen h3, o.sl10 h3, o.ki10 h3⟩
        · have h1 : (if y = T.m then x else T.se y) = (if w = T.m then x else T.se w) := hyw
          have hy2 : y < T.m + 1 := hy
          have hw2 : w < T.m + 1 := hw
          by_cases e3 : y = T.m
          · by_cases e4 : w = T.m
            · rw [e3, e4]
            · rw [if_pos e3, if_neg e4] at h1
              exact absurd h1.symm (sit_none hsit (by omega))
          · by_cases e4 : w = T.m
            · rw [if_neg e3, if_pos e4] at h1
              exact absurd h1 (sit_none hsit (by omega))
            · rw [if_neg e3, if_neg e4] at h1
              exact o.sei (by omega) (by omega) h1
    · exact o
theorem lawGo_ok {code : Nat → Int32} {N : Nat} : ∀ (r p : Nat) (t t2 : tolT), tolOk t → lawGo code N r p t = .inr t2 → tolOk t2
  | 0, p, t, t2, _, h => by rw [lawGo] at h; cases h
  | r + 1, p, t, t2, ht, h => by
    rw [lawGo] at h
    by_cases C : p < N ∧ 0 ≤ numBI (code p) ∧ t (numBI (code p)).toNatClampNeg = none
    · rw [if_pos C] at h
      by_cases D : p + 1 < N ∧ (nI (48 + leaN (numBI (code p)).toNatClampNeg) ≤ code (p + 1) ∧ code (p + 1) ≤ 57)
      · rw [if_pos D] at h
        have hlea := lea_le (numBI (code p)).toNatClampNeg
        obtain ⟨v, v1, v2, v3, v4⟩ := dig_N (lo := 48 + leaN (numBI (code p)).toNatClampNeg) (hi := 57) (by omega) (by omega) (by decide) D.2
        have ht2 := updT_ok ht (x := (numBI (code p)).toNatClampNeg) (v := v) (by omega) (by omega)
        rw [v4] at h
        by_cases hp2 : p + 2 < N
        · rw [if_pos hp2] at h
          by_cases E : code (p + 2) = 59 ∧ r ≠ 0
          · rw [if_pos E] at h
            exact lawGo_ok r (p + 3) _ t2 ht2 h
          · rw [if_neg E] at h; cases h
        · rw [if_neg hp2] at h
          cases h
          exact ht2
      · rw [if_neg D] at h; cases h
    · rw [if_neg C] at h; cases h
theorem ok_law (o : T.ok) (c d a n : Int32) (hl : Nat) : (aLaw T c d a n hl).2.ok := by
  have hnl := o.nl6
  unfold aLaw
  split
  · rename_i hr
    obtain ⟨z, b, N, hz, rfl, ez, rfl, rfl, hbN, er, -, -⟩ := refF_ok o hr
    rw [ez]
    dsimp only
    cases hX : lawS (codeT T z (nI b).toNatClampNeg) (nI N).toNatClampNeg with
    | inl p => exact o
    | inr t =>
      have ht : tolOk t := lawGo_ok 7 0 (fun _ => none) t (fun _ _ u => by cases u) hX
      unfold lawR
      dsimp only
      split
      · exact o
      · rename_i h6
        have n1 := numT_1 ht
        refine ⟨o.1, o.2.1, ⟨by show T.nl + 1 ≤ 6; omega, fun y hy => ?_⟩, o.2.2.2.1, o.2.2.2.2⟩
        have hy2 : y < T.nl + 1 := hy
        show (∀ w, w < 7 → (if y = T.nl then nuT t w else T.nu y w) < 10) ∧ 1 ≤ (if y = T.nl then nuT t 5 else T.nu y 5) ∧ (if y = T.nl then nuT t 5 else T.nu y 5) ≤ (if y = T.nl then nuT t 6 else T.nu y 6)
        by_cases ey : y = T.nl
        · rw [if_pos ey, if_pos ey]
          refine ⟨fun w _ => by rw [if_pos ey]; exact nuT_lt ht w, ?_, ?_⟩
          · show 1 ≤ (if (5 : Nat) = 6 then _ else numT t 5)
            rw [if_neg (by decide)]; exact n1
          · show (if (5 : Nat) = 6 then _ else numT t 5) ≤ (if (6 : Nat) = 6 then max (numT t 6) (numT t 5) else _)
            rw [if_neg (by decide), if_pos rfl]; omega
        · rw [if_neg ey, if_neg ey]
          have h3 : y < T.nl := by omega
          exact ⟨fun w hw => by rw [if_neg ey]; exact o.nu10 h3 hw, o.nu5 h3, o.nu6 h3⟩
  · exact o
theorem ok_yawn (o : T.ok) (c d : Int32) : (setY T (tYawn T c d)).ok := by
  have hm := o.m12
  have hy24 := o.ny24
  refine ok_Y o ?_
  unfold tYawn
  rcases oT_cases (n := T.m) (by omega) d with ⟨e, hc⟩ | ⟨x, hx, rfl, e⟩
  · rw [e]; exact o.2.2.2.1
  · rw [e]
    dsimp only
    rcases oT_cases (n := 600) (by decide) c with ⟨ek, hk⟩ | ⟨a, ha, rfl, ek⟩
    · rw [ek]; exact o.2.2.2.1
    rw [ek]
    dsimp only
    split
    · exact o.2.2.2.1
    · rename_i hlast
      split
      · exact o.2.2.2.1
      · rename_i h24
        exact (okN_add (m := T.m) (a := a) (x := x) (Y := T.2.2.2.1) ⟨o.2.2.2.1, fun q hq => Nat.le_trans (lastT_le o q hq) (by omega)⟩ (by omega) hx (by show T.ny < 24; omega)).1
theorem ok_back (o : T.ok) (c : Int32) : (setY T (tBack T c)).ok := by
  refine ok_Y o ?_
  unfold tBack
  split
  · rename_i k _
    exact ⟨by show T.ny - k ≤ 24; have := o.ny24; omega, fun q hq => ⟨o.ym (by have : q < T.ny - k := hq; omega), o.yw (by have : q < T.ny - k := hq; omega)⟩, fun p q hp hq => o.ymm hp (by have : q < T.ny - k := hq; omega)⟩
  · exact o.2.2.2.1
theorem ok_night (o : T.ok) (e c d a n : Int32) : (aNight T e c d a n).2.ok := by
  unfold aNight
  split
  · exact o
  · split
    · split
      · unfold nigR
        split
        · exact o
        · split
          · exact ok_Y o (nigT_ok _ _ (okN_0 o)).1
          · exact o
      · exact o
    · exact o
end OKS
