/-! THE LINES of both sides are one set -/
abbrev blC (C : CarT) : Nat → Nat → Int32 := blM (fun c => C.2.1 (2 * c)) (fun c => C.2.1 (2 * c + 1)) C.2.2.1
theorem blC_sym (C : CarT) (a b : Nat) : blC C a b = blC C b a := by
  unfold blC blM
  rw [Nat.max_comm, Nat.min_comm]
theorem blC_gp (C : CarT) (a b : Nat) : blC C a b = C.2.1 (gpN C.2.2.1 a b) := by
  unfold blC blM gpN
  split <;> rfl
/-- seat c looks at seat x -/
def seeB (C : CarT) (c x : Nat) : Bool := rch C.1 (blC C) (C.2.2.2.2.2 c) 33 c x || (C.2.2.2.2.1 && decide (C.2.2.2.2.2 c < 2) && decide (C.1 (rce C.1 (blC C) (C.2.2.2.2.2 c) 33 c) (C.2.2.2.2.2 c) = none) && (decide (x = c) || rch C.1 (blC C) (1 - C.2.2.2.2.2 c) 33 (rce C.1 (blC C) (C.2.2.2.2.2 c) 33 c) x))
section LINE
variable {C : CarT}
theorem mu33 (o : okC C) {k w : Nat} (hk : k < C.2.2.2.1 * C.2.2.1) : muW (C.2.2.2.1 * C.2.2.1) w k < 32 := by
  have := okC_n o
  unfold muW
  split <;> omega
theorem lineM_see (o : okC C) {c : Nat} (hc : c < C.2.2.2.1 * C.2.2.1) : lineM C.1 (blC C) C.2.2.2.2.1 (C.2.2.2.2.2 c) c = some (fun x => if seeB C c x then 1 else 0) := by
  have hw := o.2.2.1 c
  unfold lineM
  rw [along_rch o hw 33 c _ hc (by have := mu33 o (w := C.2.2.2.2.2 c) hc; omega)]
  dsimp only
  have he := rce_lt o hw (bl := blC C) 33 c hc
  by_cases q : C.2.2.2.2.1 = true ∧ C.2.2.2.2.2 c < 2 ∧ C.1 (rce C.1 (blC C) (C.2.2.2.2.2 c) 33 c) (C.2.2.2.2.2 c) = none
  · rw [if_pos q, along_rch o (by omega) 33 _ _ he (by have := mu33 o (w := 1 - C.2.2.2.2.2 c) he; omega)]
    simp only [Option.map_some, mrk, upd]
    congr 1
    funext x
    simp only [seeB, q.1, q.2.1, q.2.2, decide_true, Bool.true_and]
    by_cases e1 : x = c <;> by_cases e2 : rch C.1 (blC C) (C.2.2.2.2.2 c) 33 c x = true <;> by_cases e3 : rch C.1 (blC C) (1 - C.2.2.2.2.2 c) 33 (rce C.1 (blC C) (C.2.2.2.2.2 c) 33 c) x = true <;> simp [mrk, upd, e1, e2, e3]
  · rw [if_neg q]
    congr 1
    funext x
    have : (C.2.2.2.2.1 && decide (C.2.2.2.2.2 c < 2) && decide (C.1 (rce C.1 (blC C) (C.2.2.2.2.2 c) 33 c) (C.2.2.2.2.2 c) = none)) = false := by
      rw [Bool.eq_false_iff]
      intro z
      simp only [Bool.and_eq_true, decide_eq_true_eq] at z
      exact q ⟨z.1.1, z.1.2, z.2⟩
    simp only [mrk, seeB, this, Bool.false_and, Bool.or_false]
theorem see_lt (o : okC C) {c x : Nat} (hc : c < C.2.2.2.1 * C.2.2.1) (h : seeB C c x = true) : x < C.2.2.2.1 * C.2.2.1 := by
  have hw := o.2.2.1 c
  unfold seeB at h
  simp only [Bool.or_eq_true, Bool.and_eq_true, decide_eq_true_eq] at h
  rcases h with h | ⟨⟨⟨-, hw2⟩, -⟩, h | h⟩
  · exact rch_lt o hw 33 c hc h
  · rw [h]; exact hc
  · exact rch_lt o (by omega) 33 _ (rce_lt o hw 33 c hc) h
theorem blW_iff (o : okC C) {k d : Nat} (hk : k < C.2.2.2.1 * C.2.2.1) (hd : d < C.2.2.2.1 * C.2.2.1) (hh : hearD C.2.2.1 C.2.2.2.1 k d = true) : blW C.2.1 (gapW (nI C.2.2.1) (nI (C.2.2.2.1 * C.2.2.1)) (nI k) (nI d)) ↔ ¬ blC C k d = 0 := by
  have hn := okC_n o
  rw [gap_D C.2.2.1 o.1 C.2.2.2.1 o.2.1 k hk d hd, if_pos hh, blC_gp]
  have hg : gpN C.2.2.1 k d < 64 := by unfold gpN; split <;> omega
  unfold blW
  rw [nI_clamp (by omega)]
  exact ⟨fun q => q.2.2, fun q => ⟨nI_pos' (by omega), nI_lt (b := 64) hg (by decide), q⟩⟩
theorem noI_ne9 {o : Option Nat} {d : Nat} (h : o = some d) (hd : d < 32) : ¬ noI o = -9 := by
  subst h
  exact nI_ne9 (by omega)
theorem wayW_rch (o : okC C) {w : Nat} (hw : w < 4) {x : Nat} (hx : x < 32) : ∀ (r k : Nat) (s : Int32), k < C.2.2.2.1 * C.2.2.1 → bt (wayW (nI C.2.2.1) (nI (C.2.2.2.1 * C.2.2.1)) C.2.1 (nI w) r s (nI k)) x = (bt s x || rch C.1 (blC C) w r k x)
  | 0, k, s, _ => by simp [wayW, rch]
  | r + 1, k, s, hk => by
    have hn32 := okC_n o
    have e := (nxS_D C.2.2.1 o.1 C.2.2.2.1 o.2.1 k hk w hw).trans (congrArg noI (o.2.2.2.2.2 k w hk hw).symm)
    rw [wayW, e]
    cases hn : C.1 k w with
    | none => rw [rch_none hn, if_pos (Or.inl rfl)]; simp
    | some d =>
      have hs := nb_step o hk hw hn
      rw [rch_some hn]
      have hb := blW_iff o hk hs.1 hs.2.2.2
      by_cases hz : blC C k d = 0
      · rw [if_neg (fun q => by rcases q with q | q; exact noI_ne9 rfl (by omega) q; exact hb.mp q hz), wayW_rch o hw hx r d _ hs.1, bt_or]
        show (bt s x || bt (1 <<< (nI d &&& 31)) x || rch C.1 (blC C) w r d x) = _
        rw [bt_sh (by omega) hx, hz]
        simp [Bool.or_assoc]
      · rw [if_pos (Or.inr (hb.mpr hz))]
        simp [hz]
theorem lineW_rch (o : okC C) {w : Nat} (hw : w < 4) {x : Nat} (hx : x < 32) : ∀ (r k : Nat) (s : Int32), k < C.2.2.2.1 * C.2.2.1 → muW (C.2.2.2.1 * C.2.2.1) w k < r → bt (lineW (nI C.2.2.1) (nI (C.2.2.2.1 * C.2.2.1)) (bI C.2.2.2.2.1) C.2.1 (nI w) r s (nI k)) x = (bt s x || rch C.1 (blC C) w r k x || (C.2.2.2.2.1 && decide (w < 2) && decide (C.1 (rce C.1 (blC C) w r k) w = none) && (decide (x = rce C.1 (blC C) w r k) || rch C.1 (blC C) (1 - w) 32 (rce C.1 (blC C) w r k) x)))
  | 0, _, _, _, h => absurd h (by omega)
  | r + 1, k, s, hk, h => by
    have hn32 := okC_n o
    have e := (nxS_D C.2.2.1 o.1 C.2.2.2.1 o.2.1 k hk w hw).trans (congrArg noI (o.2.2.2.2.2 k w hk hw).symm)
    rw [lineW, e]
    cases hn : C.1 k w with
    | none =>
      rw [rch_none hn, rce_none hn, if_pos rfl, hn]
      have w0 : nI w = 0 ↔ w = 0 := by rw [← nI_0]; exact nI_eq (by omega) (by omega)
      have w1 : nI w = 1 ↔ w = 1 := by rw [show (1 : Int32) = nI 1 from rfl]; exact nI_eq (by omega) (by omega)
      by_cases q : C.2.2.2.2.1 = true ∧ w < 2
      · have hop : (if nI w = 0 then (1 : Int32) else 0) = nI (1 - w) := by
          rcases (show w = 0 ∨ w = 1 by omega) with z | z <;> subst z <;> rfl
        rw [if_pos ⟨by rw [q.1]; decide, by rw [w0, w1]; omega⟩, hop, bt_or, wayW_rch o (by omega) hx 32 k _ hk, bt_sh (by omega) hx]
        simp [q.1, q.2]
      · rw [if_neg (fun z => q ⟨by cases hm : C.2.2.2.2.1 with | true => rfl | false => exact absurd (show bI C.2.2.2.2.1 = 0 by rw [hm]; rfl) z.1, by have := z.2; rw [w0, w1] at this; omega⟩)]
        have : (C.2.2.2.2.1 && decide (w < 2)) = false := by
          rw [Bool.eq_false_iff]
          intro z
          simp only [Bool.and_eq_true, decide_eq_true_eq] at z
          exact q z
        simp [this]
    | some d =>
      have hs := nb_step o hk hw hn
      rw [rch_some hn, rce_some hn, if_neg (noI_ne9 rfl (by omega))]
      have hb := blW_iff o hk hs.1 hs.2.2.2
      by_cases hz : blC C k d = 0
      · rw [if_neg (fun q => hb.mp q hz), if_pos hz, lineW_rch o hw hx r d _ hs.1 (by omega), bt_or]
        show (bt s x || bt (1 <<< (nI d &&& 31)) x || rch C.1 (blC C) w r d x || _) = _
        rw [bt_sh (by omega) hx, hz]
        simp [Bool.or_assoc]
      · rw [if_pos (hb.mpr hz), if_neg hz, hn]
        simp [hz]
/-- the class's line of a seat is the set of seats that it looks at -/
theorem lineW_see (o : okC C) {c x : Nat} (hc : c < C.2.2.2.1 * C.2.2.1) (hx : x < 32) : bt (lineW (nI C.2.2.1) (nI (C.2.2.2.1 * C.2.2.1)) (bI C.2.2.2.2.1) C.2.1 (nI (C.2.2.2.2.2 c)) 32 0 (nI c)) x = seeB C c x := by
  have hw := o.2.2.1 c
  have hn32 := okC_n o
  rw [lineW_rch o hw hx 32 c 0 hc (mu33 o hc), bt_0, Bool.false_or]
  have f := rch_fuel o hw (bl := blC C) (x := x) 32 33 c hc (mu33 o hc) (by have := mu33 o (w := C.2.2.2.2.2 c) hc; omega)
  have he := rce_lt o hw (bl := blC C) 33 c hc
  rw [f.1, f.2]
  unfold seeB
  by_cases q : C.2.2.2.2.2 c < 2
  · have f2 := rch_fuel o (w := 1 - C.2.2.2.2.2 c) (by omega) (bl := blC C) (x := x) 32 33 _ he (mu33 o he) (by have := mu33 o (w := 1 - C.2.2.2.2.2 c) he; omega)
    rw [f2.1]
    rcases rch_end o hw (bl := blC C) 33 c hc with e | e
    · rw [e]
    · have b := rch_back o q (blC_sym C) 33 c hc e
      by_cases x1 : x = rce C.1 (blC C) (C.2.2.2.2.2 c) 33 c
      · subst x1; simp [e]
      · by_cases x2 : x = c
        · subst x2; simp [b]
        · simp [x1, x2]
  · simp [q]
end LINE
