/-! WHO IS SEEN ALONG A LINE: x is passed on the way from k, r steps at most; where the way ends -/
def rch (nb : Nat → Nat → Option Nat) (bl : Nat → Nat → Int32) (w : Nat) : Nat → Nat → Nat → Bool
  | 0, _, _ => false
  | r + 1, k, x => match nb k w with
    | none => false
    | some d => if bl k d = 0 then (decide (x = d) || rch nb bl w r d x) else false
def rce (nb : Nat → Nat → Option Nat) (bl : Nat → Nat → Int32) (w : Nat) : Nat → Nat → Nat
  | 0, k => k
  | r + 1, k => match nb k w with
    | none => k
    | some d => if bl k d = 0 then rce nb bl w r d else k
abbrev mrk (s : Nat → Int32) (p : Nat → Bool) : Nat → Int32 := fun x => if p x then 1 else s x
/-- how far a seat is from the end of a way, at most -/
def muW (n w k : Nat) : Nat := if w = 0 ∨ w = 2 then k else n - 1 - k
section RCH
variable {C : CarT} {w : Nat}
theorem okC_n (o : okC C) : C.2.2.2.1 * C.2.2.1 ≤ 32 := Nat.le_trans (Nat.mul_le_mul (Nat.le_of_lt_succ o.2.1) (Nat.le_of_lt_succ o.1)) (by decide)
theorem bes_mu : ∀ wi, wi < 5 → ∀ le, le < 9 → ∀ k, k < le * wi → ∀ w, w < 4 → (match besN wi le k w with | none => true | some d => decide (d < le * wi ∧ muW (le * wi) w d < muW (le * wi) w k ∧ (w < 2 → besN wi le d (1 - w) = some k) ∧ hearD wi le k d = true)) = true := by decide +kernel
theorem nb_step (o : okC C) {k d : Nat} (hk : k < C.2.2.2.1 * C.2.2.1) (hw : w < 4) (hd : C.1 k w = some d) : d < C.2.2.2.1 * C.2.2.1 ∧ muW (C.2.2.2.1 * C.2.2.1) w d < muW (C.2.2.2.1 * C.2.2.1) w k ∧ (w < 2 → C.1 d (1 - w) = some k) ∧ hearD C.2.2.1 C.2.2.2.1 k d = true := by
  have h1 := bes_mu C.2.2.1 o.1 C.2.2.2.1 o.2.1 k hk w hw
  have h2 := o.2.2.2.2.2 k w hk hw
  rw [← h2, hd] at h1
  have h3 := of_decide_eq_true h1
  exact ⟨h3.1, h3.2.1, fun q => (o.2.2.2.2.2 d (1 - w) h3.1 (by omega)).trans (h3.2.2.1 q), h3.2.2.2⟩
theorem rch_none {nb : Nat → Nat → Option Nat} {bl : Nat → Nat → Int32} {r k x : Nat} (h : nb k w = none) : rch nb bl w (r + 1) k x = false := by simp only [rch, h]
theorem rch_some {nb : Nat → Nat → Option Nat} {bl : Nat → Nat → Int32} {r k x d : Nat} (h : nb k w = some d) : rch nb bl w (r + 1) k x = (decide (bl k d = 0) && (decide (x = d) || rch nb bl w r d x)) := by
  simp only [rch, h]
  by_cases hb : bl k d = 0 <;> simp [hb]
theorem rce_none {nb : Nat → Nat → Option Nat} {bl : Nat → Nat → Int32} {r k : Nat} (h : nb k w = none) : rce nb bl w (r + 1) k = k := by simp only [rce, h]
theorem rce_some {nb : Nat → Nat → Option Nat} {bl : Nat → Nat → Int32} {r k d : Nat} (h : nb k w = some d) : rce nb bl w (r + 1) k = if bl k d = 0 then rce nb bl w r d else k := by simp only [rce, h]
/-- steps enough are all alike -/
theorem rch_fuel (o : okC C) (hw : w < 4) {bl : Nat → Nat → Int32} {x : Nat} : ∀ (r r2 k : Nat), k < C.2.2.2.1 * C.2.2.1 → muW (C.2.2.2.1 * C.2.2.1) w k < r → muW (C.2.2.2.1 * C.2.2.1) w k < r2 → rch C.1 bl w r k x = rch C.1 bl w r2 k x ∧ rce C.1 bl w r k = rce C.1 bl w r2 k
  | 0, _, _, _, h, _ => absurd h (by omega)
  | _, 0, _, _, _, h => absurd h (by omega)
  | r + 1, r2 + 1, k, hk, h1, h2 => by
    cases hn : C.1 k w with
    | none => rw [rch_none hn, rch_none hn, rce_none hn, rce_none hn]; exact ⟨rfl, rfl⟩
    | some d =>
      have hs := nb_step o hk hw hn
      have ih := rch_fuel o hw (bl := bl) (x := x) r r2 d hs.1 (by omega) (by omega)
      rw [rch_some hn, rch_some hn, rce_some hn, rce_some hn, ih.1, ih.2]
      exact ⟨rfl, rfl⟩
theorem rch_lt (o : okC C) (hw : w < 4) {bl : Nat → Nat → Int32} {x : Nat} : ∀ (r k : Nat), k < C.2.2.2.1 * C.2.2.1 → rch C.1 bl w r k x = true → x < C.2.2.2.1 * C.2.2.1
  | 0, _, _, h => by cases h
  | r + 1, k, hk, h => by
    cases hn : C.1 k w with
    | none => rw [rch_none hn] at h; cases h
    | some d =>
      have hs := nb_step o hk hw hn
      rw [rch_some hn] at h
      simp only [Bool.and_eq_true, Bool.or_eq_true, decide_eq_true_eq] at h
      rcases h.2 with e | e
      · rw [e]; exact hs.1
      · exact rch_lt o hw r d hs.1 e
theorem rce_lt (o : okC C) (hw : w < 4) {bl : Nat → Nat → Int32} : ∀ (r k : Nat), k < C.2.2.2.1 * C.2.2.1 → rce C.1 bl w r k < C.2.2.2.1 * C.2.2.1
  | 0, _, hk => hk
  | r + 1, k, hk => by
    cases hn : C.1 k w with
    | none => rw [rce_none hn]; exact hk
    | some d =>
      rw [rce_some hn]
      split
      · exact rce_lt o hw r d (nb_step o hk hw hn).1
      · exact hk
/-- the model's way along -/
theorem along_rch (o : okC C) (hw : w < 4) {bl : Nat → Nat → Int32} : ∀ (r k : Nat) (s : Nat → Int32), k < C.2.2.2.1 * C.2.2.1 → muW (C.2.2.2.1 * C.2.2.1) w k < r → alongM C.1 bl w r k s = some (rce C.1 bl w r k, mrk s (rch C.1 bl w r k))
  | 0, _, _, _, h => absurd h (by omega)
  | r + 1, k, s, hk, h => by
    cases hn : C.1 k w with
    | none =>
      rw [along_0 hn, rce_none hn]
      congr 2
      funext x
      simp only [mrk, rch_none hn]
      rfl
    | some d =>
      have hs := nb_step o hk hw hn
      by_cases hb : bl k d = 0
      · rw [along_2 hn hb, along_rch o hw r d _ hs.1 (by omega), rce_some hn, if_pos hb]
        congr 2
        funext x
        simp only [mrk, rch_some hn, hb, upd, decide_true, Bool.true_and, Bool.or_eq_true, decide_eq_true_eq]
        by_cases e1 : x = d <;> by_cases e2 : rch C.1 bl w r d x = true <;> simp [e1, e2]
      · rw [along_1 hn hb, rce_some hn, if_neg hb]
        congr 2
        funext x
        simp [mrk, rch_some hn, hb]
/-- who passes one passes the next -/
theorem rch_trans (o : okC C) (hw : w < 4) {bl : Nat → Nat → Int32} {d x : Nat} (hd : C.1 d w = some x) (hb : bl d x = 0) : ∀ (r k : Nat), k < C.2.2.2.1 * C.2.2.1 → muW (C.2.2.2.1 * C.2.2.1) w k < r → (d = k ∨ rch C.1 bl w r k d = true) → rch C.1 bl w r k x = true
  | 0, _, _, h, _ => absurd h (by omega)
  | r + 1, k, hk, h, q => by
    rcases q with e | q
    · subst e
      rw [rch_some hd, hb]; simp
    · cases hn : C.1 k w with
      | none => rw [rch_none hn] at q; cases q
      | some y =>
        have hs := nb_step o hk hw hn
        rw [rch_some hn] at q ⊢
        simp only [Bool.and_eq_true, Bool.or_eq_true, decide_eq_true_eq] at q ⊢
        exact ⟨q.1, Or.inr (rch_trans o hw hd hb r y hs.1 (by omega) q.2)⟩
/-- and comes back -/
theorem rch_back (o : okC C) (hw : w < 2) {bl : Nat → Nat → Int32} (hsy : ∀ a b, bl a b = bl b a) {x : Nat} : ∀ (r k : Nat), k < C.2.2.2.1 * C.2.2.1 → rch C.1 bl w r k x = true → rch C.1 bl (1 - w) 33 x k = true
  | 0, _, _, h => by cases h
  | r + 1, k, hk, h => by
    have hn32 := okC_n o
    cases hn : C.1 k w with
    | none => rw [rch_none hn] at h; cases h
    | some d =>
      have hs := nb_step o hk (by omega) hn
      rw [rch_some hn] at h
      simp only [Bool.and_eq_true, Bool.or_eq_true, decide_eq_true_eq] at h
      have hx := rch_lt o (w := w) (by omega) (r + 1) k hk (x := x) (bl := bl) (by rw [rch_some hn]; simpa using h)
      refine rch_trans o (by omega) (hs.2.2.1 hw) ((hsy d k).trans h.1) 33 x hx (by unfold muW; split <;> omega) ?_
      rcases h.2 with e | e
      · exact Or.inl e.symm
      · exact Or.inr (rch_back o hw hsy r d hs.1 e)
/-- where the way ends is passed, or is where it began -/
theorem rch_end (o : okC C) (hw : w < 4) {bl : Nat → Nat → Int32} : ∀ (r k : Nat), k < C.2.2.2.1 * C.2.2.1 → rce C.1 bl w r k = k ∨ rch C.1 bl w r k (rce C.1 bl w r k) = true
  | 0, _, _ => Or.inl rfl
  | r + 1, k, hk => by
    cases hn : C.1 k w with
    | none => exact Or.inl (rce_none hn)
    | some d =>
      have hs := nb_step o hk hw hn
      rw [rce_some hn]
      by_cases hb : bl k d = 0
      · rw [if_pos hb, rch_some hn]
        right
        simp only [hb, decide_true, Bool.true_and, Bool.or_eq_true, decide_eq_true_eq]
        exact rch_end o hw r d hs.1
      · rw [if_neg hb]; exact Or.inl rfl
end RCH
