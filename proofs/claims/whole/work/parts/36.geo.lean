/-! SETS AS BITS; the seats beside one another, by numbers -/
def bt (x : Int32) (d : Nat) : Bool := x.toBitVec.getLsbD d
theorem bt_or (a b : Int32) (d : Nat) : bt (a ||| b) d = (bt a d || bt b d) := by simp [bt]
theorem bt_and (a b : Int32) (d : Nat) : bt (a &&& b) d = (bt a d && bt b d) := by simp [bt]
theorem bt_0 (d : Nat) : bt 0 d = false := by simp [bt]
theorem bt_shD : ∀ k, k < 32 → ∀ d, d < 32 → bt (1 <<< (nI k &&& 31)) d = decide (d = k) := by decide +kernel
theorem bt_sh {k d : Nat} (hk : k < 32) (hd : d < 32) : bt (1 <<< (nI k &&& 31)) d = decide (d = k) := bt_shD k hk d hd
theorem bt_ext {x y : Int32} (h : ∀ d, d < 32 → bt x d = bt y d) : x = y := by
  apply Int32.toBitVec_inj.mp
  apply BitVec.eq_of_getLsbD_eq
  intro i hi
  exact h i hi
theorem bt_max (x : Int32) (d : Nat) (hd : d < 32) : bt (x &&& 2147483647) d = (bt x d && decide (d < 31)) := by
  rw [bt_and]
  congr 1
  exact (by decide +kernel : ∀ d, d < 32 → bt 2147483647 d = decide (d < 31)) d hd
theorem x_nI (x : Int32) : nI x.toBitVec.toNat = x := by
  apply Int32.toBitVec_inj.mp
  apply BitVec.eq_of_toNat_eq
  exact pk_tn x.toBitVec.isLt
theorem bt_ushrD : ∀ k, k < 32 → (((nI k).toUInt32 &&& Int32.toUInt32 31).toBitVec % 32).toNat = k := by decide +kernel
theorem onL_iff {L : Nat → Int32} {c d : Nat} (hc : c < 32) (hd : d < 32) : onL L (nI c) (nI d) ↔ bt (L c) d = true := by
  unfold onL
  rw [if_pos ⟨nI_pos' (by omega), nI_lt (b := 32) hc (by decide)⟩, nI_clamp (by omega)]
  have e := pk_ushrN (L c).toBitVec.isLt (nI d) d (bt_ushrD d hd)
  rw [x_nI] at e
  rw [e, pk_andN (m := 1) (Nat.lt_of_le_of_lt (Nat.div_le_self _ _) (L c).toBitVec.isLt) 1 (by decide)]
  rw [show (1 : Int32) = nI 1 from rfl, nI_eq (by omega) (by omega)]
  show _ ↔ (L c).toBitVec.toNat.testBit d = true
  rw [Nat.testBit_eq_decide_div_mod_eq]
  simp
/-- the set of the numbers below n for which P holds -/
theorem bt_bsN {P : Nat → Bool} : ∀ {n d : Nat}, n ≤ 32 → d < 32 → bt (bsN P n) d = (decide (d < n) && P d)
  | 0, d, _, _ => by rw [bsN, bt_0]; simp
  | n + 1, d, hn, hd => by
    rw [bsN, bt_or, bt_bsN (by omega) hd]
    by_cases hp : P n = true
    · rw [if_pos hp, bt_sh (by omega) hd]
      by_cases e : d = n
      · subst e; simp [hp]
      · have : decide (d < n + 1) = decide (d < n) := by apply decide_eq_decide.mpr; omega
        simp [e, this]
    · rw [if_neg hp, bt_0, Bool.or_false]
      by_cases e : d = n
      · subst e; simp [hp]
      · have : decide (d < n + 1) = decide (d < n) := by apply decide_eq_decide.mpr; omega
        rw [this]
/-- the seat next to one, a way on -/
def besN (wi le k w : Nat) : Option Nat :=
  if wi = 0 then none
  else if w = 0 then (if k < wi then none else some (k - wi))
  else if w = 1 then (if le * wi ≤ k + wi then none else some (k + wi))
  else if w = 2 then (if k % wi = 0 then none else some (k - 1))
  else (if wi ≤ k % wi + 1 then none else some (k + 1))
theorem nxS_D : ∀ wi, wi < 5 → ∀ le, le < 9 → ∀ c, c < le * wi → ∀ w, w < 4 → nxS (nI wi) (nI (le * wi)) (nI c) (nI w) = noI (besN wi le c w) := by decide +kernel
theorem bes_lt : ∀ wi, wi < 5 → ∀ le, le < 9 → ∀ c, c < le * wi → ∀ w, w < 4 → (match besN wi le c w with | none => true | some d => decide (d < le * wi ∧ d ≠ c)) = true := by decide +kernel
def hearD (wi le c d : Nat) : Bool := decide (besN wi le c 0 = some d) || decide (besN wi le c 1 = some d) || decide (besN wi le c 2 = some d) || decide (besN wi le c 3 = some d)
abbrev gpN (wi c d : Nat) : Nat := 2 * min c d + (if max c d - min c d = wi then 1 else 0)
theorem gap_D : ∀ wi, wi < 5 → ∀ le, le < 9 → ∀ c, c < le * wi → ∀ d, d < le * wi → gapW (nI wi) (nI (le * wi)) (nI c) (nI d) = if hearD wi le c d then nI (gpN wi c d) else -9 := by decide +kernel
