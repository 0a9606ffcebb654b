/-! small rows for walks -/
def rV (h : rH) (v : Option Value) : rH → Option Value → Prop := fun h' v' => h' = h ∧ v' = v
theorem rg_eq {h : rH} {a : Nat} {e e0 : va_E} (hx : h[a]? = some e0) : (h.set a e)[a]? = some e := by
  rw [List.getElem?_set_self (List.getElem?_eq_some_iff.mp hx).1]
theorem rg_ne {h : rH} {a b : Nat} {e : va_E} {x : Option va_E} (hne : a ≠ b) (hx : h[b]? = x) : (h.set a e)[b]? = x := by
  rw [List.getElem?_set_ne hne]; exact hx
theorem i_lt {x y : Int32} : x < y ↔ x.toInt < y.toInt := Int32.lt_iff_toInt_lt
theorem i_le {x y : Int32} : x ≤ y ↔ x.toInt ≤ y.toInt := Int32.le_iff_toInt_le
theorem i_nl {x y : Int32} : ¬ x < y ↔ y.toInt ≤ x.toInt := by rw [i_lt]; omega
theorem i_nle {x y : Int32} : ¬ x ≤ y ↔ y.toInt < x.toInt := by rw [i_le]; omega
theorem i_eq {x y : Int32} : x = y ↔ x.toInt = y.toInt := Int32.toInt_inj.symm
theorem vin_ge {i : Int32} {N : Nat} (h1 : ¬ i < 0) (h2 : ¬ Int32.ofNat N ≤ i) (hN : N < 2 ^ 31) : vp_in i N := by
  rw [vp_in_iff]
  have e0 : (0 : Int32).toInt = 0 := rfl
  have e1 : (Int32.ofNat N).toInt = (N : Int) := nI_toInt hN
  rw [i_nl, e0] at h1
  rw [i_nle, e1] at h2
  exact ⟨h1, h2⟩
theorem vin_lt {i : Int32} {N : Nat} (h : vp_in i N) (hN : N < 2 ^ 31) : ¬ Int32.ofNat N ≤ i := by
  have h1 := vp_in_iff.mp h
  have e1 : (Int32.ofNat N).toInt = (N : Int) := nI_toInt hN
  rw [i_nle, e1]
  exact h1.2
