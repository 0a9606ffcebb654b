/-! small rows for walks -/
def rV (h : rH) (v : Option Value) : rH → Option Value → Prop := fun h' v' => h' = h ∧ v' = v
theorem rg_eq {h : rH} {a : Nat} {e e0 : va_E} (hx : h[a]? = some e0) : (h.set a e)[a]? = some e := by
  rw [List.getElem?_set_self (List.getElem?_eq_some_iff.mp hx).1]
theorem rg_ne {h : rH} {a b : Nat} {e : va_E} {x : Option va_E} (hne : a ≠ b) (hx : h[b]? = x) : (h.set a e)[b]? = x := by
  rw [List.getElem?_set_ne hne]; exact hx
theorem i_lt {x y : Int32} : x < y ↔ x.toInt < y.toInt := Int32.lt_iff_toInt_lt
theorem i_le {x y : Int32} : x ≤ y ↔ x.toInt ≤ y.toInt := Int32.le_iff_toInt_le
theorem i_nl {x y : Int32} : ¬ x < y ↔ y.toInt ≤ x.toInt := by rw [i_lt]; omega
theorem i_nle {x y : Int32} : ¬ x ≤ y ↔ y.toInt < x.toInt := by rw [i_le]; omega
theorem i_eq {x y : Int32} : x = y ↔ x.toInt = y.toInt := Int32.toInt_inj.symm
theorem vin_ge {i : Int32} {N : Nat} (h1 : ¬ i < 0) (h2 : ¬ Int32.ofNat N ≤ i) (hN : N < 2 ^ 31) : vp_in i N := by
  rw [vp_in_iff]
  have e0 : (0 : Int32).toInt = 0 := rfl
  have e1 : (Int32.ofNat N).toInt = (N : Int) := nI_toInt hN
  rw [i_nl, e0] at h1
  rw [i_nle, e1] at h2
  exact ⟨h1, h2⟩
theorem vin_lt {i : Int32} {N : Nat} (h : vp_in i N) (hN : N < 2 ^ 31) : ¬ Int32.ofNat N ≤ i := by
  have h1 := vp_in_iff.mp h
  have e1 : (Int32.ofNat N).toInt = (N : Int) := nI_toInt hN
  rw [i_nle, e1]
  exact h1.2
/-- from h to h' only the cells of S have changed, and none has come -/
def fr (h h' : rH) (S : List Nat) : Prop := h'.length = h.length ∧ ∀ k : Nat, k ∉ S → h'[k]? = h[k]?
theorem fr_refl (h : rH) (S : List Nat) : fr h h S := ⟨rfl, fun _ _ => rfl⟩
theorem fr_set {h h1 : rH} {S : List Nat} {a : Nat} {e : va_E} (hf : fr h h1 S) (ha : a ∈ S) : fr h (h1.set a e) S := by
  refine ⟨by rw [List.length_set]; exact hf.1, fun k hk => ?_⟩
  rw [List.getElem?_set_ne (fun q => hk (by rw [← q]; exact ha))]
  exact hf.2 k hk
theorem fr_trans {h h1 h2 : rH} {S T : List Nat} (h01 : fr h h1 S) (h12 : fr h1 h2 T) (hS : ∀ k ∈ T, k ∈ S) : fr h h2 S :=
  ⟨h12.1.trans h01.1, fun k hk => (h12.2 k (fun q => hk (hS k q))).trans (h01.2 k hk)⟩
theorem fr_mono {h h1 : rH} {S T : List Nat} (h01 : fr h h1 S) (hS : ∀ k ∈ S, k ∈ T) : fr h h1 T := ⟨h01.1, fun k hk => h01.2 k (fun q => hk (hS k q))⟩
theorem rg_fr {h h' : rH} {S : List Nat} {k : Nat} {x : Option va_E} (hf : fr h h' S) (hk : k ∉ S) (hx : h[k]? = x) : h'[k]? = x := (hf.2 k hk).trans hx
theorem lu_29 : Cond.fieldLink RX6 29 RX6 "UNTOLD" "[I" ∈ rTbl := rMem 385 (by decide +kernel) rfl
theorem lu_43 : Cond.fieldLink RX6 43 RX6 "LEAST" "[I" ∈ rTbl := rMem 418 (by decide +kernel) rfl
theorem tab_cases (n : Nat) (x lo hi : Int) (h : hi + 1 = lo + n) : (x < lo ∨ hi < x) ∨ ∃ k : Nat, k < n ∧ x = lo + k := by
  by_cases h1 : x < lo ∨ hi < x
  · exact Or.inl h1
  · exact Or.inr ⟨(x - lo).toNat, by omega, by omega⟩
theorem lns_X3_9 : Cond.methodLink RX3 9 yX7_takes ∈ rTbl := rMem 691 (by decide +kernel) rfl
theorem sm_X7_takes : Cond.sameMethod yX7_takes.cls yX7_takes.cls yX7_takes.name yX7_takes.desc ∈ rTbl := rMem 687 (by decide +kernel) rfl
theorem lns_X3_19 : Cond.methodLink RX3 19 yX7_takesOwn ∈ rTbl := rMem 669 (by decide +kernel) rfl
theorem sm_X7_takesOwn : Cond.sameMethod yX7_takesOwn.cls yX7_takesOwn.cls yX7_takesOwn.name yX7_takesOwn.desc ∈ rTbl := rMem 665 (by decide +kernel) rfl
theorem lns_X4_7 : Cond.methodLink RX4 7 yX3_takes ∈ rTbl := rMem 695 (by decide +kernel) rfl
theorem sm_X3_takes : Cond.sameMethod yX3_takes.cls yX3_takes.cls yX3_takes.name yX3_takes.desc ∈ rTbl := rMem 1575 (by decide +kernel) rfl
theorem lns_X4_17 : Cond.methodLink RX4 17 yX3_tells ∈ rTbl := rMem 1050 (by decide +kernel) rfl
theorem sm_X3_tells : Cond.sameMethod yX3_tells.cls yX3_tells.cls yX3_tells.name yX3_tells.desc ∈ rTbl := rMem 1576 (by decide +kernel) rfl
