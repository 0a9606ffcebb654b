theorem ct_0 {st ro wi mi se c : Int32} {fa : Nat → Int32} (w : st.toInt = 0) : ctTakes (st, ro, wi, mi, se, fa) c = ((1, ro, wi, mi, se, fa), if c = 99 then 1 else 0) := by simp [ctTakes, w]
theorem ct_1 {st ro wi mi se c : Int32} {fa : Nat → Int32} (w : st.toInt = 1) : ctTakes (st, ro, wi, mi, se, fa) c = ((2, c - 48, wi, mi, se, fa), if 49 ≤ c ∧ c ≤ 56 then 1 else 0) := by simp [ctTakes, w]
theorem ct_2 {st ro wi mi se c : Int32} {fa : Nat → Int32} (w : st.toInt = 2) : ctTakes (st, ro, wi, mi, se, fa) c = ((3, ro, c - 48, mi, se, fa), if 49 ≤ c ∧ c ≤ 52 then 1 else 0) := by simp [ctTakes, w]
theorem ct_3 {st ro wi mi se c : Int32} {fa : Nat → Int32} (w : st.toInt = 3) : ctTakes (st, ro, wi, mi, se, fa) c = (if c = 109 then ((4, ro, wi, 1, se, fa), 1) else ((5, ro, wi, 0, se, fa), if c = 59 then 1 else 0)) := by simp [ctTakes, w]
theorem ct_4 {st ro wi mi se c : Int32} {fa : Nat → Int32} (w : st.toInt = 4) : ctTakes (st, ro, wi, mi, se, fa) c = ((5, ro, wi, mi, se, fa), if c = 59 then 1 else 0) := by simp [ctTakes, w]
theorem ct_d {st ro wi mi se c : Int32} {fa : Nat → Int32} (w : st.toInt < 0 ∨ 4 < st.toInt) : ctTakes (st, ro, wi, mi, se, fa) c = ctSeat (st, ro, wi, mi, se, fa) (faceBI c) := by
  simp [ctTakes, show ¬ st.toInt = 0 by omega, show ¬ st.toInt = 1 by omega, show ¬ st.toInt = 2 by omega, show ¬ st.toInt = 3 by omega, show ¬ st.toInt = 4 by omega]
abbrev ltS : Type := Int32 × Int32 × Int32 × (Nat → Int32) × (Nat → Int32)
/-- the cells of the law's text: stage, which, items, numbers, told -/
def ltAt (G : rG) (h : rH) (s : ltS) : Prop := h[4]? = some (.inr (6, [.ref (gN G + 5), .ref (gN G + 6), .int s.1, .int s.2.1, .int s.2.2.1])) ∧ h[5]? = some (.inl (gA G 0, 7, .inl s.2.2.2.1)) ∧ h[6]? = some (.inl (gA G 1, 7, .inl s.2.2.2.2))
def numBI (c : Int32) : Int32 := if c = 111 then 0 else if c = 115 then 1 else if c = 101 then 2 else if c = 107 then 3 else if c = 121 then 4 else if c = 102 then 5 else if c = 116 then 6 else -9
def ltLetter (s : ltS) (x : Int32) : ltS × Int32 := match s with
  | (st, wh, it, nu, to) => if 0 ≤ x ∧ x < 7 then (if to x.toNatClampNeg = 0 then ((st, x, it, nu, upd to x.toNatClampNeg 1), 1) else (s, 0)) else (s, 0)
def ltDigit (s : ltS) (c : Int32) : ltS × Int32 := match s with
  | (st, wh, it, nu, to) => if 0 ≤ wh ∧ wh < 7 then (if c < 48 + rLeast wh.toNatClampNeg then (s, 0) else if c ≤ 57 then ((st, wh, it + 1, upd nu wh.toNatClampNeg (c - 48), to), 1) else (s, 0)) else (s, 0)
def ltTakes (s : ltS) (c : Int32) : ltS × Int32 := match s with
  | (st, wh, it, nu, to) =>
    if st.toInt = 0 then ltLetter (1, wh, it, nu, to) (numBI c)
    else if st.toInt = 1 then ltDigit (2, wh, it, nu, to) c
    else ((0, wh, it, nu, to), if c = 59 then (if it < 7 then 1 else 0) else 0)
theorem lq_0 {st wh it c : Int32} {nu to : Nat → Int32} (w : st.toInt = 0) : ltTakes (st, wh, it, nu, to) c = ltLetter (1, wh, it, nu, to) (numBI c) := by simp [ltTakes, w]
theorem lq_1 {st wh it c : Int32} {nu to : Nat → Int32} (w : st.toInt = 1) : ltTakes (st, wh, it, nu, to) c = ltDigit (2, wh, it, nu, to) c := by simp [ltTakes, w]
theorem lq_d {st wh it c : Int32} {nu to : Nat → Int32} (w : st.toInt ≠ 0 ∧ st.toInt ≠ 1) : ltTakes (st, wh, it, nu, to) c = ((0, wh, it, nu, to), if c = 59 then (if it < 7 then 1 else 0) else 0) := by simp [ltTakes, w]
theorem vin_of {i : Int32} {N : Nat} (h1 : ¬ i < 0) (h2 : i < Int32.ofNat N) (hN : N < 2 ^ 31) : vp_in i N := vin_ge h1 (Int32.not_le.mpr h2) hN
theorem nb01 {x : Int32} (h : x = 0 ∨ x = 1) : narrow .boolean (.int x) = .int x := by rcases h with rfl | rfl <;> rfl
theorem ctSeat_b (s : ctS) (c : Int32) : (ctSeat s c).2 = 0 ∨ (ctSeat s c).2 = 1 := by
  obtain ⟨st, ro, wi, mi, se, fa⟩ := s
  simp only [ctSeat]
  repeat' split
  all_goals simp
theorem ltLetter_b (s : ltS) (c : Int32) : (ltLetter s c).2 = 0 ∨ (ltLetter s c).2 = 1 := by
  obtain ⟨st, wh, it, nu, to⟩ := s
  simp only [ltLetter]
  repeat' split
  all_goals simp
theorem ltDigit_b (s : ltS) (c : Int32) : (ltDigit s c).2 = 0 ∨ (ltDigit s c).2 = 1 := by
  obtain ⟨st, wh, it, nu, to⟩ := s
  simp only [ltDigit]
  repeat' split
  all_goals simp
theorem beg_step {j : Nat} {nu to : Nat → Int32} (hall : ∀ i, i < j → nu i = rUntold i ∧ to i = 0) : ∀ i, i < j + 1 → upd nu j (rUntold j) i = rUntold i ∧ upd to j (vp_nar .boolean 0) i = 0 := by
  intro i hi
  by_cases e : i = j
  · subst e
    exact ⟨by simp [upd], by simp only [upd, if_true]; rfl⟩
  · simp only [upd, if_neg e]
    exact hall i (by omega)
