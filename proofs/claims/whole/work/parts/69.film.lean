/-! THE CLASS: films -/
abbrev oduN (a b : Nat) : Nat := 20 * (max a b - min a b)
abbrev odlN (a b : Nat) : Nat := (a + 20) * (b + 20)
abbrev parS : Type := Option (Nat × Nat) × Int64 × Int64
def parX (T : Tn) (z w y : Nat) : Nat → parS → parS
  | 0, s => s
  | x + 1, s => if x ≠ y ∧ (parX T z w y x s).2.1 * lN (odlN (T.fi z x y) (T.fi w x y)) < lN (oduN (T.fi z x y) (T.fi w x y)) * (parX T z w y x s).2.2 then (some (y, x), lN (oduN (T.fi z x y) (T.fi w x y)), lN (odlN (T.fi z x y) (T.fi w x y))) else parX T z w y x s
def parT (T : Tn) (z w : Nat) : Nat → parS → parS
  | 0, s => s
  | y + 1, s => parX T z w y T.m (parT T z w y s)
abbrev parE (T : Tn) (z w : Nat) : parS := parT T z w T.m (none, -1, 1)
abbrev parB (s : parS) (c : Int32) : Int32 := match s.1 with
  | some (y, x) => if c = 0 then nI y else nI x
  | none => -9
def aParts (T : Tn) (c d w : Int32) : Int32 := match oT T.nl c, oT T.nl d with
  | some z, some u => if w = 0 ∨ w = 1 then (if T.m < 2 then -3 else parB (parE T z u) w) else -2
  | _, _ => -1
def aFilm (T : Tn) (c d i j w : Int32) : Int64 := match oT T.nl c, oT T.nl d, oT T.m i, oT T.m j with
  | some z, some u, some y, some x => if x ≠ y ∧ (w = 0 ∨ w = 1) then tolN (oduN (T.fi z x y) (T.fi u x y)) (odlN (T.fi z x y) (T.fi u x y)) w else lost64
  | _, _, _, _ => lost64
theorem fi_lt {T : Tn} (o : T.ok) {z x y : Nat} (hz : z < T.nl) : T.fi z x y < 1000 := by
  have h1 := o.nu10 hz (w := 1) (by decide)
  have h3 := o.nu10 hz (w := 3) (by decide)
  have h4 := o.nu10 hz (w := 4) (by decide)
  show takenN _ _ _ _ < 1000
  refine Nat.lt_of_le_of_lt (takenN_le h4) ?_
  unfold itsN
  rw [if_pos rfl]
  split
  · exact lt_mul h1 h3
  · omega
theorem odu_lt {a b : Nat} (ha : a < 1000) (hb : b < 1000) : oduN a b < 20000 := by
  have : max a b < 1000 := by omega
  show 20 * (max a b - min a b) < 20000
  omega
theorem odl_lt {a b : Nat} (ha : a < 1000) (hb : b < 1000) : odlN a b < 2000000 := by
  have h1 : (a + 20) * (b + 20) ≤ 1020 * 1020 := Nat.mul_le_mul (by omega) (by omega)
  show (a + 20) * (b + 20) < 2000000
  omega
theorem odl_pos {a b : Nat} : 0 < odlN a b := Nat.mul_pos (by omega) (by omega)
section CFILM
variable {l : Launch} {G : rG} {h : rH} {T : Tn}
set_option maxRecDepth 100000 in
set_option maxHeartbeats 400000 in
theorem k_X11_oddsUpper {a b : Nat} (ha : a < 1000) (hb : b < 1000) : rM l G 1 mX11_oddsUpper 0 0 [.int (nI a), .int (nI b)] h (rV h (some (.int (nI (oduN a b))))) := by
  have e : (20 : Int32) * (if 0 ≤ nI a - nI b then nI a - nI b else 0 - (nI a - nI b)) = nI (oduN a b) := by
    have e1 : (0 : Int32) ≤ nI a - nI b ↔ b ≤ a := by
      rw [i_le, pk_sub_toInt (by omega) (by omega)]
      show (0 : Int) ≤ _ ↔ _
      omega
    by_cases h : b ≤ a
    · rw [if_pos (e1.mpr h), pk_sub h, show (20 : Int32) = nI 20 from rfl, pk_mul]
      congr 1
      show 20 * (a - b) = 20 * (max a b - min a b)
      rw [Nat.max_eq_left h, Nat.min_eq_right h]
    · rw [if_neg (fun z => h (e1.mp z))]
      have e2 : (0 : Int32) - (nI a - nI b) = nI b - nI a := by
        rw [i_eq, pk_sub_toInt (by omega) (by omega), Int32.toInt_sub, pk_sub_toInt (by omega) (by omega)]
        show Int.bmod (0 - _) _ = _
        unfold Int.bmod
        simp only
        split <;> omega
      rw [e2, pk_sub (by omega), show (20 : Int32) = nI 20 from rfl, pk_mul]
      congr 1
      show 20 * (b - a) = 20 * (max a b - min a b)
      rw [Nat.max_eq_right (by omega), Nat.min_eq_left (by omega)]
  refine rM_start (by decide) (Nat.le_of_ble_eq_true rfl) ?_
  refine a_bipush (20) 2 dX11_oddsUpper_0 rfl (by decide) ?_
  refine a_iload_n 3 dX11_oddsUpper_2 rfl rfl ?_
  refine a_iload_n 4 dX11_oddsUpper_3 rfl rfl ?_
  refine a_isub 5 dX11_oddsUpper_4 rfl ?_
  refine a_mabs lm_X11_429 rfl 8 dX11_oddsUpper_5 rfl (Nat.le_of_ble_eq_true rfl) (Nat.le_of_ble_eq_true rfl) ⟨(Nat.le_of_ble_eq_true rfl), (Nat.le_of_ble_eq_true rfl)⟩ ?_
  refine a_imul 9 dX11_oddsUpper_8 rfl ?_
  rw [e]
  exact a_ireturn dX11_oddsUpper_9 rfl rfl (Nat.le_of_ble_eq_true rfl) (Nat.le_of_ble_eq_true rfl) ⟨rfl, rfl⟩
set_option maxRecDepth 100000 in
set_option maxHeartbeats 400000 in
theorem k_X11_oddsLower {a b : Nat} (ha : a < 1000) (hb : b < 1000) : rM l G 1 mX11_oddsLower 0 0 [.int (nI a), .int (nI b)] h (rV h (some (.int (nI (odlN a b))))) := by
  have e : (nI a + 20) * (nI b + 20) = nI (odlN a b) := by rw [show (20 : Int32) = nI 20 from rfl, nI_add, nI_add, pk_mul]
  refine rM_start (by decide) (Nat.le_of_ble_eq_true rfl) ?_
  refine a_iload_n 1 dX11_oddsLower_0 rfl rfl ?_
  refine a_bipush (20) 3 dX11_oddsLower_1 rfl (by decide) ?_
  refine a_iadd 4 dX11_oddsLower_3 rfl ?_
  refine a_iload_n 5 dX11_oddsLower_4 rfl rfl ?_
  refine a_bipush (20) 7 dX11_oddsLower_5 rfl (by decide) ?_
  refine a_iadd 8 dX11_oddsLower_7 rfl ?_
  refine a_imul 9 dX11_oddsLower_8 rfl ?_
  rw [e]
  exact a_ireturn dX11_oddsLower_9 rfl rfl (Nat.le_of_ble_eq_true rfl) (Nat.le_of_ble_eq_true rfl) ⟨rfl, rfl⟩
set_option maxRecDepth 100000 in
set_option maxHeartbeats 400000 in
theorem k_X11_mostParting (q : cAt G h T) (o : T.ok) {z u : Nat} (hz : z < T.nl) (hu : u < T.nl) (c : Int32) : rM l G 6 mX11_mostParting 0 0 [.ref (gN G + 0), .ref (gN G + T.la z), .ref (gN G + T.la u), .int c] h (rV h (some (.int (parB (parE T z u) c)))) := by
  have hm := o.m12
  have hy := q.1
  have A : ∀ (r y : Nat) (s : parS) (y4 y9 : Int32) (o10 o11 o12 o13 o14 : Option Value), y + r = T.m → s = parT T z u y (none, -1, 1) → y4 = parB s c → y9 = nI y → rW l G (rRm 6 0 0) mX11_mostParting (rZ G (rV h (some (.int (parB (parE T z u) c)))) 0 0) 0 0 15 [some (.ref (gN G + 0)), some (.ref (gN G + T.la z)), some (.ref (gN G + T.la u)), some (.int c), some (.int y4), some (.long s.2.1), none, some (.long s.2.2), none, some (.int y9), o10, o11, o12, o13, o14] [] h := by
    intro r
    induction r with
    | zero =>
      intro y s y4 y9 o10 o11 o12 o13 o14 hr hs h4 h9
      subst h4; subst h9
      have e : y = T.m := by omega
      subst e
      have es : s = parE T z u := hs
      refine a_iload 17 dX11_mostParting_15 rfl rfl ?_
      refine a_aload_n 18 dX11_mostParting_17 rfl rfl ?_
      refine a_get fd_X11_98 rfl 21 dX11_mostParting_18 rfl (by repeat (first | assumption | (refine rg_ne (by first | decide | omega) ?_) | apply rg_eq | refine rg_fr (by assumption) (by first | decide | (simp; omega)) ?_)) rfl ?_
      refine a_icmp_ge 160 24 dX11_mostParting_21 rfl (by decide) (fun c_21 => ?_) (fun c_21 => absurd (Int32.le_refl _) c_21)
      refine a_iload 162 dX11_mostParting_160 rfl rfl ?_
      exact a_ireturn dX11_mostParting_162 rfl rfl (Nat.le_of_ble_eq_true rfl) (Nat.le_of_ble_eq_true rfl) ⟨rfl, by rw [es]⟩
    | succ r ih =>
      intro y s y4 y9 o10 o11 o12 o13 o14 hr hs h4 h9
      subst h4; subst h9
      have hym : y < T.m := by omega
      have A2 : ∀ (r2 x : Nat) (v : parS) (y4 y10 : Int32) (o11 o12 o13 o14 : Option Value), x + r2 = T.m → v = parX T z u y x s → y4 = parB v c → y10 = nI x → rW l G (rRm 6 0 0) mX11_mostParting (rZ G (rV h (some (.int (parB (parE T z u) c)))) 0 0) 0 0 27 [some (.ref (gN G + 0)), some (.ref (gN G + T.la z)), some (.ref (gN G + T.la u)), some (.int c), some (.int y4), some (.long v.2.1), none, some (.long v.2.2), none, some (.int (nI y)), some (.int y10), o11, o12, o13, o14] [] h := by
        intro r2
        induction r2 with
        | zero =>
          intro x v y4 y10 o11 o12 o13 o14 hr2 hv h4 h10
          subst h4; subst h10
          have e : x = T.m := by omega
          subst e
          refine a_iload 29 dX11_mostParting_27 rfl rfl ?_
          refine a_aload_n 30 dX11_mostParting_29 rfl rfl ?_
          refine a_get fd_X11_98 rfl 33 dX11_mostParting_30 rfl (by repeat (first | assumption | (refine rg_ne (by first | decide | omega) ?_) | apply rg_eq | refine rg_fr (by assumption) (by first | decide | (simp; omega)) ?_)) rfl ?_
          refine a_icmp_ge 154 36 dX11_mostParting_33 rfl (by decide) (fun c_33 => ?_) (fun c_33 => absurd (Int32.le_refl _) c_33)
          refine a_iinc _ 157 dX11_mostParting_154 rfl rfl (by decide) rfl ?_
          refine a_goto 15 dX11_mostParting_157 (by decide) ?_
          exact ih (y + 1) v _ _ _ _ _ _ _ (by omega) (by rw [parT, ← hs]; exact hv) rfl (nI_1 y)
        | succ r2 ih2 =>
          intro x v y4 y10 o11 o12 o13 o14 hr2 hv h4 h10
          subst h4; subst h10
          have hxm : x < T.m := by omega
          have hne := nI_eq (a := x) (b := y) (by omega) (by omega)
          have b1 := fi_lt o (x := x) (y := y) hz
          have b2 := fi_lt o (x := x) (y := y) hu
          have u1 := odu_lt b1 b2
          have l1 := odl_lt b1 b2
          have hsx : parX T z u y (x + 1) s = if x ≠ y ∧ v.2.1 * lN (odlN (T.fi z x y) (T.fi u x y)) < lN (oduN (T.fi z x y) (T.fi u x y)) * v.2.2 then (some (y, x), lN (oduN (T.fi z x y) (T.fi u x y)), lN (odlN (T.fi z x y) (T.fi u x y))) else v := by rw [hv]; rfl
          refine a_iload 29 dX11_mostParting_27 rfl rfl ?_
          refine a_aload_n 30 dX11_mostParting_29 rfl rfl ?_
          refine a_get fd_X11_98 rfl 33 dX11_mostParting_30 rfl (by repeat (first | assumption | (refine rg_ne (by first | decide | omega) ?_) | apply rg_eq | refine rg_fr (by assumption) (by first | decide | (simp; omega)) ?_)) rfl ?_
          refine a_icmp_ge 154 36 dX11_mostParting_33 rfl (by decide) (fun c_33 => absurd c_33 (nI_ge (a := x) (b := T.m) (by omega) (by omega))) (fun c_33 => ?_)
          refine a_aload_n 37 dX11_mostParting_36 rfl rfl ?_
          refine a_iload 39 dX11_mostParting_37 rfl rfl ?_
          refine a_callV ok_X11_personAt ln_X11_152 in_X11_personAt rfl 42 dX11_mostParting_39 rfl (c_person q o hym) (by repeat (first | assumption | (refine rg_ne (by first | decide | omega) ?_) | apply rg_eq | refine rg_fr (by assumption) (by first | decide | (simp; omega)) ?_)) rfl rfl rfl ⟨(Nat.le_of_ble_eq_true rfl), (Nat.le_of_ble_eq_true rfl)⟩ (Nat.le_of_ble_eq_true rfl) ⟨(Nat.le_of_ble_eq_true rfl), (Nat.le_of_ble_eq_true rfl)⟩ ?_
          rintro _ _ ⟨rfl, rfl⟩
          refine a_astore 44 dX11_mostParting_42 rfl (by decide) ?_
          refine a_aload_n 45 dX11_mostParting_44 rfl rfl ?_
          refine a_iload 47 dX11_mostParting_45 rfl rfl ?_
          refine a_callV ok_X11_personAt ln_X11_152 in_X11_personAt rfl 50 dX11_mostParting_47 rfl (c_person q o hxm) (by repeat (first | assumption | (refine rg_ne (by first | decide | omega) ?_) | apply rg_eq | refine rg_fr (by assumption) (by first | decide | (simp; omega)) ?_)) rfl rfl rfl ⟨(Nat.le_of_ble_eq_true rfl), (Nat.le_of_ble_eq_true rfl)⟩ (Nat.le_of_ble_eq_true rfl) ⟨(Nat.le_of_ble_eq_true rfl), (Nat.le_of_ble_eq_true rfl)⟩ ?_
          rintro _ _ ⟨rfl, rfl⟩
          refine a_astore 52 dX11_mostParting_50 rfl (by decide) ?_
          refine a_iload 54 dX11_mostParting_52 rfl rfl ?_
          refine a_iload 56 dX11_mostParting_54 rfl rfl ?_
          refine a_icmp_eq 148 59 dX11_mostParting_56 rfl (by decide) (fun c_56 => ?_) (fun c_56 => ?_)
          · refine a_iinc _ 151 dX11_mostParting_148 rfl rfl (by decide) rfl ?_
            refine a_goto 27 dX11_mostParting_151 (by decide) ?_
            exact ih2 (x + 1) v _ _ _ _ _ _ (by omega) (by rw [hsx, if_neg (fun w => w.1 (hne.mp c_56))]) rfl (nI_1 x)
          · refine a_aload 61 dX11_mostParting_59 rfl rfl ?_
            refine a_ifnull 64 dX11_mostParting_61 rfl ?_
            refine a_aload 66 dX11_mostParting_64 rfl rfl ?_
            refine a_ifnull 69 dX11_mostParting_66 rfl ?_
            refine a_aload_n 70 dX11_mostParting_69 rfl rfl ?_
            refine a_aload 72 dX11_mostParting_70 rfl rfl ?_
            refine a_aload 74 dX11_mostParting_72 rfl rfl ?_
            refine a_callS ok_X11_filmMight ln_X11_311 is_X11_filmMight rfl 77 dX11_mostParting_74 rfl (c_film q o hz hxm hym) rfl rfl ⟨(Nat.le_of_ble_eq_true rfl), (Nat.le_of_ble_eq_true rfl)⟩ (Nat.le_of_ble_eq_true rfl) ⟨(Nat.le_of_ble_eq_true rfl), (Nat.le_of_ble_eq_true rfl)⟩ ?_
            rintro _ _ ⟨rfl, rfl⟩
            refine a_istore 79 dX11_mostParting_77 rfl (by decide) ?_
            refine a_aload_n 80 dX11_mostParting_79 rfl rfl ?_
            refine a_aload 82 dX11_mostParting_80 rfl rfl ?_
            refine a_aload 84 dX11_mostParting_82 rfl rfl ?_
            refine a_callS ok_X11_filmMight ln_X11_311 is_X11_filmMight rfl 87 dX11_mostParting_84 rfl (c_film q o hu hxm hym) rfl rfl ⟨(Nat.le_of_ble_eq_true rfl), (Nat.le_of_ble_eq_true rfl)⟩ (Nat.le_of_ble_eq_true rfl) ⟨(Nat.le_of_ble_eq_true rfl), (Nat.le_of_ble_eq_true rfl)⟩ ?_
            rintro _ _ ⟨rfl, rfl⟩
            refine a_istore 89 dX11_mostParting_87 rfl (by decide) ?_
            refine a_iload 91 dX11_mostParting_89 rfl rfl ?_
            refine a_iload 93 dX11_mostParting_91 rfl rfl ?_
            refine a_callS ok_X11_oddsUpper ln_X11_314 is_X11_oddsUpper rfl 96 dX11_mostParting_93 rfl (k_X11_oddsUpper b1 b2) rfl rfl ⟨(Nat.le_of_ble_eq_true rfl), (Nat.le_of_ble_eq_true rfl)⟩ (Nat.le_of_ble_eq_true rfl) ⟨(Nat.le_of_ble_eq_true rfl), (Nat.le_of_ble_eq_true rfl)⟩ ?_
            rintro _ _ ⟨rfl, rfl⟩
            refine a_i2l 97 dX11_mostParting_96 rfl ?_
            rw [nI_l (by omega)]
            refine a_lload 99 dX11_mostParting_97 rfl rfl ?_
            refine a_lmul 100 dX11_mostParting_99 rfl ?_
            refine a_lload 102 dX11_mostParting_100 rfl rfl ?_
            refine a_iload 104 dX11_mostParting_102 rfl rfl ?_
            refine a_iload 106 dX11_mostParting_104 rfl rfl ?_
            refine a_callS ok_X11_oddsLower ln_X11_317 is_X11_oddsLower rfl 109 dX11_mostParting_106 rfl (k_X11_oddsLower b1 b2) rfl rfl ⟨(Nat.le_of_ble_eq_true rfl), (Nat.le_of_ble_eq_true rfl)⟩ (Nat.le_of_ble_eq_true rfl) ⟨(Nat.le_of_ble_eq_true rfl), (Nat.le_of_ble_eq_true rfl)⟩ ?_
            rintro _ _ ⟨rfl, rfl⟩
            refine a_i2l 110 dX11_mostParting_109 rfl ?_
            rw [nI_l (by omega)]
            refine a_lmul 111 dX11_mostParting_110 rfl ?_
            refine a_lcmp 112 dX11_mostParting_111 rfl ?_
            refine a_if_le 148 115 dX11_mostParting_112 rfl (by decide) (fun c_112 => ?_) (fun c_112 => ?_)
            · refine a_iinc _ 151 dX11_mostParting_148 rfl rfl (by decide) rfl ?_
              refine a_goto 27 dX11_mostParting_151 (by decide) ?_
              exact ih2 (x + 1) v _ _ _ _ _ _ (by omega) (by rw [hsx, if_neg (fun w => absurd ((lg_cmp_le _ _).mp c_112) (Int64.not_le.mpr w.2))]) rfl (nI_1 x)
            · refine a_iload 117 dX11_mostParting_115 rfl rfl ?_
              refine a_iload 119 dX11_mostParting_117 rfl rfl ?_
              refine a_callS ok_X11_oddsUpper ln_X11_314 is_X11_oddsUpper rfl 122 dX11_mostParting_119 rfl (k_X11_oddsUpper b1 b2) rfl rfl ⟨(Nat.le_of_ble_eq_true rfl), (Nat.le_of_ble_eq_true rfl)⟩ (Nat.le_of_ble_eq_true rfl) ⟨(Nat.le_of_ble_eq_true rfl), (Nat.le_of_ble_eq_true rfl)⟩ ?_
              rintro _ _ ⟨rfl, rfl⟩
              refine a_i2l 123 dX11_mostParting_122 rfl ?_
              rw [nI_l (by omega)]
              refine a_lstore 125 dX11_mostParting_123 rfl (by decide) ?_
              refine a_iload 127 dX11_mostParting_125 rfl rfl ?_
              refine a_iload 129 dX11_mostParting_127 rfl rfl ?_
              refine a_callS ok_X11_oddsLower ln_X11_317 is_X11_oddsLower rfl 132 dX11_mostParting_129 rfl (k_X11_oddsLower b1 b2) rfl rfl ⟨(Nat.le_of_ble_eq_true rfl), (Nat.le_of_ble_eq_true rfl)⟩ (Nat.le_of_ble_eq_true rfl) ⟨(Nat.le_of_ble_eq_true rfl), (Nat.le_of_ble_eq_true rfl)⟩ ?_
              rintro _ _ ⟨rfl, rfl⟩
              refine a_i2l 133 dX11_mostParting_132 rfl ?_
              rw [nI_l (by omega)]
              refine a_lstore 135 dX11_mostParting_133 rfl (by decide) ?_
              refine a_iload_n 136 dX11_mostParting_135 rfl rfl ?_
              refine a_if_ne 144 139 dX11_mostParting_136 rfl (by decide) (fun c_136 => ?_) (fun c_136 => ?_)
              · refine a_iload 146 dX11_mostParting_144 rfl rfl ?_
                refine a_istore 148 dX11_mostParting_146 rfl (by decide) ?_
                refine a_iinc _ 151 dX11_mostParting_148 rfl rfl (by decide) rfl ?_
                refine a_goto 27 dX11_mostParting_151 (by decide) ?_
                exact ih2 (x + 1) (some (y, x), lN (oduN (T.fi z x y) (T.fi u x y)), lN (odlN (T.fi z x y) (T.fi u x y))) _ _ _ _ _ _ (by omega) (by rw [hsx, if_pos ⟨fun w => c_56 (hne.mpr w), Int64.not_le.mp (fun w => c_112 ((lg_cmp_le _ _).mpr w))⟩]) (by show _ = if c = 0 then nI y else nI x; rw [if_neg c_136]) (nI_1 x)
              · refine a_iload 141 dX11_mostParting_139 rfl rfl ?_
                refine a_goto 146 dX11_mostParting_141 (by decide) ?_
                refine a_istore 148 dX11_mostParting_146 rfl (by decide) ?_
                refine a_iinc _ 151 dX11_mostParting_148 rfl rfl (by decide) rfl ?_
                refine a_goto 27 dX11_mostParting_151 (by decide) ?_
                exact ih2 (x + 1) (some (y, x), lN (oduN (T.fi z x y) (T.fi u x y)), lN (odlN (T.fi z x y) (T.fi u x y))) _ _ _ _ _ _ (by omega) (by rw [hsx, if_pos ⟨fun w => c_56 (hne.mpr w), Int64.not_le.mp (fun w => c_112 ((lg_cmp_le _ _).mpr w))⟩]) (by show _ = if c = 0 then nI y else nI x; rw [if_pos c_136]) (nI_1 x)
      refine a_iload 17 dX11_mostParting_15 rfl rfl ?_
      refine a_aload_n 18 dX11_mostParting_17 rfl rfl ?_
      refine a_get fd_X11_98 rfl 21 dX11_mostParting_18 rfl (by repeat (first | assumption | (refine rg_ne (by first | decide | omega) ?_) | apply rg_eq | refine rg_fr (by assumption) (by first | decide | (simp; omega)) ?_)) rfl ?_
      refine a_icmp_ge 160 24 dX11_mostParting_21 rfl (by decide) (fun c_21 => absurd c_21 (nI_ge (a := y) (b := T.m) (by omega) (by omega))) (fun c_21 => ?_)
      refine a_iconst (0) 25 dX11_mostParting_24 rfl (by decide) ?_
      refine a_istore 27 dX11_mostParting_25 rfl (by decide) ?_
      exact A2 T.m 0 s _ _ _ _ _ _ (by omega) rfl rfl rfl
  refine rM_start (by decide) (Nat.le_of_ble_eq_true rfl) ?_
  refine a_bipush (-9) 2 dX11_mostParting_0 rfl (by decide) ?_
  refine a_istore 4 dX11_mostParting_2 rfl (by decide) ?_
  refine a_ldc2 (-1) 7 dX11_mostParting_4 rfl lk_X11_432 ?_
  refine a_lstore 9 dX11_mostParting_7 rfl (by decide) ?_
  refine a_lconst (1) 10 dX11_mostParting_9 rfl (by decide) ?_
  refine a_lstore 12 dX11_mostParting_10 rfl (by decide) ?_
  refine a_iconst (0) 13 dX11_mostParting_12 rfl (by decide) ?_
  refine a_istore 15 dX11_mostParting_13 rfl (by decide) ?_
  exact A T.m 0 (none, -1, 1) _ _ _ _ _ _ _ (by omega) rfl rfl rfl
set_option maxRecDepth 100000 in
set_option maxHeartbeats 400000 in
theorem c_parts (q : cAll G h T) (o : T.ok) (c d w : Int32) : rM l G 12 mX11_parts 0 0 [.ref (gN G + 0), .int c, .int d, .int w] h (fun h' v => v = some (.int (aParts T c d w)) ∧ cAll G h' T ∧ kp h h' cL) := by
  have hnl := o.nl6
  have hm := o.m12
  have hy := q.1.1
  rcases oT_cases (n := T.nl) (by omega) c with ⟨e, hc⟩ | ⟨z, hz, rfl, e⟩
  · have ea : aParts T c d w = -1 := by unfold aParts; rw [e]
    rcases oT_cases (n := T.nl) (by omega) d with ⟨e2, hd⟩ | ⟨u, hu, rfl, e2⟩
    · skip
      refine rM_start (by decide) (Nat.le_of_ble_eq_true rfl) ?_
      refine a_aload_n 1 dX11_parts_0 rfl rfl ?_
      refine a_iload_n 2 dX11_parts_1 rfl rfl ?_
      refine a_callV ok_X11_lawAt ln_X11_180 in_X11_lawAt rfl 5 dX11_parts_2 rfl (c_lawN q.1 hc) (by repeat (first | assumption | (refine rg_ne (by first | decide | omega) ?_) | apply rg_eq | refine rg_fr (by assumption) (by first | decide | (simp; omega)) ?_)) rfl rfl rfl ⟨(Nat.le_of_ble_eq_true rfl), (Nat.le_of_ble_eq_true rfl)⟩ (Nat.le_of_ble_eq_true rfl) ⟨(Nat.le_of_ble_eq_true rfl), (Nat.le_of_ble_eq_true rfl)⟩ ?_
      rintro _ _ ⟨rfl, rfl⟩
      refine a_astoreN 7 dX11_parts_5 rfl (by decide) ?_
      refine a_aload_n 8 dX11_parts_7 rfl rfl ?_
      refine a_iload_n 9 dX11_parts_8 rfl rfl ?_
      refine a_callV ok_X11_lawAt ln_X11_180 in_X11_lawAt rfl 12 dX11_parts_9 rfl (c_lawN q.1 hd) (by repeat (first | assumption | (refine rg_ne (by first | decide | omega) ?_) | apply rg_eq | refine rg_fr (by assumption) (by first | decide | (simp; omega)) ?_)) rfl rfl rfl ⟨(Nat.le_of_ble_eq_true rfl), (Nat.le_of_ble_eq_true rfl)⟩ (Nat.le_of_ble_eq_true rfl) ⟨(Nat.le_of_ble_eq_true rfl), (Nat.le_of_ble_eq_true rfl)⟩ ?_
      rintro _ _ ⟨rfl, rfl⟩
      refine a_astoreN 14 dX11_parts_12 rfl (by decide) ?_
      refine a_aloadN 16 dX11_parts_14 rfl rfl ?_
      refine a_ifnullN 24 dX11_parts_16 (by decide) ?_
      refine a_iconst (-1) 25 dX11_parts_24 rfl (by decide) ?_
      exact a_ireturn dX11_parts_25 rfl rfl (Nat.le_of_ble_eq_true rfl) (Nat.le_of_ble_eq_true rfl) ⟨by rw [ea], q, fun _ _ _ => rfl⟩
    · skip
      refine rM_start (by decide) (Nat.le_of_ble_eq_true rfl) ?_
      refine a_aload_n 1 dX11_parts_0 rfl rfl ?_
      refine a_iload_n 2 dX11_parts_1 rfl rfl ?_
      refine a_callV ok_X11_lawAt ln_X11_180 in_X11_lawAt rfl 5 dX11_parts_2 rfl (c_lawN q.1 hc) (by repeat (first | assumption | (refine rg_ne (by first | decide | omega) ?_) | apply rg_eq | refine rg_fr (by assumption) (by first | decide | (simp; omega)) ?_)) rfl rfl rfl ⟨(Nat.le_of_ble_eq_true rfl), (Nat.le_of_ble_eq_true rfl)⟩ (Nat.le_of_ble_eq_true rfl) ⟨(Nat.le_of_ble_eq_true rfl), (Nat.le_of_ble_eq_true rfl)⟩ ?_
      rintro _ _ ⟨rfl, rfl⟩
      refine a_astoreN 7 dX11_parts_5 rfl (by decide) ?_
      refine a_aload_n 8 dX11_parts_7 rfl rfl ?_
      refine a_iload_n 9 dX11_parts_8 rfl rfl ?_
      refine a_callV ok_X11_lawAt ln_X11_180 in_X11_lawAt rfl 12 dX11_parts_9 rfl (c_law q.1 o hu) (by repeat (first | assumption | (refine rg_ne (by first | decide | omega) ?_) | apply rg_eq | refine rg_fr (by assumption) (by first | decide | (simp; omega)) ?_)) rfl rfl rfl ⟨(Nat.le_of_ble_eq_true rfl), (Nat.le_of_ble_eq_true rfl)⟩ (Nat.le_of_ble_eq_true rfl) ⟨(Nat.le_of_ble_eq_true rfl), (Nat.le_of_ble_eq_true rfl)⟩ ?_
      rintro _ _ ⟨rfl, rfl⟩
      refine a_astore 14 dX11_parts_12 rfl (by decide) ?_
      refine a_aloadN 16 dX11_parts_14 rfl rfl ?_
      refine a_ifnullN 24 dX11_parts_16 (by decide) ?_
      refine a_iconst (-1) 25 dX11_parts_24 rfl (by decide) ?_
      exact a_ireturn dX11_parts_25 rfl rfl (Nat.le_of_ble_eq_true rfl) (Nat.le_of_ble_eq_true rfl) ⟨by rw [ea], q, fun _ _ _ => rfl⟩
  · rcases oT_cases (n := T.nl) (by omega) d with ⟨e2, hd⟩ | ⟨u, hu, rfl, e2⟩
    · have ea : aParts T (nI z) d w = -1 := by unfold aParts; rw [e, e2]
      refine rM_start (by decide) (Nat.le_of_ble_eq_true rfl) ?_
      refine a_aload_n 1 dX11_parts_0 rfl rfl ?_
      refine a_iload_n 2 dX11_parts_1 rfl rfl ?_
      refine a_callV ok_X11_lawAt ln_X11_180 in_X11_lawAt rfl 5 dX11_parts_2 rfl (c_law q.1 o hz) (by repeat (first | assumption | (refine rg_ne (by first | decide | omega) ?_) | apply rg_eq | refine rg_fr (by assumption) (by first | decide | (simp; omega)) ?_)) rfl rfl rfl ⟨(Nat.le_of_ble_eq_true rfl), (Nat.le_of_ble_eq_true rfl)⟩ (Nat.le_of_ble_eq_true rfl) ⟨(Nat.le_of_ble_eq_true rfl), (Nat.le_of_ble_eq_true rfl)⟩ ?_
      rintro _ _ ⟨rfl, rfl⟩
      refine a_astore 7 dX11_parts_5 rfl (by decide) ?_
      refine a_aload_n 8 dX11_parts_7 rfl rfl ?_
      refine a_iload_n 9 dX11_parts_8 rfl rfl ?_
      refine a_callV ok_X11_lawAt ln_X11_180 in_X11_lawAt rfl 12 dX11_parts_9 rfl (c_lawN q.1 hd) (by repeat (first | assumption | (refine rg_ne (by first | decide | omega) ?_) | apply rg_eq | refine rg_fr (by assumption) (by first | decide | (simp; omega)) ?_)) rfl rfl rfl ⟨(Nat.le_of_ble_eq_true rfl), (Nat.le_of_ble_eq_true rfl)⟩ (Nat.le_of_ble_eq_true rfl) ⟨(Nat.le_of_ble_eq_true rfl), (Nat.le_of_ble_eq_true rfl)⟩ ?_
      rintro _ _ ⟨rfl, rfl⟩
      refine a_astoreN 14 dX11_parts_12 rfl (by decide) ?_
      refine a_aload 16 dX11_parts_14 rfl rfl ?_
      refine a_ifnull 19 dX11_parts_16 rfl ?_
      refine a_aloadN 21 dX11_parts_19 rfl rfl ?_
      refine a_ifnonnullN 24 dX11_parts_21 rfl ?_
      refine a_iconst (-1) 25 dX11_parts_24 rfl (by decide) ?_
      exact a_ireturn dX11_parts_25 rfl rfl (Nat.le_of_ble_eq_true rfl) (Nat.le_of_ble_eq_true rfl) ⟨by rw [ea], q, fun _ _ _ => rfl⟩
    · have ea : aParts T (nI z) (nI u) w = if w = 0 ∨ w = 1 then (if T.m < 2 then -3 else parB (parE T z u) w) else -2 := by unfold aParts; rw [e, e2]
      have e2m : (2 : Int32) ≤ nI T.m ↔ ¬ T.m < 2 := by
        rw [show (2 : Int32) = nI 2 from rfl, nI_leI (by omega) (by omega)]
        omega
      refine rM_start (by decide) (Nat.le_of_ble_eq_true rfl) ?_
      refine a_aload_n 1 dX11_parts_0 rfl rfl ?_
      refine a_iload_n 2 dX11_parts_1 rfl rfl ?_
      refine a_callV ok_X11_lawAt ln_X11_180 in_X11_lawAt rfl 5 dX11_parts_2 rfl (c_law q.1 o hz) (by repeat (first | assumption | (refine rg_ne (by first | decide | omega) ?_) | apply rg_eq | refine rg_fr (by assumption) (by first | decide | (simp; omega)) ?_)) rfl rfl rfl ⟨(Nat.le_of_ble_eq_true rfl), (Nat.le_of_ble_eq_true rfl)⟩ (Nat.le_of_ble_eq_true rfl) ⟨(Nat.le_of_ble_eq_true rfl), (Nat.le_of_ble_eq_true rfl)⟩ ?_
      rintro _ _ ⟨rfl, rfl⟩
      refine a_astore 7 dX11_parts_5 rfl (by decide) ?_
      refine a_aload_n 8 dX11_parts_7 rfl rfl ?_
      refine a_iload_n 9 dX11_parts_8 rfl rfl ?_
      refine a_callV ok_X11_lawAt ln_X11_180 in_X11_lawAt rfl 12 dX11_parts_9 rfl (c_law q.1 o hu) (by repeat (first | assumption | (refine rg_ne (by first | decide | omega) ?_) | apply rg_eq | refine rg_fr (by assumption) (by first | decide | (simp; omega)) ?_)) rfl rfl rfl ⟨(Nat.le_of_ble_eq_true rfl), (Nat.le_of_ble_eq_true rfl)⟩ (Nat.le_of_ble_eq_true rfl) ⟨(Nat.le_of_ble_eq_true rfl), (Nat.le_of_ble_eq_true rfl)⟩ ?_
      rintro _ _ ⟨rfl, rfl⟩
      refine a_astore 14 dX11_parts_12 rfl (by decide) ?_
      refine a_aload 16 dX11_parts_14 rfl rfl ?_
      refine a_ifnull 19 dX11_parts_16 rfl ?_
      refine a_aload 21 dX11_parts_19 rfl rfl ?_
      refine a_ifnonnull 26 dX11_parts_21 (by decide) ?_
      refine a_iload_n 27 dX11_parts_26 rfl rfl ?_
      refine a_if_eq 38 30 dX11_parts_27 rfl (by decide) (fun c_27 => ?_) (fun c_27 => ?_)
      · refine a_aload_n 39 dX11_parts_38 rfl rfl ?_
        refine a_get fd_X11_98 rfl 42 dX11_parts_39 rfl (by repeat (first | assumption | (refine rg_ne (by first | decide | omega) ?_) | apply rg_eq | refine rg_fr (by assumption) (by first | decide | (simp; omega)) ?_)) rfl ?_
        refine a_iconst (2) 43 dX11_parts_42 rfl (by decide) ?_
        refine a_icmp_ge 51 46 dX11_parts_43 rfl (by decide) (fun c_43 => ?_) (fun c_43 => ?_)
        · refine a_aload_n 52 dX11_parts_51 rfl rfl ?_
          refine a_aload 54 dX11_parts_52 rfl rfl ?_
          refine a_aload 56 dX11_parts_54 rfl rfl ?_
          refine a_iload_n 57 dX11_parts_56 rfl rfl ?_
          refine a_callV ok_X11_mostParting ln_X11_307 in_X11_mostParting rfl 60 dX11_parts_57 rfl (k_X11_mostParting q.1 o hz hu w) (by repeat (first | assumption | (refine rg_ne (by first | decide | omega) ?_) | apply rg_eq | refine rg_fr (by assumption) (by first | decide | (simp; omega)) ?_)) rfl rfl rfl ⟨(Nat.le_of_ble_eq_true rfl), (Nat.le_of_ble_eq_true rfl)⟩ (Nat.le_of_ble_eq_true rfl) ⟨(Nat.le_of_ble_eq_true rfl), (Nat.le_of_ble_eq_true rfl)⟩ ?_
          rintro _ _ ⟨rfl, rfl⟩
          exact a_ireturn dX11_parts_60 rfl rfl (Nat.le_of_ble_eq_true rfl) (Nat.le_of_ble_eq_true rfl) ⟨by rw [ea, if_pos (Or.inl c_27), if_neg (e2m.mp c_43)], q, fun _ _ _ => rfl⟩
        · refine a_bipush (-3) 48 dX11_parts_46 rfl (by decide) ?_
          refine a_goto 60 dX11_parts_48 (by decide) ?_
          exact a_ireturn dX11_parts_60 rfl rfl (Nat.le_of_ble_eq_true rfl) (Nat.le_of_ble_eq_true rfl) ⟨by rw [ea, if_pos (Or.inl c_27), if_pos (Decidable.not_not.mp (fun v => c_43 (e2m.mpr v)))], q, fun _ _ _ => rfl⟩
      · refine a_iload_n 31 dX11_parts_30 rfl rfl ?_
        refine a_iconst (1) 32 dX11_parts_31 rfl (by decide) ?_
        refine a_icmp_eq 38 35 dX11_parts_32 rfl (by decide) (fun c_32 => ?_) (fun c_32 => ?_)
        · refine a_aload_n 39 dX11_parts_38 rfl rfl ?_
          refine a_get fd_X11_98 rfl 42 dX11_parts_39 rfl (by repeat (first | assumption | (refine rg_ne (by first | decide | omega) ?_) | apply rg_eq | refine rg_fr (by assumption) (by first | decide | (simp; omega)) ?_)) rfl ?_
          refine a_iconst (2) 43 dX11_parts_42 rfl (by decide) ?_
          refine a_icmp_ge 51 46 dX11_parts_43 rfl (by decide) (fun c_43 => ?_) (fun c_43 => ?_)
          · refine a_aload_n 52 dX11_parts_51 rfl rfl ?_
            refine a_aload 54 dX11_parts_52 rfl rfl ?_
            refine a_aload 56 dX11_parts_54 rfl rfl ?_
            refine a_iload_n 57 dX11_parts_56 rfl rfl ?_
            refine a_callV ok_X11_mostParting ln_X11_307 in_X11_mostParting rfl 60 dX11_parts_57 rfl (k_X11_mostParting q.1 o hz hu w) (by repeat (first | assumption | (refine rg_ne (by first | decide | omega) ?_) | apply rg_eq | refine rg_fr (by assumption) (by first | decide | (simp; omega)) ?_)) rfl rfl rfl ⟨(Nat.le_of_ble_eq_true rfl), (Nat.le_of_ble_eq_true rfl)⟩ (Nat.le_of_ble_eq_true rfl) ⟨(Nat.le_of_ble_eq_true rfl), (Nat.le_of_ble_eq_true rfl)⟩ ?_
            rintro _ _ ⟨rfl, rfl⟩
            exact a_ireturn dX11_parts_60 rfl rfl (Nat.le_of_ble_eq_true rfl) (Nat.le_of_ble_eq_true rfl) ⟨by rw [ea, if_pos (Or.inr c_32), if_neg (e2m.mp c_43)], q, fun _ _ _ => rfl⟩
          · refine a_bipush (-3) 48 dX11_parts_46 rfl (by decide) ?_
            refine a_goto 60 dX11_parts_48 (by decide) ?_
            exact a_ireturn dX11_parts_60 rfl rfl (Nat.le_of_ble_eq_true rfl) (Nat.le_of_ble_eq_true rfl) ⟨by rw [ea, if_pos (Or.inr c_32), if_pos (Decidable.not_not.mp (fun v => c_43 (e2m.mpr v)))], q, fun _ _ _ => rfl⟩
        · refine a_bipush (-2) 37 dX11_parts_35 rfl (by decide) ?_
          exact a_ireturn dX11_parts_37 rfl rfl (Nat.le_of_ble_eq_true rfl) (Nat.le_of_ble_eq_true rfl) ⟨by rw [ea, if_neg (fun v => by rcases v with v | v; exact c_27 v; exact c_32 v)], q, fun _ _ _ => rfl⟩
theorem film_no {c d i j w : Int32} (hx : oT T.nl c = none ∨ oT T.nl d = none ∨ oT T.m i = none ∨ oT T.m j = none) : aFilm T c d i j w = lost64 := by
  unfold aFilm
  split
  · rename_i h1 h2 h3 h4
    rcases hx with hx | hx | hx | hx
    · rw [hx] at h1; cases h1
    · rw [hx] at h2; cases h2
    · rw [hx] at h3; cases h3
    · rw [hx] at h4; cases h4
  · rfl
end CFILM
