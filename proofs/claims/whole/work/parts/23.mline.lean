/-- the model's way along from a seat, r steps at most: where it ends, who is seen -/
def alongM (nb : Nat → Nat → Option Nat) (bl : Nat → Nat → Int32) (w : Nat) : Nat → Nat → (Nat → Int32) → Option (Nat × (Nat → Int32))
  | 0, _, _ => none
  | r + 1, k, s => match nb k w with
    | none => some (k, s)
    | some d => if bl k d = 0 then alongM nb bl w r d (upd s d 1) else some (k, s)
theorem along_0 {nb : Nat → Nat → Option Nat} {bl : Nat → Nat → Int32} {w r k : Nat} {s : Nat → Int32} (hn : nb k w = none) : alongM nb bl w (r + 1) k s = some (k, s) := by
  simp only [alongM, hn]
theorem along_1 {nb : Nat → Nat → Option Nat} {bl : Nat → Nat → Int32} {w r k d : Nat} {s : Nat → Int32} (hn : nb k w = some d) (hb : ¬ bl k d = 0) : alongM nb bl w (r + 1) k s = some (k, s) := by
  simp only [alongM, hn, if_neg hb]
theorem along_2 {nb : Nat → Nat → Option Nat} {bl : Nat → Nat → Int32} {w r k d : Nat} {s : Nat → Int32} (hn : nb k w = some d) (hb : bl k d = 0) : alongM nb bl w (r + 1) k s = alongM nb bl w r d (upd s d 1) := by
  simp only [alongM, hn, if_pos hb]
/-- what the model's lines rest on: the object, neighbours, blinds -/
def mgAt (G : rG) (h : rH) (i : Nat → Int32) (j : Nat → Int64) (f bR bB : Nat → Int32) (nb : Nat → Nat → Option Nat) (wi : Nat) : Prop :=
  h[38]? = some (mo G i j) ∧ i 2 = nI wi ∧ wi < 32 ∧ h[43]? = some (.inl (gA G 0, 128, .inl f)) ∧ nbOk f nb ∧ h[40]? = some (.inl (gA G 1, 32, .inl bR)) ∧ h[41]? = some (.inl (gA G 1, 32, .inl bB)) ∧ isB bR ∧ isB bB
theorem mgAt.fr {G : rG} {h h' : rH} {i : Nat → Int32} {j : Nat → Int64} {f bR bB : Nat → Int32} {nb : Nat → Nat → Option Nat} {wi : Nat} (q : mgAt G h i j f bR bB nb wi) {S : List Nat} (hf : fr h h' S) (h1 : 38 ∉ S) (h2 : 43 ∉ S) (h3 : 40 ∉ S) (h4 : 41 ∉ S) : mgAt G h' i j f bR bB nb wi := by
  obtain ⟨q1, q2, q3, q4, q5, q6, q7, q8, q9⟩ := q
  exact ⟨rg_fr hf h1 q1, q2, q3, rg_fr hf h2 q4, q5, rg_fr hf h3 q6, rg_fr hf h4 q7, q8, q9⟩
section MLINE
variable {l : Launch} {G : rG} {h : rH} {i : Nat → Int32} {j : Nat → Int64} {f bR bB s : Nat → Int32} {nb : Nat → Nat → Option Nat} {wi : Nat}
set_option maxRecDepth 100000 in
set_option maxHeartbeats 400000 in
theorem k_X12_goAlong (hg : mgAt G h i j f bR bB nb wi) (hs : h[44]? = some (.inl (gA G 1, 32, .inl s))) {k w : Nat} (hk : k < 32) (hw : w < 4) {n e : Nat} {s' : Nat → Int32} (ha : alongM nb (blM bR bB wi) w n k s = some (e, s')) : rM l G 1 mX12_goAlong 0 0 [.ref (gN G + 38), .int (nI k), .int (nI w)] h (fun h' v => v = some (.int (nI e)) ∧ h'[44]? = some (.inl (gA G 1, 32, .inl s')) ∧ fr h h' [44]) := by
  obtain ⟨hm, hwi, hw32, hf, hn, hr, hb, br, bb⟩ := hg
  refine rM_start (by decide) (Nat.le_of_ble_eq_true rfl) ?_
  have L : ∀ (n d : Nat) (s1 : Nat → Int32) (h1 : rH), d < 32 → alongM nb (blM bR bB wi) w n d s1 = some (e, s') → h1[44]? = some (.inl (gA G 1, 32, .inl s1)) → fr h h1 [44] → rW l G (rRm 1 0 0) mX12_goAlong (rZ G (fun h' v => v = some (.int (nI e)) ∧ h'[44]? = some (.inl (gA G 1, 32, .inl s')) ∧ fr h h' [44]) 0 0) 0 0 10 [some (.ref (gN G + 38)), some (.int (nI k)), some (.int (nI w)), some (.int (nI d)), some (.int (noI (nb d w)))] [] h1 := by
    intro n
    induction n with
    | zero => intro d s1 h1 hd ha; cases ha
    | succ n ih =>
      intro d s1 h1 hd ha hs1 hfr
      cases hnb : nb d w with
      | none =>
        rw [along_0 hnb] at ha
        cases ha
        refine a_iload 12 dX12_goAlong_10 rfl rfl ?_
        refine a_if_lt 47 15 dX12_goAlong_12 rfl (by decide) (fun c_12 => ?_) (fun c_12 => absurd (by decide) c_12)
        refine a_iload_n 48 dX12_goAlong_47 rfl rfl ?_
        exact a_ireturn dX12_goAlong_48 rfl rfl (Nat.le_of_ble_eq_true rfl) (Nat.le_of_ble_eq_true rfl) ⟨rfl, hs1, hfr⟩
      | some x =>
        have hx := (hn d w hd hw).2 x hnb
        have vx : vp_in (nI x) 32 := vp_in_nI hx (by decide)
        have hm1 := rg_fr hfr (by decide) hm
        have hr1 := rg_fr hfr (by decide) hr
        have hb1 := rg_fr hfr (by decide) hb
        have hf1 := rg_fr hfr (by decide) hf
        refine a_iload 12 dX12_goAlong_10 rfl rfl ?_
        refine a_if_lt 47 15 dX12_goAlong_12 rfl (by decide) (fun c_12 => absurd c_12 (nI_pos (by omega))) (fun c_12 => ?_)
        refine a_aload_n 16 dX12_goAlong_15 rfl rfl ?_
        refine a_iload_n 17 dX12_goAlong_16 rfl rfl ?_
        refine a_iload 19 dX12_goAlong_17 rfl rfl ?_
        refine a_callV ok_X12_isBlind ln_X12_169 in_X12_isBlind rfl 22 dX12_goAlong_19 rfl (k_X12_isBlind hm1 hwi hw32 hr1 hb1 br bb hd hx) (by repeat (first | assumption | (refine rg_ne (by first | decide | omega) ?_) | apply rg_eq | refine rg_fr (by assumption) (by first | decide | (simp; omega)) ?_)) rfl rfl rfl ⟨(Nat.le_of_ble_eq_true rfl), (Nat.le_of_ble_eq_true rfl)⟩ (Nat.le_of_ble_eq_true rfl) ⟨(Nat.le_of_ble_eq_true rfl), (Nat.le_of_ble_eq_true rfl)⟩ ?_
        rintro _ _ ⟨rfl, rfl⟩
        refine a_if_ne 47 25 dX12_goAlong_22 rfl (by decide) (fun c_22 => ?_) (fun c_22 => ?_)
        · refine a_iload_n 48 dX12_goAlong_47 rfl rfl ?_
          exact a_ireturn dX12_goAlong_48 rfl rfl (Nat.le_of_ble_eq_true rfl) (Nat.le_of_ble_eq_true rfl) (by rw [along_1 hnb c_22] at ha; cases ha; exact ⟨rfl, hs1, hfr⟩)
        · refine a_aload_n 26 dX12_goAlong_25 rfl rfl ?_
          refine a_get fd_X12_26 rfl 29 dX12_goAlong_26 rfl (by repeat (first | assumption | (refine rg_ne (by first | decide | omega) ?_) | apply rg_eq | refine rg_fr (by assumption) (by first | decide | (simp; omega)) ?_)) rfl ?_
          refine a_iload 31 dX12_goAlong_29 rfl rfl ?_
          refine a_iconst (1) 32 dX12_goAlong_31 rfl (by decide) ?_
          refine a_bastore 33 dX12_goAlong_32 rfl (by repeat (first | assumption | (refine rg_ne (by first | decide | omega) ?_) | apply rg_eq | refine rg_fr (by assumption) (by first | decide | (simp; omega)) ?_)) (by assumption) ?_
          refine a_iload 35 dX12_goAlong_33 rfl rfl ?_
          refine a_istore_n 36 dX12_goAlong_35 rfl (by decide) ?_
          refine a_aload_n 37 dX12_goAlong_36 rfl rfl ?_
          refine a_iload_n 38 dX12_goAlong_37 rfl rfl ?_
          refine a_iload_n 39 dX12_goAlong_38 rfl rfl ?_
          refine a_callV ok_X12_nextTo ln_X12_166 in_X12_nextTo rfl 42 dX12_goAlong_39 rfl (k_X12_nextN (by exact rg_ne (by decide) hm1) (by exact rg_ne (by decide) hf1) hn hx hw) (by repeat (first | assumption | (refine rg_ne (by first | decide | omega) ?_) | apply rg_eq | refine rg_fr (by assumption) (by first | decide | (simp; omega)) ?_)) rfl rfl rfl ⟨(Nat.le_of_ble_eq_true rfl), (Nat.le_of_ble_eq_true rfl)⟩ (Nat.le_of_ble_eq_true rfl) ⟨(Nat.le_of_ble_eq_true rfl), (Nat.le_of_ble_eq_true rfl)⟩ ?_
          rintro _ _ ⟨rfl, rfl⟩
          refine a_istore 44 dX12_goAlong_42 rfl (by decide) ?_
          refine a_goto 10 dX12_goAlong_44 (by decide) ?_
          exact ih x _ _ hx ((along_2 hnb c_22).symm.trans ha) (by rw [nI_clamp (by omega)]; exact rg_eq hs1) (fr_set hfr (by decide))
  refine a_iload_n 1 dX12_goAlong_0 rfl rfl ?_
  refine a_istore_n 2 dX12_goAlong_1 rfl (by decide) ?_
  refine a_aload_n 3 dX12_goAlong_2 rfl rfl ?_
  refine a_iload_n 4 dX12_goAlong_3 rfl rfl ?_
  refine a_iload_n 5 dX12_goAlong_4 rfl rfl ?_
  refine a_callV ok_X12_nextTo ln_X12_166 in_X12_nextTo rfl 8 dX12_goAlong_5 rfl (k_X12_nextN hm hf hn hk hw) (by repeat (first | assumption | (refine rg_ne (by first | decide | omega) ?_) | apply rg_eq | refine rg_fr (by assumption) (by first | decide | (simp; omega)) ?_)) rfl rfl rfl ⟨(Nat.le_of_ble_eq_true rfl), (Nat.le_of_ble_eq_true rfl)⟩ (Nat.le_of_ble_eq_true rfl) ⟨(Nat.le_of_ble_eq_true rfl), (Nat.le_of_ble_eq_true rfl)⟩ ?_
  rintro _ _ ⟨rfl, rfl⟩
  refine a_istore 10 dX12_goAlong_8 rfl (by decide) ?_
  exact L n k s _ hk ha hs (fr_refl _ _)
end MLINE
/-- the model's line of a seat: who is seen -/
def lineM (nb : Nat → Nat → Option Nat) (bl : Nat → Nat → Int32) (mir : Bool) (w c : Nat) : Option (Nat → Int32) :=
  match alongM nb bl w 33 c (fun _ => 0) with
  | none => none
  | some (e, s) => if mir = true ∧ w < 2 ∧ nb e w = none then (alongM nb bl (1 - w) 33 e (upd s c 1)).map Prod.snd else some s
theorem along_lt {nb : Nat → Nat → Option Nat} {bl : Nat → Nat → Int32} {f : Nat → Int32} (hn : nbOk f nb) {w : Nat} (hw : w < 4) : ∀ (r k : Nat) (s : Nat → Int32) (e : Nat) (s' : Nat → Int32), k < 32 → alongM nb bl w r k s = some (e, s') → e < 32
  | 0, _, _, _, _, _, h => by cases h
  | r + 1, k, s, e, s', hk, h => by
    cases hnb : nb k w with
    | none => rw [along_0 hnb] at h; cases h; exact hk
    | some d =>
      by_cases hb : bl k d = 0
      · rw [along_2 hnb hb] at h
        exact along_lt hn hw r d _ e s' ((hn k w hk hw).2 d hnb) h
      · rw [along_1 hnb hb] at h; cases h; exact hk
theorem clr_step {d n : Nat} {s1 : Nat → Int32} (hz : ∀ x, x < d ∨ n ≤ x → s1 x = 0) : ∀ x, x < d + 1 ∨ n ≤ x → upd s1 d (vp_nar .boolean 0) x = 0 := by
  intro x hx
  simp only [upd]
  split
  · rfl
  · exact hz x (by omega)
section MLINE2
variable {l : Launch} {G : rG} {h : rH} {i : Nat → Int32} {j : Nat → Int64} {f bR bB s fa : Nat → Int32} {nb : Nat → Nat → Option Nat} {wi : Nat}
set_option maxRecDepth 100000 in
set_option maxHeartbeats 400000 in
theorem k_X12_layLine (hg : mgAt G h i j f bR bB nb wi) {n : Nat} (hn32 : n ≤ 32) (hsn : i 1 * i 2 = nI n) {mir : Bool} (hmi : i 3 = if mir then 1 else 0) (hfa : h[39]? = some (.inl (gA G 0, 32, .inl fa))) {c w : Nat} (hc : c < 32) (hw : w < 4) (hfw : fa c = nI w) (hs : h[44]? = some (.inl (gA G 1, 32, .inl s))) (hs0 : ∀ d, n ≤ d → s d = 0) {s' : Nat → Int32} (hL : lineM nb (blM bR bB wi) mir w c = some s') : rM l G 2 mX12_layLine 0 0 [.ref (gN G + 38), .int (nI c)] h (fun h' v => v = none ∧ h'[44]? = some (.inl (gA G 1, 32, .inl s')) ∧ fr h h' [44]) := by
  have hm := hg.1
  have hcl : (nI c).toNatClampNeg = c := nI_clamp (by omega)
  have vc : vp_in (nI c) 32 := vp_in_nI hc (by decide)
  refine rM_start (by decide) (Nat.le_of_ble_eq_true rfl) ?_
  have L : ∀ (r d : Nat) (s1 : Nat → Int32) (h1 : rH) (y : Int32) (o3 o4 : Option Value), d + r = n → y = nI d → (∀ x, x < d ∨ n ≤ x → s1 x = 0) → h1[44]? = some (.inl (gA G 1, 32, .inl s1)) → fr h h1 [44] → rW l G (rRm 2 0 0) mX12_layLine (rZ G (fun h' v => v = none ∧ h'[44]? = some (.inl (gA G 1, 32, .inl s')) ∧ fr h h' [44]) 0 0) 0 0 2 [some (.ref (gN G + 38)), some (.int (nI c)), some (.int y), o3, o4] [] h1 := by
    intro r
    induction r with
    | zero =>
      intro d s1 h1 y o3 o4 hd hy hz hs1 hfr
      subst hy
      have hdn : d = n := by omega
      subst hdn
      have hm1 := rg_fr hfr (by decide) hm
      have hfa1 := rg_fr hfr (by decide) hfa
      have hg1 := hg.fr hfr (by decide) (by decide) (by decide) (by decide)
      have hs10 : s1 = fun _ => 0 := funext fun x => hz x (by omega)
      subst hs10
      unfold lineM at hL
      cases ha : alongM nb (blM bR bB wi) w 33 c (fun _ => 0) with
      | none => rw [ha] at hL; cases hL
      | some es =>
        obtain ⟨e, s2⟩ := es
        rw [ha] at hL
        dsimp only at hL
        have he32 : e < 32 := along_lt hg.2.2.2.2.1 hw 33 c _ _ _ hc ha
        have hN := noI_neg (hg.2.2.2.2.1 e w he32 hw).2
        refine a_iload_n 3 dX12_layLine_2 rfl rfl ?_
        refine a_aload_n 4 dX12_layLine_3 rfl rfl ?_
        refine a_callV ok_X12_seats ln_X12_114 in_X12_seats rfl 7 dX12_layLine_4 rfl (k_X12_seats hm1) (by repeat (first | assumption | (refine rg_ne (by first | decide | omega) ?_) | apply rg_eq | refine rg_fr (by assumption) (by first | decide | (simp; omega)) ?_)) rfl rfl rfl ⟨(Nat.le_of_ble_eq_true rfl), (Nat.le_of_ble_eq_true rfl)⟩ (Nat.le_of_ble_eq_true rfl) ⟨(Nat.le_of_ble_eq_true rfl), (Nat.le_of_ble_eq_true rfl)⟩ ?_
        rintro _ _ ⟨rfl, rfl⟩
        refine a_icmp_ge 23 10 dX12_layLine_7 rfl (by decide) (fun c_7 => ?_) (fun c_7 => absurd (by rw [hsn]; exact Int32.le_refl _) c_7)
        refine a_aload_n 24 dX12_layLine_23 rfl rfl ?_
        refine a_get fd_X12_7 rfl 27 dX12_layLine_24 rfl (by repeat (first | assumption | (refine rg_ne (by first | decide | omega) ?_) | apply rg_eq | refine rg_fr (by assumption) (by first | decide | (simp; omega)) ?_)) rfl ?_
        refine a_iload_n 28 dX12_layLine_27 rfl rfl ?_
        refine a_iaload 29 dX12_layLine_28 rfl (by repeat (first | assumption | (refine rg_ne (by first | decide | omega) ?_) | apply rg_eq | refine rg_fr (by assumption) (by first | decide | (simp; omega)) ?_)) vc ?_
        rw [hcl, hfw]
        refine a_istore_n 30 dX12_layLine_29 rfl (by decide) ?_
        refine a_aload_n 31 dX12_layLine_30 rfl rfl ?_
        refine a_iload_n 32 dX12_layLine_31 rfl rfl ?_
        refine a_iload_n 33 dX12_layLine_32 rfl rfl ?_
        refine a_callV ok_X12_goAlong ln_X12_172 in_X12_goAlong rfl 36 dX12_layLine_33 rfl (k_X12_goAlong hg1 hs1 hc hw ha) (by repeat (first | assumption | (refine rg_ne (by first | decide | omega) ?_) | apply rg_eq | refine rg_fr (by assumption) (by first | decide | (simp; omega)) ?_)) rfl rfl rfl ⟨(Nat.le_of_ble_eq_true rfl), (Nat.le_of_ble_eq_true rfl)⟩ (Nat.le_of_ble_eq_true rfl) ⟨(Nat.le_of_ble_eq_true rfl), (Nat.le_of_ble_eq_true rfl)⟩ ?_
        rintro h2 v ⟨rfl, hs2, hf2⟩
        refine a_istore_n 37 dX12_layLine_36 rfl (by decide) ?_
        refine a_aload_n 38 dX12_layLine_37 rfl rfl ?_
        refine a_get fd_X12_153 rfl 41 dX12_layLine_38 rfl (by repeat (first | assumption | (refine rg_ne (by first | decide | omega) ?_) | apply rg_eq | refine rg_fr (by assumption) (by first | decide | (simp; omega)) ?_)) rfl ?_
        refine a_if_eq 62 44 dX12_layLine_41 rfl (by decide) (fun c_41 => ?_) (fun c_41 => ?_)
        · refine a_iconst (0) 63 dX12_layLine_62 rfl (by decide) ?_
          refine a_istore 65 dX12_layLine_63 rfl (by decide) ?_
          refine a_iload 67 dX12_layLine_65 rfl rfl ?_
          refine a_if_eq 86 70 dX12_layLine_67 rfl (by decide) (fun c_67 => ?_) (fun c_67 => absurd rfl c_67)
          exact a_return dX12_layLine_86 rfl (Nat.le_of_ble_eq_true rfl) (Nat.le_of_ble_eq_true rfl) (by rw [if_neg (fun q => absurd (by rw [hmi, q.1] at c_41; exact c_41) (by decide))] at hL; cases hL; exact ⟨rfl, hs2, fr_trans hfr hf2 (fun _ q => q)⟩)
        · refine a_iload_n 45 dX12_layLine_44 rfl rfl ?_
          refine a_iconst (2) 46 dX12_layLine_45 rfl (by decide) ?_
          refine a_icmp_ge 62 49 dX12_layLine_46 rfl (by decide) (fun c_46 => ?_) (fun c_46 => ?_)
          · refine a_iconst (0) 63 dX12_layLine_62 rfl (by decide) ?_
            refine a_istore 65 dX12_layLine_63 rfl (by decide) ?_
            refine a_iload 67 dX12_layLine_65 rfl rfl ?_
            refine a_if_eq 86 70 dX12_layLine_67 rfl (by decide) (fun c_67 => ?_) (fun c_67 => absurd rfl c_67)
            exact a_return dX12_layLine_86 rfl (Nat.le_of_ble_eq_true rfl) (Nat.le_of_ble_eq_true rfl) (by rw [if_neg (fun q => absurd c_46 (nI_ge (a := w) (b := 2) q.2.1 (by omega)))] at hL; cases hL; exact ⟨rfl, hs2, fr_trans hfr hf2 (fun _ q => q)⟩)
          · refine a_aload_n 50 dX12_layLine_49 rfl rfl ?_
            refine a_iload_n 51 dX12_layLine_50 rfl rfl ?_
            refine a_iload_n 52 dX12_layLine_51 rfl rfl ?_
            refine a_callV ok_X12_nextTo ln_X12_166 in_X12_nextTo rfl 55 dX12_layLine_52 rfl (k_X12_nextN (by exact rg_fr hf2 (by decide) hm1) (by exact rg_fr hf2 (by decide) hg1.2.2.2.1) hg1.2.2.2.2.1 he32 hw) (by repeat (first | assumption | (refine rg_ne (by first | decide | omega) ?_) | apply rg_eq | refine rg_fr (by assumption) (by first | decide | (simp; omega)) ?_)) rfl rfl rfl ⟨(Nat.le_of_ble_eq_true rfl), (Nat.le_of_ble_eq_true rfl)⟩ (Nat.le_of_ble_eq_true rfl) ⟨(Nat.le_of_ble_eq_true rfl), (Nat.le_of_ble_eq_true rfl)⟩ ?_
            rintro _ _ ⟨rfl, rfl⟩
            refine a_if_ge 62 58 dX12_layLine_55 rfl (by decide) (fun c_55 => ?_) (fun c_55 => ?_)
            · refine a_iconst (0) 63 dX12_layLine_62 rfl (by decide) ?_
              refine a_istore 65 dX12_layLine_63 rfl (by decide) ?_
              refine a_iload 67 dX12_layLine_65 rfl rfl ?_
              refine a_if_eq 86 70 dX12_layLine_67 rfl (by decide) (fun c_67 => ?_) (fun c_67 => absurd rfl c_67)
              exact a_return dX12_layLine_86 rfl (Nat.le_of_ble_eq_true rfl) (Nat.le_of_ble_eq_true rfl) (by rw [if_neg (fun q => absurd c_55 (by rw [q.2.2]; decide))] at hL; cases hL; exact ⟨rfl, hs2, fr_trans hfr hf2 (fun _ q => q)⟩)
            · refine a_iconst (1) 59 dX12_layLine_58 rfl (by decide) ?_
              refine a_goto 63 dX12_layLine_59 (by decide) ?_
              refine a_istore 65 dX12_layLine_63 rfl (by decide) ?_
              refine a_iload 67 dX12_layLine_65 rfl rfl ?_
              refine a_if_eq 86 70 dX12_layLine_67 rfl (by decide) (fun c_67 => absurd c_67 (by decide)) (fun c_67 => ?_)
              have b1 : mir = true := by cases mir with | false => exact absurd hmi c_41 | true => rfl
              have b2 : w < 2 := by have := nI_le (a := 2) (b := w); rcases Nat.lt_or_ge w 2 with q | q; exact q; exact absurd (this q (by omega)) c_46
              have b3 : nb e w = none := hN.mp (Int32.not_le.mp c_55)
              rw [if_pos ⟨b1, b2, b3⟩] at hL
              obtain ⟨⟨e2, s3⟩, hL2, hL3⟩ := Option.map_eq_some_iff.mp hL
              subst hL3
              refine a_aload_n 71 dX12_layLine_70 rfl rfl ?_
              refine a_get fd_X12_26 rfl 74 dX12_layLine_71 rfl (by repeat (first | assumption | (refine rg_ne (by first | decide | omega) ?_) | apply rg_eq | refine rg_fr (by assumption) (by first | decide | (simp; omega)) ?_)) rfl ?_
              refine a_iload_n 75 dX12_layLine_74 rfl rfl ?_
              refine a_iconst (1) 76 dX12_layLine_75 rfl (by decide) ?_
              refine a_bastore 77 dX12_layLine_76 rfl (by repeat (first | assumption | (refine rg_ne (by first | decide | omega) ?_) | apply rg_eq | refine rg_fr (by assumption) (by first | decide | (simp; omega)) ?_)) vc ?_
              rw [hcl]
              refine a_aload_n 78 dX12_layLine_77 rfl rfl ?_
              refine a_iload_n 79 dX12_layLine_78 rfl rfl ?_
              refine a_iconst (1) 80 dX12_layLine_79 rfl (by decide) ?_
              refine a_iload_n 81 dX12_layLine_80 rfl rfl ?_
              refine a_isub 82 dX12_layLine_81 rfl ?_
              rw [show (1 : Int32) - nI w = nI (1 - w) from pk_sub (a := 1) (by omega)]
              refine a_callV ok_X12_goAlong ln_X12_172 in_X12_goAlong rfl 85 dX12_layLine_82 rfl (k_X12_goAlong (hg1.fr (fr_set hf2 (by decide)) (by decide) (by decide) (by decide) (by decide)) (by exact rg_eq hs2) he32 (by omega) hL2) (by repeat (first | assumption | (refine rg_ne (by first | decide | omega) ?_) | apply rg_eq | refine rg_fr (by assumption) (by first | decide | (simp; omega)) ?_)) rfl rfl rfl ⟨(Nat.le_of_ble_eq_true rfl), (Nat.le_of_ble_eq_true rfl)⟩ (Nat.le_of_ble_eq_true rfl) ⟨(Nat.le_of_ble_eq_true rfl), (Nat.le_of_ble_eq_true rfl)⟩ ?_
              rintro h3 v ⟨rfl, hs3, hf3⟩
              refine a_pop 86 dX12_layLine_85 rfl rfl ?_
              exact a_return dX12_layLine_86 rfl (Nat.le_of_ble_eq_true rfl) (Nat.le_of_ble_eq_true rfl) ⟨rfl, hs3, fr_trans hfr (fr_trans (fr_set hf2 (by decide)) hf3 (fun _ q => q)) (fun _ q => q)⟩
    | succ r ih =>
      intro d s1 h1 y o3 o4 hd hy hz hs1 hfr
      subst hy
      have hm1 := rg_fr hfr (by decide) hm
      have vd : vp_in (nI d) 32 := vp_in_nI (by omega) (by decide)
      refine a_iload_n 3 dX12_layLine_2 rfl rfl ?_
      refine a_aload_n 4 dX12_layLine_3 rfl rfl ?_
      refine a_callV ok_X12_seats ln_X12_114 in_X12_seats rfl 7 dX12_layLine_4 rfl (k_X12_seats hm1) (by repeat (first | assumption | (refine rg_ne (by first | decide | omega) ?_) | apply rg_eq | refine rg_fr (by assumption) (by first | decide | (simp; omega)) ?_)) rfl rfl rfl ⟨(Nat.le_of_ble_eq_true rfl), (Nat.le_of_ble_eq_true rfl)⟩ (Nat.le_of_ble_eq_true rfl) ⟨(Nat.le_of_ble_eq_true rfl), (Nat.le_of_ble_eq_true rfl)⟩ ?_
      rintro _ _ ⟨rfl, rfl⟩
      refine a_icmp_ge 23 10 dX12_layLine_7 rfl (by decide) (fun c_7 => absurd c_7 (by rw [hsn]; exact nI_ge (a := d) (b := n) (by omega) (by omega))) (fun c_7 => ?_)
      refine a_aload_n 11 dX12_layLine_10 rfl rfl ?_
      refine a_get fd_X12_26 rfl 14 dX12_layLine_11 rfl (by repeat (first | assumption | (refine rg_ne (by first | decide | omega) ?_) | apply rg_eq | refine rg_fr (by assumption) (by first | decide | (simp; omega)) ?_)) rfl ?_
      refine a_iload_n 15 dX12_layLine_14 rfl rfl ?_
      refine a_iconst (0) 16 dX12_layLine_15 rfl (by decide) ?_
      refine a_bastore 17 dX12_layLine_16 rfl (by repeat (first | assumption | (refine rg_ne (by first | decide | omega) ?_) | apply rg_eq | refine rg_fr (by assumption) (by first | decide | (simp; omega)) ?_)) vd ?_
      refine a_iinc _ 20 dX12_layLine_17 rfl rfl (by decide) rfl ?_
      refine a_goto 2 dX12_layLine_20 (by decide) ?_
      exact ih (d + 1) (upd s1 d (vp_nar .boolean 0)) _ _ _ _ (by omega) (nI_1 d) (clr_step hz) (by rw [nI_clamp (by omega)]; exact rg_eq hs1) (fr_set hfr (by decide))
  refine a_iconst (0) 1 dX12_layLine_0 rfl (by decide) ?_
  refine a_istore_n 2 dX12_layLine_1 rfl (by decide) ?_
  exact L n 0 s _ _ _ _ (by omega) rfl (fun x hx => hs0 x (by omega)) hs (fr_refl _ _)
end MLINE2
