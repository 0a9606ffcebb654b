/-! THE CLASS: blind, move, one -/
abbrev sitT (T : Tn) (c : Nat) : Option Nat := firstN (fun x => decide (T.se x = c)) T.m 0
def aBlind (T : Tn) (c d x : Int32) : Int32 := match oT T.n c, oT T.n d with
  | some k, some e => if hearM T.nb k e then (if T.B (gpN T.wi k e) = x then 0 else 1) else -2
  | _, _ => -1
abbrev setB (T : Tn) (B : Nat → Int32) : Tn := ((T.nb, B, T.wi, T.lo, T.mir, T.face), T.2)
def tBlind (T : Tn) (c d x : Int32) : Tn := match oT T.n c, oT T.n d with
  | some k, some e => if hearM T.nb k e then setB T (upd T.B (gpN T.wi k e) x) else T
  | _, _ => T
def aMove (T : Tn) (c d : Int32) : Int32 := match oT T.m c, oT T.n d with
  | some x, some k => if sitT T k = none then nI (T.se x) else -3
  | _, _ => -1
abbrev setO (T : Tn) (O : OneT) : Tn := (T.1, O, T.2.2)
def tMove (T : Tn) (c d : Int32) : Tn := match oT T.m c, oT T.n d with
  | some x, some k => if sitT T k = none then setO T (T.m, T.kd, (fun y => if y = x then k else T.se y), T.sl, T.ki, T.pa) else T
  | _, _ => T
def aOne (T : Tn) (k c s i : Int32) : Int32 := match oT T.n c with
  | some e => (match oT 3 k, oT 10 s, oT 10 i with
    | some _, some _, some _ => if sitT T e = none then (if T.m = 12 then -4 else nI T.m) else -3
    | _, _, _ => -2)
  | none => -1
abbrev newOne (T : Tn) (k e s i hl : Nat) : Tn := setO T (T.m + 1, (fun x => if x = T.m then k else T.kd x), (fun x => if x = T.m then e else T.se x), (fun x => if x = T.m then s else T.sl x), (fun x => if x = T.m then i else T.ki x), (fun x => if x = T.m then hl else T.pa x))
def tOne (T : Tn) (k c s i : Int32) (hl : Nat) : Tn := match oT T.n c with
  | some e => (match oT 3 k, oT 10 s, oT 10 i with
    | some k, some s, some i => if sitT T e = none then (if T.m = 12 then T else newOne T k e s i hl) else T
    | _, _, _ => T)
  | none => T
theorem upd_same {B : Nat → Int32} {g : Nat} {x : Int32} (e : B g = x) : upd B g x = B := by
  funext j
  by_cases z : j = g
  · subst z; rw [pk_us]; exact e.symm
  · exact pk_un z
theorem sum_upd {B : Nat → Int32} {g : Nat} {x : Int32} : ∀ k, (k ≤ g → sumN (fun j => if upd B g x j = 0 then 0 else 1) k = sumN (fun j => if B j = 0 then 0 else 1) k) ∧ (g < k → sumN (fun j => if upd B g x j = 0 then 0 else 1) k + (if B g = 0 then 0 else 1) = sumN (fun j => if B j = 0 then 0 else 1) k + (if x = 0 then 0 else 1))
  | 0 => ⟨fun _ => rfl, fun h => absurd h (by omega)⟩
  | k + 1 => by
    obtain ⟨h1, h2⟩ := sum_upd (B := B) (g := g) (x := x) k
    refine ⟨fun h => ?_, fun h => ?_⟩
    · rw [sumN, sumN, h1 (by omega), pk_un (by omega)]
    · rw [sumN, sumN]
      by_cases e : k = g
      · subst e
        rw [h1 (Nat.le_refl _), pk_us]
        omega
      · have := h2 (by omega)
        rw [pk_un e]
        omega
theorem sum_bl {B : Nat → Int32} (hB : isB B) {g : Nat} (hg : g < 64) {x : Int32} (hx : x = 0 ∨ x = 1) (hne : ¬ B g = x) : nI (sumN (fun j => if B j = 0 then 0 else 1) 64) + (if x = 0 then -1 else 1) = nI (sumN (fun j => if upd B g x j = 0 then 0 else 1) 64) := by
  have h := (sum_upd (B := B) (g := g) (x := x) 64).2 hg
  rcases hx with e | e
  · subst e
    rw [if_neg hne, if_pos rfl] at h
    rw [if_pos rfl, show sumN (fun j => if B j = 0 then 0 else 1) 64 = sumN (fun j => if upd B g 0 j = 0 then 0 else 1) 64 + 1 by omega]
    exact pk_m1 _
  · subst e
    have hb : B g = 0 := by
      rcases hB g with z | z
      · exact z
      · exact absurd z hne
    rw [if_pos hb, if_neg (by decide)] at h
    rw [if_neg (by decide)]
    have e2 : sumN (fun j => if upd B g 1 j = 0 then 0 else 1) 64 = sumN (fun j => if B j = 0 then 0 else 1) 64 + 1 := by omega
    rw [e2]
    exact nI_1 _
section CBLIND
variable {l : Launch} {G : rG} {h : rH} {T : Tn}
theorem all_B {h' : rH} {B' L' f s : Nat → Int32} (q : cAll G h T) (hc : ccAt G h' (nI T.wi) (nI T.n) (bI T.mir) (nI (sumN (fun g => if B' g = 0 then 0 else 1) 64)) f s L' B') (hl : isLns (nI T.wi) (nI T.n) (bI T.mir) B' f L' T.n) (hfc : ∀ c, c < T.n → f c = nI (T.face c)) (hs : ∀ c, c < T.n → s c = noI (sitT T c)) (hf : fr h h' [7, 10, 11]) : cAll G h' (setB T B') := by
  obtain ⟨⟨h0, h1, h2, h3, h4, h5, h6, h7⟩, q2, q3⟩ := q
  have hk := kp_fr hf
  have z := cTxt.kp ⟨h1, h2⟩ hk (by decide)
  exact ⟨⟨kp_get hk (by decide) h0, z.1, z.2, ⟨f, s, L', hc, hfc, hs, fun c hc => by rw [hl c hc, hfc c hc]⟩, h4.kp hk (by decide), h5.kp hk (by decide), h6.kp hk (by decide), h7.kp hk (by decide)⟩, q2.kp hk (by decide), q3.kp hk (by decide)⟩
set_option maxRecDepth 100000 in
set_option maxHeartbeats 400000 in
theorem c_blind (q : cAll G h T) (o : T.ok) (c d x : Int32) (hx : x = 0 ∨ x = 1) : rM l G 12 mX11_blind 0 0 [.ref (gN G + 0), .int c, .int d, .int x] h (fun h' v => v = some (.int (aBlind T c d x)) ∧ cAll G h' (tBlind T c d x) ∧ kp h h' cL) := by
  have hn := o.n32
  have hy := q.1.1
  obtain ⟨fc, s, L, h7, h8, h9, h10, h11, hfc, hs, hL⟩ := c_car q.1
  rcases oT_cases (n := T.n) (Nat.lt_of_le_of_lt hn (by decide)) c with ⟨e, hc⟩ | ⟨k, hk, rfl, e⟩
  · have ea : aBlind T c d x = -1 := by unfold aBlind; rw [e]
    have et : tBlind T c d x = T := by unfold tBlind; rw [e]
    refine rM_start (by decide) (Nat.le_of_ble_eq_true rfl) ?_
    refine a_aload_n 1 dX11_blind_0 rfl rfl ?_
    refine a_get fd_X11_34 rfl 4 dX11_blind_1 rfl (by repeat (first | assumption | (refine rg_ne (by first | decide | omega) ?_) | apply rg_eq | refine rg_fr (by assumption) (by first | decide | (simp; omega)) ?_)) rfl ?_
    refine a_iload_n 5 dX11_blind_4 rfl rfl ?_
    refine a_callV ok_X1_isSeat ln_X11_108 in_X1_isSeat rfl 8 dX11_blind_5 rfl (c_seat q.1 c) (by repeat (first | assumption | (refine rg_ne (by first | decide | omega) ?_) | apply rg_eq | refine rg_fr (by assumption) (by first | decide | (simp; omega)) ?_)) rfl rfl rfl ⟨(Nat.le_of_ble_eq_true rfl), (Nat.le_of_ble_eq_true rfl)⟩ (Nat.le_of_ble_eq_true rfl) ⟨(Nat.le_of_ble_eq_true rfl), (Nat.le_of_ble_eq_true rfl)⟩ ?_
    rintro _ _ ⟨rfl, rfl⟩
    refine a_if_eq 22 11 dX11_blind_8 rfl (by decide) (fun c_8 => ?_) (fun c_8 => absurd (if_neg hc) c_8)
    refine a_iconst (-1) 23 dX11_blind_22 rfl (by decide) ?_
    exact a_ireturn dX11_blind_23 rfl rfl (Nat.le_of_ble_eq_true rfl) (Nat.le_of_ble_eq_true rfl) ⟨by rw [ea], by rw [et]; exact q, fun _ _ _ => rfl⟩
  · rcases oT_cases (n := T.n) (Nat.lt_of_le_of_lt hn (by decide)) d with ⟨e2, hd⟩ | ⟨y, hyn, rfl, e2⟩
    · have ea : aBlind T (nI k) d x = -1 := by unfold aBlind; rw [e, e2]
      have et : tBlind T (nI k) d x = T := by unfold tBlind; rw [e, e2]
      refine rM_start (by decide) (Nat.le_of_ble_eq_true rfl) ?_
      refine a_aload_n 1 dX11_blind_0 rfl rfl ?_
      refine a_get fd_X11_34 rfl 4 dX11_blind_1 rfl (by repeat (first | assumption | (refine rg_ne (by first | decide | omega) ?_) | apply rg_eq | refine rg_fr (by assumption) (by first | decide | (simp; omega)) ?_)) rfl ?_
      refine a_iload_n 5 dX11_blind_4 rfl rfl ?_
      refine a_callV ok_X1_isSeat ln_X11_108 in_X1_isSeat rfl 8 dX11_blind_5 rfl (c_seat q.1 (nI k)) (by repeat (first | assumption | (refine rg_ne (by first | decide | omega) ?_) | apply rg_eq | refine rg_fr (by assumption) (by first | decide | (simp; omega)) ?_)) rfl rfl rfl ⟨(Nat.le_of_ble_eq_true rfl), (Nat.le_of_ble_eq_true rfl)⟩ (Nat.le_of_ble_eq_true rfl) ⟨(Nat.le_of_ble_eq_true rfl), (Nat.le_of_ble_eq_true rfl)⟩ ?_
      rintro _ _ ⟨rfl, rfl⟩
      refine a_if_eq 22 11 dX11_blind_8 rfl (by decide) (fun c_8 => absurd c_8 (by rw [if_pos (oT_yes hk (by omega))]; decide)) (fun c_8 => ?_)
      refine a_aload_n 12 dX11_blind_11 rfl rfl ?_
      refine a_get fd_X11_34 rfl 15 dX11_blind_12 rfl (by repeat (first | assumption | (refine rg_ne (by first | decide | omega) ?_) | apply rg_eq | refine rg_fr (by assumption) (by first | decide | (simp; omega)) ?_)) rfl ?_
      refine a_iload_n 16 dX11_blind_15 rfl rfl ?_
      refine a_callV ok_X1_isSeat ln_X11_108 in_X1_isSeat rfl 19 dX11_blind_16 rfl (c_seat q.1 d) (by repeat (first | assumption | (refine rg_ne (by first | decide | omega) ?_) | apply rg_eq | refine rg_fr (by assumption) (by first | decide | (simp; omega)) ?_)) rfl rfl rfl ⟨(Nat.le_of_ble_eq_true rfl), (Nat.le_of_ble_eq_true rfl)⟩ (Nat.le_of_ble_eq_true rfl) ⟨(Nat.le_of_ble_eq_true rfl), (Nat.le_of_ble_eq_true rfl)⟩ ?_
      rintro _ _ ⟨rfl, rfl⟩
      refine a_if_ne 24 22 dX11_blind_19 rfl (by decide) (fun c_19 => absurd (if_neg hd) c_19) (fun c_19 => ?_)
      refine a_iconst (-1) 23 dX11_blind_22 rfl (by decide) ?_
      exact a_ireturn dX11_blind_23 rfl rfl (Nat.le_of_ble_eq_true rfl) (Nat.le_of_ble_eq_true rfl) ⟨by rw [ea], by rw [et]; exact q, fun _ _ _ => rfl⟩
    · have ea : aBlind T (nI k) (nI y) x = if hearM T.nb k y then (if T.B (gpN T.wi k y) = x then 0 else 1) else -2 := by unfold aBlind; rw [e, e2]
      have et : tBlind T (nI k) (nI y) x = if hearM T.nb k y then setB T (upd T.B (gpN T.wi k y) x) else T := by unfold tBlind; rw [e, e2]
      have hk32 : k < 32 := Nat.lt_of_lt_of_le hk hn
      have hy32 : y < 32 := Nat.lt_of_lt_of_le hyn hn
      have hg64 : gpN T.wi k y < 64 := by unfold gpN; split <;> omega
      have eg : gapW (nI T.wi) (nI T.n) (nI k) (nI y) = if hearD T.wi T.lo k y then nI (gpN T.wi k y) else -9 := gap_D T.wi o.1.1 T.lo o.1.2.1 k hk y hyn
      by_cases hh : hearM T.nb k y = true
      · rw [if_pos hh] at ea et
        have eg2 : gapW (nI T.wi) (nI T.n) (nI k) (nI y) = nI (gpN T.wi k y) := by rw [eg, if_pos ((hear_D o hk).symm.trans hh)]
        by_cases hb : T.B (gpN T.wi k y) = x
        · skip
          refine rM_start (by decide) (Nat.le_of_ble_eq_true rfl) ?_
          refine a_aload_n 1 dX11_blind_0 rfl rfl ?_
          refine a_get fd_X11_34 rfl 4 dX11_blind_1 rfl (by repeat (first | assumption | (refine rg_ne (by first | decide | omega) ?_) | apply rg_eq | refine rg_fr (by assumption) (by first | decide | (simp; omega)) ?_)) rfl ?_
          refine a_iload_n 5 dX11_blind_4 rfl rfl ?_
          refine a_callV ok_X1_isSeat ln_X11_108 in_X1_isSeat rfl 8 dX11_blind_5 rfl (c_seat q.1 (nI k)) (by repeat (first | assumption | (refine rg_ne (by first | decide | omega) ?_) | apply rg_eq | refine rg_fr (by assumption) (by first | decide | (simp; omega)) ?_)) rfl rfl rfl ⟨(Nat.le_of_ble_eq_true rfl), (Nat.le_of_ble_eq_true rfl)⟩ (Nat.le_of_ble_eq_true rfl) ⟨(Nat.le_of_ble_eq_true rfl), (Nat.le_of_ble_eq_true rfl)⟩ ?_
          rintro _ _ ⟨rfl, rfl⟩
          refine a_if_eq 22 11 dX11_blind_8 rfl (by decide) (fun c_8 => absurd c_8 (by rw [if_pos (oT_yes hk (by omega))]; decide)) (fun c_8 => ?_)
          refine a_aload_n 12 dX11_blind_11 rfl rfl ?_
          refine a_get fd_X11_34 rfl 15 dX11_blind_12 rfl (by repeat (first | assumption | (refine rg_ne (by first | decide | omega) ?_) | apply rg_eq | refine rg_fr (by assumption) (by first | decide | (simp; omega)) ?_)) rfl ?_
          refine a_iload_n 16 dX11_blind_15 rfl rfl ?_
          refine a_callV ok_X1_isSeat ln_X11_108 in_X1_isSeat rfl 19 dX11_blind_16 rfl (c_seat q.1 (nI y)) (by repeat (first | assumption | (refine rg_ne (by first | decide | omega) ?_) | apply rg_eq | refine rg_fr (by assumption) (by first | decide | (simp; omega)) ?_)) rfl rfl rfl ⟨(Nat.le_of_ble_eq_true rfl), (Nat.le_of_ble_eq_true rfl)⟩ (Nat.le_of_ble_eq_true rfl) ⟨(Nat.le_of_ble_eq_true rfl), (Nat.le_of_ble_eq_true rfl)⟩ ?_
          rintro _ _ ⟨rfl, rfl⟩
          refine a_if_ne 24 22 dX11_blind_19 rfl (by decide) (fun c_19 => ?_) (fun c_19 => absurd c_19 (by rw [if_pos (oT_yes hyn (by omega))]; decide))
          refine a_aload_n 25 dX11_blind_24 rfl rfl ?_
          refine a_get fd_X11_34 rfl 28 dX11_blind_25 rfl (by repeat (first | assumption | (refine rg_ne (by first | decide | omega) ?_) | apply rg_eq | refine rg_fr (by assumption) (by first | decide | (simp; omega)) ?_)) rfl ?_
          refine a_iload_n 29 dX11_blind_28 rfl rfl ?_
          refine a_iload_n 30 dX11_blind_29 rfl rfl ?_
          refine a_callV ok_X1_gapBetween ln_X11_127 in_X1_gapBetween rfl 33 dX11_blind_30 rfl (k_X1_gapBetween h7 (nI k) (nI y)) (by repeat (first | assumption | (refine rg_ne (by first | decide | omega) ?_) | apply rg_eq | refine rg_fr (by assumption) (by first | decide | (simp; omega)) ?_)) rfl rfl rfl ⟨(Nat.le_of_ble_eq_true rfl), (Nat.le_of_ble_eq_true rfl)⟩ (Nat.le_of_ble_eq_true rfl) ⟨(Nat.le_of_ble_eq_true rfl), (Nat.le_of_ble_eq_true rfl)⟩ ?_
          rintro _ _ ⟨rfl, rfl⟩
          rw [eg2]
          refine a_istore 35 dX11_blind_33 rfl (by decide) ?_
          refine a_iload 37 dX11_blind_35 rfl rfl ?_
          refine a_if_ge 43 40 dX11_blind_37 rfl (by decide) (fun c_37 => ?_) (fun c_37 => absurd (nI_pos' (by omega)) c_37)
          refine a_aload_n 44 dX11_blind_43 rfl rfl ?_
          refine a_get fd_X11_34 rfl 47 dX11_blind_44 rfl (by repeat (first | assumption | (refine rg_ne (by first | decide | omega) ?_) | apply rg_eq | refine rg_fr (by assumption) (by first | decide | (simp; omega)) ?_)) rfl ?_
          refine a_iload 49 dX11_blind_47 rfl rfl ?_
          refine a_iload_n 50 dX11_blind_49 rfl rfl ?_
          refine a_callV ok_X1_setBlind ln_X11_131 in_X1_setBlind rfl 53 dX11_blind_50 rfl (k_X1_setBlind ⟨h7, h8, h9, h10, h11⟩ (Nat.le_trans (Nat.le_refl _) hn) hg64 hx) (by repeat (first | assumption | (refine rg_ne (by first | decide | omega) ?_) | apply rg_eq | refine rg_fr (by assumption) (by first | decide | (simp; omega)) ?_)) rfl rfl rfl ⟨(Nat.le_of_ble_eq_true rfl), (Nat.le_of_ble_eq_true rfl)⟩ (Nat.le_of_ble_eq_true rfl) ⟨(Nat.le_of_ble_eq_true rfl), (Nat.le_of_ble_eq_true rfl)⟩ ?_
          rintro h2 _ (⟨-, rfl, rfl⟩ | ⟨hb2, -, -, -⟩)
          rotate_left
          · exact absurd hb hb2
          refine a_if_eq 60 56 dX11_blind_53 rfl (by decide) (fun c_53 => ?_) (fun c_53 => absurd rfl c_53)
          refine a_iconst (0) 61 dX11_blind_60 rfl (by decide) ?_
          exact a_ireturn dX11_blind_61 rfl rfl (Nat.le_of_ble_eq_true rfl) (Nat.le_of_ble_eq_true rfl) ⟨by rw [ea, if_pos hb], by rw [et, upd_same hb]; exact q, fun _ _ _ => rfl⟩
        · skip
          refine rM_start (by decide) (Nat.le_of_ble_eq_true rfl) ?_
          refine a_aload_n 1 dX11_blind_0 rfl rfl ?_
          refine a_get fd_X11_34 rfl 4 dX11_blind_1 rfl (by repeat (first | assumption | (refine rg_ne (by first | decide | omega) ?_) | apply rg_eq | refine rg_fr (by assumption) (by first | decide | (simp; omega)) ?_)) rfl ?_
          refine a_iload_n 5 dX11_blind_4 rfl rfl ?_
          refine a_callV ok_X1_isSeat ln_X11_108 in_X1_isSeat rfl 8 dX11_blind_5 rfl (c_seat q.1 (nI k)) (by repeat (first | assumption | (refine rg_ne (by first | decide | omega) ?_) | apply rg_eq | refine rg_fr (by assumption) (by first | decide | (simp; omega)) ?_)) rfl rfl rfl ⟨(Nat.le_of_ble_eq_true rfl), (Nat.le_of_ble_eq_true rfl)⟩ (Nat.le_of_ble_eq_true rfl) ⟨(Nat.le_of_ble_eq_true rfl), (Nat.le_of_ble_eq_true rfl)⟩ ?_
          rintro _ _ ⟨rfl, rfl⟩
          refine a_if_eq 22 11 dX11_blind_8 rfl (by decide) (fun c_8 => absurd c_8 (by rw [if_pos (oT_yes hk (by omega))]; decide)) (fun c_8 => ?_)
          refine a_aload_n 12 dX11_blind_11 rfl rfl ?_
          refine a_get fd_X11_34 rfl 15 dX11_blind_12 rfl (by repeat (first | assumption | (refine rg_ne (by first | decide | omega) ?_) | apply rg_eq | refine rg_fr (by assumption) (by first | decide | (simp; omega)) ?_)) rfl ?_
          refine a_iload_n 16 dX11_blind_15 rfl rfl ?_
          refine a_callV ok_X1_isSeat ln_X11_108 in_X1_isSeat rfl 19 dX11_blind_16 rfl (c_seat q.1 (nI y)) (by repeat (first | assumption | (refine rg_ne (by first | decide | omega) ?_) | apply rg_eq | refine rg_fr (by assumption) (by first | decide | (simp; omega)) ?_)) rfl rfl rfl ⟨(Nat.le_of_ble_eq_true rfl), (Nat.le_of_ble_eq_true rfl)⟩ (Nat.le_of_ble_eq_true rfl) ⟨(Nat.le_of_ble_eq_true rfl), (Nat.le_of_ble_eq_true rfl)⟩ ?_
          rintro _ _ ⟨rfl, rfl⟩
          refine a_if_ne 24 22 dX11_blind_19 rfl (by decide) (fun c_19 => ?_) (fun c_19 => absurd c_19 (by rw [if_pos (oT_yes hyn (by omega))]; decide))
          refine a_aload_n 25 dX11_blind_24 rfl rfl ?_
          refine a_get fd_X11_34 rfl 28 dX11_blind_25 rfl (by repeat (first | assumption | (refine rg_ne (by first | decide | omega) ?_) | apply rg_eq | refine rg_fr (by assumption) (by first | decide | (simp; omega)) ?_)) rfl ?_
          refine a_iload_n 29 dX11_blind_28 rfl rfl ?_
          refine a_iload_n 30 dX11_blind_29 rfl rfl ?_
          refine a_callV ok_X1_gapBetween ln_X11_127 in_X1_gapBetween rfl 33 dX11_blind_30 rfl (k_X1_gapBetween h7 (nI k) (nI y)) (by repeat (first | assumption | (refine rg_ne (by first | decide | omega) ?_) | apply rg_eq | refine rg_fr (by assumption) (by first | decide | (simp; omega)) ?_)) rfl rfl rfl ⟨(Nat.le_of_ble_eq_true rfl), (Nat.le_of_ble_eq_true rfl)⟩ (Nat.le_of_ble_eq_true rfl) ⟨(Nat.le_of_ble_eq_true rfl), (Nat.le_of_ble_eq_true rfl)⟩ ?_
          rintro _ _ ⟨rfl, rfl⟩
          rw [eg2]
          refine a_istore 35 dX11_blind_33 rfl (by decide) ?_
          refine a_iload 37 dX11_blind_35 rfl rfl ?_
          refine a_if_ge 43 40 dX11_blind_37 rfl (by decide) (fun c_37 => ?_) (fun c_37 => absurd (nI_pos' (by omega)) c_37)
          refine a_aload_n 44 dX11_blind_43 rfl rfl ?_
          refine a_get fd_X11_34 rfl 47 dX11_blind_44 rfl (by repeat (first | assumption | (refine rg_ne (by first | decide | omega) ?_) | apply rg_eq | refine rg_fr (by assumption) (by first | decide | (simp; omega)) ?_)) rfl ?_
          refine a_iload 49 dX11_blind_47 rfl rfl ?_
          refine a_iload_n 50 dX11_blind_49 rfl rfl ?_
          refine a_callV ok_X1_setBlind ln_X11_131 in_X1_setBlind rfl 53 dX11_blind_50 rfl (k_X1_setBlind ⟨h7, h8, h9, h10, h11⟩ (Nat.le_trans (Nat.le_refl _) hn) hg64 hx) (by repeat (first | assumption | (refine rg_ne (by first | decide | omega) ?_) | apply rg_eq | refine rg_fr (by assumption) (by first | decide | (simp; omega)) ?_)) rfl rfl rfl ⟨(Nat.le_of_ble_eq_true rfl), (Nat.le_of_ble_eq_true rfl)⟩ (Nat.le_of_ble_eq_true rfl) ⟨(Nat.le_of_ble_eq_true rfl), (Nat.le_of_ble_eq_true rfl)⟩ ?_
          rintro h2 _ (⟨hb2, -, -⟩ | ⟨-, rfl, ⟨L2, hc2, hl2⟩, hf2⟩)
          · exact absurd hb2 hb
          rw [sum_bl o.1.2.2.2.1 hg64 hx hb] at hc2
          have qb := all_B q hc2 hl2 hfc hs hf2
          refine a_if_eq 60 56 dX11_blind_53 rfl (by decide) (fun c_53 => absurd c_53 (by decide)) (fun c_53 => ?_)
          refine a_iconst (1) 57 dX11_blind_56 rfl (by decide) ?_
          refine a_goto 61 dX11_blind_57 (by decide) ?_
          exact a_ireturn dX11_blind_61 rfl rfl (Nat.le_of_ble_eq_true rfl) (Nat.le_of_ble_eq_true rfl) ⟨by rw [ea, if_neg hb], by rw [et]; exact qb, kp_mono (kp_fr hf2) (by decide)⟩
      · rw [if_neg hh] at ea et
        have eg2 : gapW (nI T.wi) (nI T.n) (nI k) (nI y) = -9 := by rw [eg, if_neg (fun z => hh ((hear_D o hk).trans z))]
        refine rM_start (by decide) (Nat.le_of_ble_eq_true rfl) ?_
        refine a_aload_n 1 dX11_blind_0 rfl rfl ?_
        refine a_get fd_X11_34 rfl 4 dX11_blind_1 rfl (by repeat (first | assumption | (refine rg_ne (by first | decide | omega) ?_) | apply rg_eq | refine rg_fr (by assumption) (by first | decide | (simp; omega)) ?_)) rfl ?_
        refine a_iload_n 5 dX11_blind_4 rfl rfl ?_
        refine a_callV ok_X1_isSeat ln_X11_108 in_X1_isSeat rfl 8 dX11_blind_5 rfl (c_seat q.1 (nI k)) (by repeat (first | assumption | (refine rg_ne (by first | decide | omega) ?_) | apply rg_eq | refine rg_fr (by assumption) (by first | decide | (simp; omega)) ?_)) rfl rfl rfl ⟨(Nat.le_of_ble_eq_true rfl), (Nat.le_of_ble_eq_true rfl)⟩ (Nat.le_of_ble_eq_true rfl) ⟨(Nat.le_of_ble_eq_true rfl), (Nat.le_of_ble_eq_true rfl)⟩ ?_
        rintro _ _ ⟨rfl, rfl⟩
        refine a_if_eq 22 11 dX11_blind_8 rfl (by decide) (fun c_8 => absurd c_8 (by rw [if_pos (oT_yes hk (by omega))]; decide)) (fun c_8 => ?_)
        refine a_aload_n 12 dX11_blind_11 rfl rfl ?_
        refine a_get fd_X11_34 rfl 15 dX11_blind_12 rfl (by repeat (first | assumption | (refine rg_ne (by first | decide | omega) ?_) | apply rg_eq | refine rg_fr (by assumption) (by first | decide | (simp; omega)) ?_)) rfl ?_
        refine a_iload_n 16 dX11_blind_15 rfl rfl ?_
        refine a_callV ok_X1_isSeat ln_X11_108 in_X1_isSeat rfl 19 dX11_blind_16 rfl (c_seat q.1 (nI y)) (by repeat (first | assumption | (refine rg_ne (by first | decide | omega) ?_) | apply rg_eq | refine rg_fr (by assumption) (by first | decide | (simp; omega)) ?_)) rfl rfl rfl ⟨(Nat.le_of_ble_eq_true rfl), (Nat.le_of_ble_eq_true rfl)⟩ (Nat.le_of_ble_eq_true rfl) ⟨(Nat.le_of_ble_eq_true rfl), (Nat.le_of_ble_eq_true rfl)⟩ ?_
        rintro _ _ ⟨rfl, rfl⟩
        refine a_if_ne 24 22 dX11_blind_19 rfl (by decide) (fun c_19 => ?_) (fun c_19 => absurd c_19 (by rw [if_pos (oT_yes hyn (by omega))]; decide))
        refine a_aload_n 25 dX11_blind_24 rfl rfl ?_
        refine a_get fd_X11_34 rfl 28 dX11_blind_25 rfl (by repeat (first | assumption | (refine rg_ne (by first | decide | omega) ?_) | apply rg_eq | refine rg_fr (by assumption) (by first | decide | (simp; omega)) ?_)) rfl ?_
        refine a_iload_n 29 dX11_blind_28 rfl rfl ?_
        refine a_iload_n 30 dX11_blind_29 rfl rfl ?_
        refine a_callV ok_X1_gapBetween ln_X11_127 in_X1_gapBetween rfl 33 dX11_blind_30 rfl (k_X1_gapBetween h7 (nI k) (nI y)) (by repeat (first | assumption | (refine rg_ne (by first | decide | omega) ?_) | apply rg_eq | refine rg_fr (by assumption) (by first | decide | (simp; omega)) ?_)) rfl rfl rfl ⟨(Nat.le_of_ble_eq_true rfl), (Nat.le_of_ble_eq_true rfl)⟩ (Nat.le_of_ble_eq_true rfl) ⟨(Nat.le_of_ble_eq_true rfl), (Nat.le_of_ble_eq_true rfl)⟩ ?_
        rintro _ _ ⟨rfl, rfl⟩
        rw [eg2]
        refine a_istore 35 dX11_blind_33 rfl (by decide) ?_
        refine a_iload 37 dX11_blind_35 rfl rfl ?_
        refine a_if_ge 43 40 dX11_blind_37 rfl (by decide) (fun c_37 => absurd c_37 (by decide)) (fun c_37 => ?_)
        refine a_bipush (-2) 42 dX11_blind_40 rfl (by decide) ?_
        exact a_ireturn dX11_blind_42 rfl rfl (Nat.le_of_ble_eq_true rfl) (Nat.le_of_ble_eq_true rfl) ⟨by rw [ea], by rw [et]; exact q, fun _ _ _ => rfl⟩
end CBLIND
