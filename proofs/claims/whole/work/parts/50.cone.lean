/-! THE CLASS's calls on seats, ones and yawns, on -/
def aOfSeat (T : Tn) (c d : Int32) : Int32 := match oT T.n c with
  | some k => if d.toInt = 0 then nI (T.face k) else if d.toInt = 1 then noI (firstN (fun x => decide (T.se x = k)) T.m 0) else if d.toInt = 2 then bsN (fun x => seeB T.1 k x) 31 else -2
  | none => -1
def aLine (T : Tn) (c d : Int32) : Int32 := match oT T.n c, oT T.n d with
  | some k, some x => if seeB T.1 k x then 1 else 0
  | _, _ => -1
abbrev lastT (T : Tn) : Nat := if T.ny = 0 then 0 else T.ym (T.ny - 1)
def aYawn (T : Tn) (c d : Int32) : Int32 := match oT T.m d with
  | some x => (match oT 600 c with
    | some a => if a < lastT T then -3 else if T.ny = 24 then -4 else nI T.ny
    | none => -2)
  | none => -1
def tYawn (T : Tn) (c d : Int32) : YawT := match oT T.m d with
  | some x => (match oT 600 c with
    | some a => if a < lastT T then T.2.2.2.1 else if T.ny = 24 then T.2.2.2.1 else (T.ny + 1, (fun q => if q = T.ny then a else T.ym q), (fun q => if q = T.ny then x else T.yw q))
    | none => T.2.2.2.1)
  | none => T.2.2.2.1
def aBack (T : Tn) (c : Int32) : Int32 := match oT (T.ny + 1) c with
  | some k => nI (T.ny - k)
  | none => -2
def tBack (T : Tn) (c : Int32) : YawT := match oT (T.ny + 1) c with
  | some k => (T.ny - k, T.ym, T.yw)
  | none => T.2.2.2.1
section CONE2
variable {l : Launch} {G : rG} {h : rH} {T : Tn}
set_option maxRecDepth 100000 in
set_option maxHeartbeats 400000 in
theorem k_X11_seenBy (q : cAt G h T) (o : T.ok) {x : Nat} (hx : x < T.m) : rM l G 3 mX11_seenBy 0 0 [.ref (gN G + 0), .ref (gN G + T.pa x)] h (rV h (some (.int (bsN (fun y => decide (T.sees x y)) T.m)))) := by
  have hm := o.m12
  have hy := q.1
  refine rM_start (by decide) (Nat.le_of_ble_eq_true rfl) ?_
  have L : ∀ (r i : Nat) (s y : Int32) (o4 : Option Value), i + r = T.m → s = bsN (fun y => decide (T.sees x y)) i → y = nI i → rW l G (rRm 3 0 0) mX11_seenBy (rZ G (rV h (some (.int (bsN (fun y => decide (T.sees x y)) T.m)))) 0 0) 0 0 4 [some (.ref (gN G + 0)), some (.ref (gN G + T.pa x)), some (.int s), some (.int y), o4] [] h := by
    intro r
    induction r with
    | zero =>
      intro i s y o4 hi hs hy2
      subst hs; subst hy2
      have e : i = T.m := by omega
      subst e
      refine a_iload_n 5 dX11_seenBy_4 rfl rfl ?_
      refine a_aload_n 6 dX11_seenBy_5 rfl rfl ?_
      refine a_get fd_X11_98 rfl 9 dX11_seenBy_6 rfl (by repeat (first | assumption | (refine rg_ne (by first | decide | omega) ?_) | apply rg_eq | refine rg_fr (by assumption) (by first | decide | (simp; omega)) ?_)) rfl ?_
      refine a_icmp_ge 46 12 dX11_seenBy_9 rfl (by decide) (fun c_9 => ?_) (fun c_9 => absurd (Int32.le_refl _) c_9)
      refine a_iload_n 47 dX11_seenBy_46 rfl rfl ?_
      exact a_ireturn dX11_seenBy_47 rfl rfl (Nat.le_of_ble_eq_true rfl) (Nat.le_of_ble_eq_true rfl) ⟨rfl, rfl⟩
    | succ r ih =>
      intro i s y o4 hi hs hy2
      subst hs; subst hy2
      have him : i < T.m := by omega
      refine a_iload_n 5 dX11_seenBy_4 rfl rfl ?_
      refine a_aload_n 6 dX11_seenBy_5 rfl rfl ?_
      refine a_get fd_X11_98 rfl 9 dX11_seenBy_6 rfl (by repeat (first | assumption | (refine rg_ne (by first | decide | omega) ?_) | apply rg_eq | refine rg_fr (by assumption) (by first | decide | (simp; omega)) ?_)) rfl ?_
      refine a_icmp_ge 46 12 dX11_seenBy_9 rfl (by decide) (fun c_9 => absurd c_9 (nI_ge (a := i) (b := T.m) (by omega) (by omega))) (fun c_9 => ?_)
      refine a_aload_n 13 dX11_seenBy_12 rfl rfl ?_
      refine a_iload_n 14 dX11_seenBy_13 rfl rfl ?_
      refine a_callV ok_X11_personAt ln_X11_152 in_X11_personAt rfl 17 dX11_seenBy_14 rfl (c_person q o him) (by repeat (first | assumption | (refine rg_ne (by first | decide | omega) ?_) | apply rg_eq | refine rg_fr (by assumption) (by first | decide | (simp; omega)) ?_)) rfl rfl rfl ⟨(Nat.le_of_ble_eq_true rfl), (Nat.le_of_ble_eq_true rfl)⟩ (Nat.le_of_ble_eq_true rfl) ⟨(Nat.le_of_ble_eq_true rfl), (Nat.le_of_ble_eq_true rfl)⟩ ?_
      rintro _ _ ⟨rfl, rfl⟩
      refine a_astore 19 dX11_seenBy_17 rfl (by decide) ?_
      refine a_aload 21 dX11_seenBy_19 rfl rfl ?_
      refine a_ifnull 24 dX11_seenBy_21 rfl ?_
      refine a_aload_n 25 dX11_seenBy_24 rfl rfl ?_
      refine a_aload_n 26 dX11_seenBy_25 rfl rfl ?_
      refine a_aload 28 dX11_seenBy_26 rfl rfl ?_
      refine a_callV ok_X11_sees ln_X11_377 in_X11_sees rfl 31 dX11_seenBy_28 rfl (c_sees q o hx him) (by repeat (first | assumption | (refine rg_ne (by first | decide | omega) ?_) | apply rg_eq | refine rg_fr (by assumption) (by first | decide | (simp; omega)) ?_)) rfl rfl rfl ⟨(Nat.le_of_ble_eq_true rfl), (Nat.le_of_ble_eq_true rfl)⟩ (Nat.le_of_ble_eq_true rfl) ⟨(Nat.le_of_ble_eq_true rfl), (Nat.le_of_ble_eq_true rfl)⟩ ?_
      rintro _ _ ⟨rfl, rfl⟩
      refine a_if_eq 40 34 dX11_seenBy_31 rfl (by decide) (fun c_31 => ?_) (fun c_31 => ?_)
      · refine a_iinc _ 43 dX11_seenBy_40 rfl rfl (by decide) rfl ?_
        refine a_goto 4 dX11_seenBy_43 (by decide) ?_
        exact ih (i + 1) _ _ _ (by omega) (by rw [bsN, decide_eq_false (b_eq0.mp c_31)]; exact Int32.or_zero.symm) (nI_1 i)
      · refine a_iload_n 35 dX11_seenBy_34 rfl rfl ?_
        refine a_iconst (1) 36 dX11_seenBy_35 rfl (by decide) ?_
        refine a_iload_n 37 dX11_seenBy_36 rfl rfl ?_
        refine a_ishl 38 dX11_seenBy_37 rfl ?_
        refine a_ior 39 dX11_seenBy_38 rfl ?_
        refine a_istore_n 40 dX11_seenBy_39 rfl (by decide) ?_
        refine a_iinc _ 43 dX11_seenBy_40 rfl rfl (by decide) rfl ?_
        refine a_goto 4 dX11_seenBy_43 (by decide) ?_
        exact ih (i + 1) _ _ _ (by omega) (bsN_t (P := fun y => decide (T.sees x y)) (decide_eq_true (Decidable.not_not.mp (fun q => c_31 (if_neg q))))) (nI_1 i)
  refine a_iconst (0) 1 dX11_seenBy_0 rfl (by decide) ?_
  refine a_istore_n 2 dX11_seenBy_1 rfl (by decide) ?_
  refine a_iconst (0) 3 dX11_seenBy_2 rfl (by decide) ?_
  refine a_istore_n 4 dX11_seenBy_3 rfl (by decide) ?_
  exact L T.m 0 _ _ _ (by omega) rfl rfl
set_option maxRecDepth 100000 in
set_option maxHeartbeats 400000 in
theorem k_X11_heardBy (q : cAt G h T) (o : T.ok) {x : Nat} (hx : x < T.m) : rM l G 3 mX11_heardBy 0 0 [.ref (gN G + 0), .ref (gN G + T.pa x)] h (rV h (some (.int (bsN (fun y => hearM T.nb (T.se x) (T.se y)) T.m)))) := by
  have hm := o.m12
  have hy := q.1
  refine rM_start (by decide) (Nat.le_of_ble_eq_true rfl) ?_
  have L : ∀ (r i : Nat) (s y : Int32) (o4 : Option Value), i + r = T.m → s = bsN (fun y => hearM T.nb (T.se x) (T.se y)) i → y = nI i → rW l G (rRm 3 0 0) mX11_heardBy (rZ G (rV h (some (.int (bsN (fun y => hearM T.nb (T.se x) (T.se y)) T.m)))) 0 0) 0 0 4 [some (.ref (gN G + 0)), some (.ref (gN G + T.pa x)), some (.int s), some (.int y), o4] [] h := by
    intro r
    induction r with
    | zero =>
      intro i s y o4 hi hs hy2
      subst hs; subst hy2
      have e : i = T.m := by omega
      subst e
      refine a_iload_n 5 dX11_heardBy_4 rfl rfl ?_
      refine a_aload_n 6 dX11_heardBy_5 rfl rfl ?_
      refine a_get fd_X11_98 rfl 9 dX11_heardBy_6 rfl (by repeat (first | assumption | (refine rg_ne (by first | decide | omega) ?_) | apply rg_eq | refine rg_fr (by assumption) (by first | decide | (simp; omega)) ?_)) rfl ?_
      refine a_icmp_ge 46 12 dX11_heardBy_9 rfl (by decide) (fun c_9 => ?_) (fun c_9 => absurd (Int32.le_refl _) c_9)
      refine a_iload_n 47 dX11_heardBy_46 rfl rfl ?_
      exact a_ireturn dX11_heardBy_47 rfl rfl (Nat.le_of_ble_eq_true rfl) (Nat.le_of_ble_eq_true rfl) ⟨rfl, rfl⟩
    | succ r ih =>
      intro i s y o4 hi hs hy2
      subst hs; subst hy2
      have him : i < T.m := by omega
      refine a_iload_n 5 dX11_heardBy_4 rfl rfl ?_
      refine a_aload_n 6 dX11_heardBy_5 rfl rfl ?_
      refine a_get fd_X11_98 rfl 9 dX11_heardBy_6 rfl (by repeat (first | assumption | (refine rg_ne (by first | decide | omega) ?_) | apply rg_eq | refine rg_fr (by assumption) (by first | decide | (simp; omega)) ?_)) rfl ?_
      refine a_icmp_ge 46 12 dX11_heardBy_9 rfl (by decide) (fun c_9 => absurd c_9 (nI_ge (a := i) (b := T.m) (by omega) (by omega))) (fun c_9 => ?_)
      refine a_aload_n 13 dX11_heardBy_12 rfl rfl ?_
      refine a_iload_n 14 dX11_heardBy_13 rfl rfl ?_
      refine a_callV ok_X11_personAt ln_X11_152 in_X11_personAt rfl 17 dX11_heardBy_14 rfl (c_person q o him) (by repeat (first | assumption | (refine rg_ne (by first | decide | omega) ?_) | apply rg_eq | refine rg_fr (by assumption) (by first | decide | (simp; omega)) ?_)) rfl rfl rfl ⟨(Nat.le_of_ble_eq_true rfl), (Nat.le_of_ble_eq_true rfl)⟩ (Nat.le_of_ble_eq_true rfl) ⟨(Nat.le_of_ble_eq_true rfl), (Nat.le_of_ble_eq_true rfl)⟩ ?_
      rintro _ _ ⟨rfl, rfl⟩
      refine a_astore 19 dX11_heardBy_17 rfl (by decide) ?_
      refine a_aload 21 dX11_heardBy_19 rfl rfl ?_
      refine a_ifnull 24 dX11_heardBy_21 rfl ?_
      refine a_aload_n 25 dX11_heardBy_24 rfl rfl ?_
      refine a_aload_n 26 dX11_heardBy_25 rfl rfl ?_
      refine a_aload 28 dX11_heardBy_26 rfl rfl ?_
      refine a_callV ok_X11_hears ln_X11_381 in_X11_hears rfl 31 dX11_heardBy_28 rfl (c_hears q o hx him) (by repeat (first | assumption | (refine rg_ne (by first | decide | omega) ?_) | apply rg_eq | refine rg_fr (by assumption) (by first | decide | (simp; omega)) ?_)) rfl rfl rfl ⟨(Nat.le_of_ble_eq_true rfl), (Nat.le_of_ble_eq_true rfl)⟩ (Nat.le_of_ble_eq_true rfl) ⟨(Nat.le_of_ble_eq_true rfl), (Nat.le_of_ble_eq_true rfl)⟩ ?_
      rintro _ _ ⟨rfl, rfl⟩
      refine a_if_eq 40 34 dX11_heardBy_31 rfl (by decide) (fun c_31 => ?_) (fun c_31 => ?_)
      · refine a_iinc _ 43 dX11_heardBy_40 rfl rfl (by decide) rfl ?_
        refine a_goto 4 dX11_heardBy_43 (by decide) ?_
        exact ih (i + 1) _ _ _ (by omega) (by rw [bsN, Bool.eq_false_iff.mpr (b_eq0.mp c_31)]; exact Int32.or_zero.symm) (nI_1 i)
      · refine a_iload_n 35 dX11_heardBy_34 rfl rfl ?_
        refine a_iconst (1) 36 dX11_heardBy_35 rfl (by decide) ?_
        refine a_iload_n 37 dX11_heardBy_36 rfl rfl ?_
        refine a_ishl 38 dX11_heardBy_37 rfl ?_
        refine a_ior 39 dX11_heardBy_38 rfl ?_
        refine a_istore_n 40 dX11_heardBy_39 rfl (by decide) ?_
        refine a_iinc _ 43 dX11_heardBy_40 rfl rfl (by decide) rfl ?_
        refine a_goto 4 dX11_heardBy_43 (by decide) ?_
        exact ih (i + 1) _ _ _ (by omega) (bsN_t (P := fun y => hearM T.nb (T.se x) (T.se y)) (Decidable.not_not.mp (fun q => c_31 (if_neg q)))) (nI_1 i)
  refine a_iconst (0) 1 dX11_heardBy_0 rfl (by decide) ?_
  refine a_istore_n 2 dX11_heardBy_1 rfl (by decide) ?_
  refine a_iconst (0) 3 dX11_heardBy_2 rfl (by decide) ?_
  refine a_istore_n 4 dX11_heardBy_3 rfl (by decide) ?_
  exact L T.m 0 _ _ _ (by omega) rfl rfl
theorem kd_cases (o : T.ok) {x : Nat} (hx : x < T.m) : T.kd x = 0 ∨ T.kd x = 1 ∨ T.kd x = 2 := by
  have := o.kd3 hx
  omega
theorem pa_61 (q : cAt G h T) {x : Nat} (hx : x < T.m) : 61 ≤ T.pa x := by
  obtain ⟨p, -, h2⟩ := q.2.2.2.2.1
  exact (h2 x hx).2.1
end CONE2
