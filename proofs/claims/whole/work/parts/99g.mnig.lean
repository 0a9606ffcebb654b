/-! THE MODEL: night -/
theorem nigX_late {T : Tn} {z : Nat} {code : Nat → Int32} {a b : Nat} (ha : 599 < a) : ∀ (x : Nat) (s : nigS), nigX T z code a b x s = s
  | 0, _ => rfl
  | x + 1, s => by rw [nigX_s, if_neg (fun u => by have := u.1.1; omega)]; exact nigX_late ha x s
theorem nigT_late {T : Tn} {z : Nat} {code : Nat → Int32} {F t : Nat} {s : nigS} (ha : 599 < F + t) : ∀ k, nigT T z code F (t + k) s = nigT T z code F t s
  | 0 => rfl
  | k + 1 => by rw [show t + (k + 1) = (t + k) + 1 from rfl, nigT, nigX_late (by omega)]; exact nigT_late ha k
theorem in999 (c : Int32) : ((0 : Int64) ≤ c.toInt64 ∧ c.toInt64 ≤ 999) ↔ (0 ≤ c ∧ c ≤ 999) := by
  rw [in64c c 999 (by decide) rfl, i_le, i_lt, i_le]
  show (0 ≤ c.toInt ∧ c.toInt < 1000) ↔ (0 ≤ c.toInt ∧ c.toInt ≤ 999)
  omega
section MNIG
variable {l : Launch} {G : rG} {h : rH} {T : Tn} {j : Nat → Int64}
abbrev nigQ (G : rG) (h : rH) (X : Int32 × Tn) : rH → Option Value → Prop := fun h' v => v = some (.int X.1) ∧ mAll G h' X.2 ∧ kp h h' mL
def nigO (l : Launch) (G : rG) (h : rH) (T : Tn) (j : Nat → Int64) (z s K F : Nat) (code : Nat → Int32) (a2 a3 a4 a5 : Int32) (r : Nat) : Prop := ∀ (t : Nat) (i1 : Nat → Int32) (h1 : rH) (a12 a13 : Option Value), t + r = K → mX G h1 (setY T (nigT T z code F t (T.2.2.2.1, 0)).1) i1 j → (nigT T z code F t (T.2.2.2.1, 0)).2 ≤ t * T.m → fr h h1 [38, 44, 51, 52] → rW l G (rRm 12 0 0) mX12_night (rZ G (nigQ G h (nI (nigT T z code F K (T.2.2.2.1, 0)).2, setY (setFT T 0 T.tr) (nigT T z code F K (T.2.2.2.1, 0)).1)) 0 0) 0 0 141 [some (.ref (gN G + 38)), some (.int (nI z)), some (.int a2), some (.int a3), some (.int a4), some (.int a5), some (.int 0), some (.int (nI s)), some (.int (nI K)), some (.int (nI F)), some (.int (nI (nigT T z code F t (T.2.2.2.1, 0)).2)), some (.int (nI t)), a12, a13] [] h1
theorem nig_add {h2 h' : rH} {Y : YawT} {i1 : Nat → Int32} {a x : Nat} {f g : Nat → Int32} (q : mX G h2 (setY T Y) i1 j) (hy : Y.1 < 24) (ha : a < 600) (hx : x < T.m) (h51 : h2[51]? = some (.inl (gA G 0, 24, .inl f))) (hf1 : ∀ p, p < Y.1 → f p = nI (Y.2.1 p) ∧ Y.2.1 p < 600) (h52 : h2[52]? = some (.inl (gA G 0, 24, .inl g))) (hg1 : ∀ p, p < Y.1 → g p = nI (Y.2.2 p) ∧ Y.2.2 p < T.m) (e38 : h'[38]? = some (mo G (upd i1 23 (nI (Y.1 + 1))) j)) (e51 : h'[51]? = some (.inl (gA G 0, 24, .inl (upd f Y.1 (nI a))))) (e52 : h'[52]? = some (.inl (gA G 0, 24, .inl (upd g Y.1 (nI x))))) (hf : fr h2 h' [38, 51, 52]) : mX G h' (setY T (addY Y a x)) (upd i1 23 (nI (Y.1 + 1))) j :=
  (mX_Y (Y := addY Y a x) (i' := upd i1 23 (nI (Y.1 + 1))) q e38 rfl (by show Y.1 + 1 ≤ 24; omega) ⟨rfl, rfl, rfl, rfl, rfl, rfl, rfl⟩ e51 (yaw_f hf1 ha) e52 (yaw_f hg1 hx) hf :)
set_option maxRecDepth 100000 in
set_option maxHeartbeats 400000 in
theorem nigI (o : T.ok) {z s K F N : Nat} {code w : Nat → Int32} {a2 a3 a4 a5 : Int32} (hz : z < T.nl) (hsN : s + N ≤ 240) (hN : N ≤ 60) (hK : K * T.m ≤ N) (hF : F < 601) (hcd : ∀ p, p < N → w (s + p) = code p) (h59 : h[59]? = some (.inl (gA G 0, 240, .inl w))) {r0 t : Nat} (IH : nigO l G h T j z s K F code a2 a3 a4 a5 r0) (ht : t + (r0 + 1) = K) (hFt : F + t ≤ 599) (hc0 : (nigT T z code F t (T.2.2.2.1, 0)).2 ≤ t * T.m) : ∀ (r x : Nat) (i1 : Nat → Int32) (h1 : rH) (a13 : Option Value), x + r = T.m → mX G h1 (setY T (nigX T z code (F + t) (t * T.m) x (nigT T z code F t (T.2.2.2.1, 0))).1) i1 j → (nigX T z code (F + t) (t * T.m) x (nigT T z code F t (T.2.2.2.1, 0))).2 ≤ t * T.m + x → fr h h1 [38, 44, 51, 52] → rW l G (rRm 12 0 0) mX12_night (rZ G (nigQ G h (nI (nigT T z code F K (T.2.2.2.1, 0)).2, setY (setFT T 0 T.tr) (nigT T z code F K (T.2.2.2.1, 0)).1)) 0 0) 0 0 162 [some (.ref (gN G + 38)), some (.int (nI z)), some (.int a2), some (.int a3), some (.int a4), some (.int a5), some (.int 0), some (.int (nI s)), some (.int (nI K)), some (.int (nI F)), some (.int (nI (nigX T z code (F + t) (t * T.m) x (nigT T z code F t (T.2.2.2.1, 0))).2)), some (.int (nI t)), some (.int (nI x)), a13] [] h1 := by
  have hm12 := o.m12
  have htm : t * T.m + T.m ≤ N := by
    have e : (t + 1) * T.m ≤ K * T.m := Nat.mul_le_mul_right _ (by omega)
    rw [Nat.succ_mul] at e
    omega
  intro r
  induction r with
  | zero =>
    intro x i1 h1 a13 hx q1 hc hf
    have exm : x = T.m := by omega
    subst exm
    have g15 : i1 15 = nI T.m := q1.2.1.2.1
    have q1' : mX G h1 (setY T (nigT T z code F (t + 1) (T.2.2.2.1, 0)).1) i1 j := q1
    have hm1 := q1.at
    refine a_iload 164 dX12_night_162 rfl rfl ?_
    refine a_aload_n 165 dX12_night_164 rfl rfl ?_
    refine a_get fd_X12_160 rfl 168 dX12_night_165 rfl (by repeat (first | assumption | (refine rg_ne (by first | decide | omega) ?_) | apply rg_eq | refine rg_fr (by assumption) (by first | decide | (simp; omega)) ?_)) rfl ?_
    rw [g15]
    refine a_icmp_ge 269 171 dX12_night_168 rfl (by decide) (fun c_168 => ?_) (fun c_168 => absurd (Int32.le_refl _) c_168)
    refine a_iinc _ 272 dX12_night_269 rfl rfl (by decide) rfl ?_
    refine a_goto 141 dX12_night_272 (by decide) ?_
    rw [show nI t + Int32.ofInt 1 = nI (t + 1) from nI_1 t]
    exact IH (t + 1) i1 h1 _ _ (by omega) q1' (by rw [Nat.succ_mul]; exact hc) hf
  | succ r ih =>
    intro x i1 h1 a13 hx q1 hc hf
    have hxm : x < T.m := by omega
    generalize hS : nigX T z code (F + t) (t * T.m) x (nigT T z code F t (T.2.2.2.1, 0)) = S at *
    have hm1 := q1.at
    have e59 := rg_fr hf (by decide) h59
    have g15 : i1 15 = nI T.m := q1.2.1.2.1
    have g23 : i1 23 = nI S.1.1 := q1.2.2.2.1.2.1
    have hy24 : S.1.1 ≤ 24 := q1.2.2.2.1.2.2.1
    have v197 : vp_in (nI (s + t * T.m + x)) 240 := vp_in_nI (by omega) (by decide)
    have c197 : w (nI (s + t * T.m + x)).toNatClampNeg = code (t * T.m + x) := by rw [nI_clamp (by omega), Nat.add_assoc]; exact hcd _ (by omega)
    have hsx := nigX_s (T := T) (z := z) (code := code) (a := F + t) (b := t * T.m) (x := x) (s := nigT T z code F t (T.2.2.2.1, 0))
    rw [hS] at hsx
    obtain ⟨-, -, -, ⟨f4, q4, q4'⟩, ⟨f5, q5, q5'⟩⟩ := id q1.2.2.2.1
    have hno : ¬ ((F + t ≤ 599 ∧ S.1.1 < 24) ∧ code (t * T.m + x) < nI (sumT (setY T S.1) z (F + t) x)) → nigX T z code (F + t) (t * T.m) (x + 1) (nigT T z code F t (T.2.2.2.1, 0)) = S := fun u => hsx.trans (if_neg u)
    have hye : ((F + t ≤ 599 ∧ S.1.1 < 24) ∧ code (t * T.m + x) < nI (sumT (setY T S.1) z (F + t) x)) → nigX T z code (F + t) (t * T.m) (x + 1) (nigT T z code F t (T.2.2.2.1, 0)) = (addY S.1 (F + t) x, S.2 + 1) := fun u => hsx.trans (if_pos u)
    have vy : S.1.1 < 24 → vp_in (nI S.1.1) 24 := fun u => vp_in_nI u (by decide)
    have ey : (nI S.1.1).toNatClampNeg = S.1.1 := nI_clamp (by omega)
    have h24 : ¬ (24 : Int32) ≤ nI S.1.1 → S.1.1 < 24 := fun u => Decidable.not_not.mp (fun v => u (nI_le (a := 24) (by omega) (by omega)))
    refine a_iload 164 dX12_night_162 rfl rfl ?_
    refine a_aload_n 165 dX12_night_164 rfl rfl ?_
    refine a_get fd_X12_160 rfl 168 dX12_night_165 rfl (by repeat (first | assumption | (refine rg_ne (by first | decide | omega) ?_) | apply rg_eq | refine rg_fr (by assumption) (by first | decide | (simp; omega)) ?_)) rfl ?_
    rw [g15]
    refine a_icmp_ge 269 171 dX12_night_168 rfl (by decide) (fun c_168 => absurd c_168 (nI_ge (a := x) (b := T.m) (by omega) (by omega))) (fun c_168 => ?_)
    refine a_aload_n 172 dX12_night_171 rfl rfl ?_
    refine a_get fd_X12_163 rfl 175 dX12_night_172 rfl (by repeat (first | assumption | (refine rg_ne (by first | decide | omega) ?_) | apply rg_eq | refine rg_fr (by assumption) (by first | decide | (simp; omega)) ?_)) rfl ?_
    refine a_bipush (24) 177 dX12_night_175 rfl (by decide) ?_
    rw [g23]
    refine a_icmp_ge 217 180 dX12_night_177 rfl (by decide) (fun c_177 => ?_) (fun c_177 => ?_)
    · refine a_iconst (0) 218 dX12_night_217 rfl (by decide) ?_
      refine a_istore 220 dX12_night_218 rfl (by decide) ?_
      refine a_iload 222 dX12_night_220 rfl rfl ?_
      refine a_if_eq 263 225 dX12_night_222 rfl (by decide) (fun c_222 => ?_) (fun c_222 => absurd rfl c_222)
      refine a_iinc _ 266 dX12_night_263 rfl rfl (by decide) rfl ?_
      refine a_goto 162 dX12_night_266 (by decide) ?_
      have eN := hno (fun u => nI_ge (a := S.1.1) (b := 24) u.1.2 (by omega) c_177)
      have K1 := ih (x + 1) i1 h1 (some (.int 0)) (by omega) (by rw [eN]; exact q1) (by rw [eN]; omega) hf
      rw [eN, ← nI_1] at K1
      exact K1
    · refine a_aload_n 181 dX12_night_180 rfl rfl ?_
      refine a_get fd_X12_71 rfl 184 dX12_night_181 rfl (by repeat (first | assumption | (refine rg_ne (by first | decide | omega) ?_) | apply rg_eq | refine rg_fr (by assumption) (by first | decide | (simp; omega)) ?_)) rfl ?_
      refine a_iload 186 dX12_night_184 rfl rfl ?_
      refine a_iload 188 dX12_night_186 rfl rfl ?_
      refine a_aload_n 189 dX12_night_188 rfl rfl ?_
      refine a_get fd_X12_160 rfl 192 dX12_night_189 rfl (by repeat (first | assumption | (refine rg_ne (by first | decide | omega) ?_) | apply rg_eq | refine rg_fr (by assumption) (by first | decide | (simp; omega)) ?_)) rfl ?_
      refine a_imul 193 dX12_night_192 rfl ?_
      rw [g15, pk_mul]
      refine a_iadd 194 dX12_night_193 rfl ?_
      rw [nI_add]
      refine a_iload 196 dX12_night_194 rfl rfl ?_
      refine a_iadd 197 dX12_night_196 rfl ?_
      rw [nI_add]
      refine a_iaload 198 dX12_night_197 rfl (by repeat (first | assumption | (refine rg_ne (by first | decide | omega) ?_) | apply rg_eq | refine rg_fr (by assumption) (by first | decide | (simp; omega)) ?_)) v197 ?_
      rw [c197]
      refine a_aload_n 199 dX12_night_198 rfl rfl ?_
      refine a_iload_n 200 dX12_night_199 rfl rfl ?_
      refine a_iload 202 dX12_night_200 rfl rfl ?_
      refine a_iload 204 dX12_night_202 rfl rfl ?_
      refine a_iadd 205 dX12_night_204 rfl ?_
      refine a_iload 207 dX12_night_205 rfl rfl ?_
      rw [nI_add]
      refine a_callV ok_X12_sumAt ln_X12_274 in_X12_sumAt rfl 210 dX12_night_207 rfl (m_sum (T := setY T S.1) q1 hz hxm (by omega)) (by repeat (first | assumption | (refine rg_ne (by first | decide | omega) ?_) | apply rg_eq | refine rg_fr (by assumption) (by first | decide | (simp; omega)) ?_)) rfl rfl rfl ⟨(Nat.le_of_ble_eq_true rfl), (Nat.le_of_ble_eq_true rfl)⟩ (Nat.le_of_ble_eq_true rfl) ⟨(Nat.le_of_ble_eq_true rfl), (Nat.le_of_ble_eq_true rfl)⟩ ?_
      rintro h2 v ⟨rfl, mc2, f2⟩
      have q2 := q1.line mc2 f2
      have hm2 := q2.at
      refine a_icmp_ge 217 213 dX12_night_210 rfl (by decide) (fun c_210 => ?_) (fun c_210 => ?_)
      · refine a_iconst (0) 218 dX12_night_217 rfl (by decide) ?_
        refine a_istore 220 dX12_night_218 rfl (by decide) ?_
        refine a_iload 222 dX12_night_220 rfl rfl ?_
        refine a_if_eq 263 225 dX12_night_222 rfl (by decide) (fun c_222 => ?_) (fun c_222 => absurd rfl c_222)
        refine a_iinc _ 266 dX12_night_263 rfl rfl (by decide) rfl ?_
        refine a_goto 162 dX12_night_266 (by decide) ?_
        have eN := hno (fun u => Int32.not_le.mpr u.2 c_210)
        have K1 := ih (x + 1) i1 h2 (some (.int 0)) (by omega) (by rw [eN]; exact q2) (by rw [eN]; omega) (fr_trans hf f2 (by decide))
        rw [eN, ← nI_1] at K1
        exact K1
      · refine a_iconst (1) 214 dX12_night_213 rfl (by decide) ?_
        refine a_goto 218 dX12_night_214 (by decide) ?_
        refine a_istore 220 dX12_night_218 rfl (by decide) ?_
        refine a_iload 222 dX12_night_220 rfl rfl ?_
        refine a_if_eq 263 225 dX12_night_222 rfl (by decide) (fun c_222 => absurd c_222 (by decide)) (fun c_222 => ?_)
        refine a_aload_n 226 dX12_night_225 rfl rfl ?_
        refine a_get fd_X12_47 rfl 229 dX12_night_226 rfl (by repeat (first | assumption | (refine rg_ne (by first | decide | omega) ?_) | apply rg_eq | refine rg_fr (by assumption) (by first | decide | (simp; omega)) ?_)) rfl ?_
        refine a_aload_n 230 dX12_night_229 rfl rfl ?_
        refine a_get fd_X12_163 rfl 233 dX12_night_230 rfl (by repeat (first | assumption | (refine rg_ne (by first | decide | omega) ?_) | apply rg_eq | refine rg_fr (by assumption) (by first | decide | (simp; omega)) ?_)) rfl ?_
        refine a_iload 235 dX12_night_233 rfl rfl ?_
        refine a_iload 237 dX12_night_235 rfl rfl ?_
        refine a_iadd 238 dX12_night_237 rfl ?_
        rw [nI_add, g23]
        refine a_iastore 239 dX12_night_238 rfl (by repeat (first | assumption | (refine rg_ne (by first | decide | omega) ?_) | apply rg_eq | refine rg_fr (by assumption) (by first | decide | (simp; omega)) ?_)) (vy (h24 c_177)) ?_
        refine a_aload_n 240 dX12_night_239 rfl rfl ?_
        refine a_get fd_X12_50 rfl 243 dX12_night_240 rfl (by repeat (first | assumption | (refine rg_ne (by first | decide | omega) ?_) | apply rg_eq | refine rg_fr (by assumption) (by first | decide | (simp; omega)) ?_)) rfl ?_
        refine a_aload_n 244 dX12_night_243 rfl rfl ?_
        refine a_get fd_X12_163 rfl 247 dX12_night_244 rfl (by repeat (first | assumption | (refine rg_ne (by first | decide | omega) ?_) | apply rg_eq | refine rg_fr (by assumption) (by first | decide | (simp; omega)) ?_)) rfl ?_
        refine a_iload 249 dX12_night_247 rfl rfl ?_
        rw [g23]
        refine a_iastore 250 dX12_night_249 rfl (by repeat (first | assumption | (refine rg_ne (by first | decide | omega) ?_) | apply rg_eq | refine rg_fr (by assumption) (by first | decide | (simp; omega)) ?_)) (vy (h24 c_177)) ?_
        refine a_aload_n 251 dX12_night_250 rfl rfl ?_
        refine a_dup 252 dX12_night_251 rfl rfl ?_
        refine a_get fd_X12_163 rfl 255 dX12_night_252 rfl (by repeat (first | assumption | (refine rg_ne (by first | decide | omega) ?_) | apply rg_eq | refine rg_fr (by assumption) (by first | decide | (simp; omega)) ?_)) rfl ?_
        refine a_iconst (1) 256 dX12_night_255 rfl (by decide) ?_
        refine a_iadd 257 dX12_night_256 rfl ?_
        rw [g23, nI_1]
        refine a_put fd_X12_163 cl_X12 rfl 260 dX12_night_257 rfl (by repeat (first | assumption | (refine rg_ne (by first | decide | omega) ?_) | apply rg_eq | refine rg_fr (by assumption) (by first | decide | (simp; omega)) ?_)) (Nat.le_of_ble_eq_true rfl) rfl rfl rfl ?_
        refine a_iinc _ 263 dX12_night_260 rfl rfl (by decide) rfl ?_
        refine a_iinc _ 266 dX12_night_263 rfl rfl (by decide) rfl ?_
        refine a_goto 162 dX12_night_266 (by decide) ?_
        have eN := hye ⟨⟨hFt, h24 c_177⟩, Int32.not_le.mp c_210⟩
        rw [ey]
        have F3 : fr h h2 [38, 44, 51, 52] := fr_trans hf f2 (by decide)
        have K1 := ih (x + 1) (upd i1 23 (nI (S.1.1 + 1))) _ (some (.int 1)) (by omega) (by rw [eN]; exact nig_add (f := f4) (g := f5) q2 (h24 c_177) (by omega) hxm (rg_fr f2 (by decide) q4) q4' (rg_fr f2 (by decide) q5) q5' (rg_eq (rg_ne (by decide) (rg_ne (by decide) hm2))) (rg_ne (by decide) (rg_ne (by decide) (rg_eq (rg_fr f2 (by decide) q4)))) (rg_ne (by decide) (rg_eq (rg_ne (by decide) (rg_fr f2 (by decide) q5)))) (fr_set (fr_set (fr_set (fr_refl _ _) (by decide)) (by decide)) (by decide))) (by rw [eN]; show S.2 + 1 ≤ _; omega) (fr_set (fr_set (fr_set F3 (by decide)) (by decide)) (by decide))
        rw [eN, ← nI_1 x] at K1
        rw [show nI S.2 + Int32.ofInt 1 = nI (S.2 + 1) from nI_1 _]
        exact K1
set_option maxRecDepth 100000 in
set_option maxHeartbeats 400000 in
theorem nigOL (o : T.ok) {z s K F N : Nat} {code w : Nat → Int32} {a2 a3 a4 a5 : Int32} (hz : z < T.nl) (hsN : s + N ≤ 240) (hN : N ≤ 60) (hK : K * T.m ≤ N) (hK2 : K ≤ 60) (hF : F < 601) (hcd : ∀ p, p < N → w (s + p) = code p) (h59 : h[59]? = some (.inl (gA G 0, 240, .inl w))) : ∀ r, nigO l G h T j z s K F code a2 a3 a4 a5 r := by
  intro r
  induction r with
  | zero =>
    intro t i1 h1 a12 a13 ht q1 hc hf
    have e : t = K := by omega
    subst e
    have hm1 := q1.at
    refine a_iload 143 dX12_night_141 rfl rfl ?_
    refine a_iload 145 dX12_night_143 rfl rfl ?_
    refine a_icmp_ge 275 148 dX12_night_145 rfl (by decide) (fun c_145 => ?_) (fun c_145 => absurd (Int32.le_refl _) c_145)
    refine a_aload_n 276 dX12_night_275 rfl rfl ?_
    refine a_iload 278 dX12_night_276 rfl rfl ?_
    refine a_callV ok_X12_refused ln_X12_91 in_X12_refused rfl 281 dX12_night_278 rfl (k_X12_refused hm1 _) (by repeat (first | assumption | (refine rg_ne (by first | decide | omega) ?_) | apply rg_eq | refine rg_fr (by assumption) (by first | decide | (simp; omega)) ?_)) rfl rfl rfl ⟨(Nat.le_of_ble_eq_true rfl), (Nat.le_of_ble_eq_true rfl)⟩ (Nat.le_of_ble_eq_true rfl) ⟨(Nat.le_of_ble_eq_true rfl), (Nat.le_of_ble_eq_true rfl)⟩ ?_
    rintro h2 v ⟨rfl, e2, f2⟩
    exact a_ireturn dX12_night_281 rfl rfl (Nat.le_of_ble_eq_true rfl) (Nat.le_of_ble_eq_true rfl) ⟨rfl, ⟨_, j, (mX_fa (T := setY T (nigT T z code F t (T.2.2.2.1, 0)).1) q1 e2 f2 :)⟩, kpm (fr_trans hf f2 (by decide)) (by decide)⟩
  | succ r ih =>
    intro t i1 h1 a12 a13 ht q1 hc hf
    have hm1 := q1.at
    have h599 : ¬ (599 : Int32) < nI (F + t) → F + t ≤ 599 := fun u => Decidable.not_not.mp (fun v => u (nI_lt (a := 599) (by omega) (by omega)))
    have hlate : (599 : Int32) < nI (F + t) → nigT T z code F K (T.2.2.2.1, 0) = nigT T z code F t (T.2.2.2.1, 0) := fun u => by
      rw [show K = t + (r + 1) by omega]
      exact nigT_late (by
        have v : nI 599 < nI (F + t) := u
        rw [nI_ltI (by omega) (by omega)] at v
        exact v) _
    refine a_iload 143 dX12_night_141 rfl rfl ?_
    refine a_iload 145 dX12_night_143 rfl rfl ?_
    refine a_icmp_ge 275 148 dX12_night_145 rfl (by decide) (fun c_145 => absurd c_145 (nI_ge (a := t) (b := K) (by omega) (by omega))) (fun c_145 => ?_)
    refine a_iload 150 dX12_night_148 rfl rfl ?_
    refine a_iload 152 dX12_night_150 rfl rfl ?_
    refine a_iadd 153 dX12_night_152 rfl ?_
    rw [nI_add]
    refine a_sipush (599) 156 dX12_night_153 rfl (by decide) ?_
    refine a_icmp_gt 275 159 dX12_night_156 rfl (by decide) (fun c_156 => ?_) (fun c_156 => ?_)
    · refine a_aload_n 276 dX12_night_275 rfl rfl ?_
      refine a_iload 278 dX12_night_276 rfl rfl ?_
      refine a_callV ok_X12_refused ln_X12_91 in_X12_refused rfl 281 dX12_night_278 rfl (k_X12_refused hm1 _) (by repeat (first | assumption | (refine rg_ne (by first | decide | omega) ?_) | apply rg_eq | refine rg_fr (by assumption) (by first | decide | (simp; omega)) ?_)) rfl rfl rfl ⟨(Nat.le_of_ble_eq_true rfl), (Nat.le_of_ble_eq_true rfl)⟩ (Nat.le_of_ble_eq_true rfl) ⟨(Nat.le_of_ble_eq_true rfl), (Nat.le_of_ble_eq_true rfl)⟩ ?_
      rintro h2 v ⟨rfl, e2, f2⟩
      exact a_ireturn dX12_night_281 rfl rfl (Nat.le_of_ble_eq_true rfl) (Nat.le_of_ble_eq_true rfl) (by rw [hlate c_156]; exact ⟨rfl, ⟨_, j, (mX_fa (T := setY T (nigT T z code F t (T.2.2.2.1, 0)).1) q1 e2 f2 :)⟩, kpm (fr_trans hf f2 (by decide)) (by decide)⟩)
    · refine a_iconst (0) 160 dX12_night_159 rfl (by decide) ?_
      refine a_istore 162 dX12_night_160 rfl (by decide) ?_
      exact nigI o hz hsN hN hK hF hcd h59 ih ht (h599 c_156) hc T.m 0 i1 h1 _ (by omega) q1 (by exact hc) hf
set_option maxRecDepth 100000 in
set_option maxHeartbeats 400000 in
theorem m_night (q : mAll G h T) (o : T.ok) (e c d a n : Int32) : rM l G 12 mX12_night 0 0 [.ref (gN G + 38), .int e, .int c, .int d, .int a, .int n] h (fun h' v => v = some (.int (aNight T e c d a n).1) ∧ mAll G h' (aNight T e c d a n).2 ∧ kp h h' mL) := by
  obtain ⟨i, j, q⟩ := q
  have hm := q.at
  have hnl := o.nl6
  have hm12 := o.m12
  rcases oT_cases (n := T.nl) (by omega) e with ⟨e1, he⟩ | ⟨z, hz, rfl, e1⟩
  · have ea : aNight T e c d a n = (-1, setFT T 0 T.tr) := by unfold aNight; rw [e1]
    rw [ea]
    refine rM_start (by decide) (Nat.le_of_ble_eq_true rfl) ?_
    refine a_aload_n 1 dX12_night_0 rfl rfl ?_
    refine a_iload_n 2 dX12_night_1 rfl rfl ?_
    refine a_callV ok_X12_noLaw ln_X12_218 in_X12_noLaw rfl 5 dX12_night_2 rfl (m_noLaw q e) (by repeat (first | assumption | (refine rg_ne (by first | decide | omega) ?_) | apply rg_eq | refine rg_fr (by assumption) (by first | decide | (simp; omega)) ?_)) rfl rfl rfl ⟨(Nat.le_of_ble_eq_true rfl), (Nat.le_of_ble_eq_true rfl)⟩ (Nat.le_of_ble_eq_true rfl) ⟨(Nat.le_of_ble_eq_true rfl), (Nat.le_of_ble_eq_true rfl)⟩ ?_
    rintro _ _ ⟨rfl, rfl⟩
    refine a_if_eq 14 8 dX12_night_5 rfl (by decide) (fun c_5 => absurd c_5 (by rw [if_neg he]; decide)) (fun c_5 => ?_)
    refine a_aload_n 9 dX12_night_8 rfl rfl ?_
    refine a_iconst (-1) 10 dX12_night_9 rfl (by decide) ?_
    refine a_callV ok_X12_refused ln_X12_91 in_X12_refused rfl 13 dX12_night_10 rfl (k_X12_refused hm (-1)) (by repeat (first | assumption | (refine rg_ne (by first | decide | omega) ?_) | apply rg_eq | refine rg_fr (by assumption) (by first | decide | (simp; omega)) ?_)) rfl rfl rfl ⟨(Nat.le_of_ble_eq_true rfl), (Nat.le_of_ble_eq_true rfl)⟩ (Nat.le_of_ble_eq_true rfl) ⟨(Nat.le_of_ble_eq_true rfl), (Nat.le_of_ble_eq_true rfl)⟩ ?_
    rintro h2 v ⟨rfl, e2, hf2⟩
    exact a_ireturn dX12_night_13 rfl rfl (Nat.le_of_ble_eq_true rfl) (Nat.le_of_ble_eq_true rfl) ⟨rfl, ⟨_, j, mX_fa q e2 hf2⟩, kpm hf2 (by decide)⟩
  have ea : aNight T (nI z) c d a n = if (refF T c d a n).1 = 0 then (match oT 4 c with | some y => nigR T z (codeT T y a.toNatClampNeg) n.toNatClampNeg | none => (0, T)) else ((refF T c d a n).1, setFT T (refF T c d a n).2 T.tr) := by unfold aNight; rw [e1]; rfl
  by_cases hr : (refF T c d a n).1 = 0
  · have hk0 := m_kept0 (l := l) q o hr
    obtain ⟨y, b, N, hy, rfl, ey, rfl, rfl, hbN, er, hh, hl2⟩ := refF_ok o hr
    have hsz := o.sz60 hy
    obtain ⟨f, g, w, h57, h58, h59, hx⟩ := q.2.2.2.2.1
    have hcd : ∀ p, p < N → w (60 * y + b + p) = codeT T y b p := fun p hp => by
      rw [Nat.add_assoc]; exact (hx y hy).2.2 _ (show b + p < T.sz y by omega)
    rw [if_pos hr, ey, nI_clamp (by omega), nI_clamp (by omega)] at ea
    have ea2 : aNight T (nI z) (nI y) d (nI b) (nI N) = nigR T z (codeT T y b) N := ea
    generalize codeT T y b = code at *
    rw [ea2]
    have g15 : i 15 = nI T.m := q.2.1.2.1
    have e41 : (60 : Int32) * nI y + nI b = nI (60 * y + b) := by rw [show (60 : Int32) = nI 60 from rfl, pk_mul, nI_add]
    by_cases hm0 : T.m = 0
    · have er1 : nigR T z code N = (-3, setFT T 0 T.tr) := by unfold nigR; rw [if_pos hm0]
      rw [er1]
      have g0 : i 15 = 0 := g15.trans (congrArg nI hm0)
      refine rM_start (by decide) (Nat.le_of_ble_eq_true rfl) ?_
      refine a_aload_n 1 dX12_night_0 rfl rfl ?_
      refine a_iload_n 2 dX12_night_1 rfl rfl ?_
      refine a_callV ok_X12_noLaw ln_X12_218 in_X12_noLaw rfl 5 dX12_night_2 rfl (m_noLaw q (nI z)) (by repeat (first | assumption | (refine rg_ne (by first | decide | omega) ?_) | apply rg_eq | refine rg_fr (by assumption) (by first | decide | (simp; omega)) ?_)) rfl rfl rfl ⟨(Nat.le_of_ble_eq_true rfl), (Nat.le_of_ble_eq_true rfl)⟩ (Nat.le_of_ble_eq_true rfl) ⟨(Nat.le_of_ble_eq_true rfl), (Nat.le_of_ble_eq_true rfl)⟩ ?_
      rintro _ _ ⟨rfl, rfl⟩
      refine a_if_eq 14 8 dX12_night_5 rfl (by decide) (fun c_5 => ?_) (fun c_5 => absurd (if_pos (oT_yes hz (by omega))) c_5)
      refine a_aload_n 15 dX12_night_14 rfl rfl ?_
      refine a_iload_n 16 dX12_night_15 rfl rfl ?_
      refine a_iload_n 17 dX12_night_16 rfl rfl ?_
      refine a_iload 19 dX12_night_17 rfl rfl ?_
      refine a_iload 21 dX12_night_19 rfl rfl ?_
      refine a_i2l 22 dX12_night_21 rfl ?_
      refine a_callV ok_X12_kept ln_X12_145 in_X12_kept rfl 25 dX12_night_22 rfl (hk0) (by repeat (first | assumption | (refine rg_ne (by first | decide | omega) ?_) | apply rg_eq | refine rg_fr (by assumption) (by first | decide | (simp; omega)) ?_)) rfl rfl rfl ⟨(Nat.le_of_ble_eq_true rfl), (Nat.le_of_ble_eq_true rfl)⟩ (Nat.le_of_ble_eq_true rfl) ⟨(Nat.le_of_ble_eq_true rfl), (Nat.le_of_ble_eq_true rfl)⟩ ?_
      rintro _ _ ⟨rfl, rfl⟩
      refine a_istore 27 dX12_night_25 rfl (by decide) ?_
      refine a_iload 29 dX12_night_27 rfl rfl ?_
      refine a_if_ge 35 32 dX12_night_29 rfl (by decide) (fun c_29 => ?_) (fun c_29 => absurd (Int32.le_refl _) c_29)
      refine a_bipush (60) 37 dX12_night_35 rfl (by decide) ?_
      refine a_iload_n 38 dX12_night_37 rfl rfl ?_
      refine a_imul 39 dX12_night_38 rfl ?_
      refine a_iload 41 dX12_night_39 rfl rfl ?_
      refine a_iadd 42 dX12_night_41 rfl ?_
      refine a_istore 44 dX12_night_42 rfl (by decide) ?_
      refine a_aload_n 45 dX12_night_44 rfl rfl ?_
      refine a_get fd_X12_160 rfl 48 dX12_night_45 rfl (by repeat (first | assumption | (refine rg_ne (by first | decide | omega) ?_) | apply rg_eq | refine rg_fr (by assumption) (by first | decide | (simp; omega)) ?_)) rfl ?_
      rw [g0]
      refine a_if_ne 55 51 dX12_night_48 rfl (by decide) (fun c_48 => absurd rfl c_48) (fun c_48 => ?_)
      refine a_iconst (0) 52 dX12_night_51 rfl (by decide) ?_
      refine a_goto 62 dX12_night_52 (by decide) ?_
      refine a_istore 64 dX12_night_62 rfl (by decide) ?_
      refine a_iconst (0) 65 dX12_night_64 rfl (by decide) ?_
      refine a_istore 67 dX12_night_65 rfl (by decide) ?_
      refine a_iload 69 dX12_night_67 rfl rfl ?_
      refine a_iload 71 dX12_night_69 rfl rfl ?_
      refine a_aload_n 72 dX12_night_71 rfl rfl ?_
      refine a_get fd_X12_160 rfl 75 dX12_night_72 rfl (by repeat (first | assumption | (refine rg_ne (by first | decide | omega) ?_) | apply rg_eq | refine rg_fr (by assumption) (by first | decide | (simp; omega)) ?_)) rfl ?_
      refine a_imul 76 dX12_night_75 rfl ?_
      rw [g0]
      refine a_icmp_ge 113 79 dX12_night_76 rfl (by decide) (fun c_76 => ?_) (fun c_76 => absurd (by decide) c_76)
      refine a_aload_n 114 dX12_night_113 rfl rfl ?_
      refine a_get fd_X12_160 rfl 117 dX12_night_114 rfl (by repeat (first | assumption | (refine rg_ne (by first | decide | omega) ?_) | apply rg_eq | refine rg_fr (by assumption) (by first | decide | (simp; omega)) ?_)) rfl ?_
      rw [g0]
      refine a_if_ne 127 120 dX12_night_117 rfl (by decide) (fun c_117 => absurd rfl c_117) (fun c_117 => ?_)
      refine a_aload_n 121 dX12_night_120 rfl rfl ?_
      refine a_bipush (-3) 123 dX12_night_121 rfl (by decide) ?_
      refine a_callV ok_X12_refused ln_X12_91 in_X12_refused rfl 126 dX12_night_123 rfl (k_X12_refused hm (-3)) (by repeat (first | assumption | (refine rg_ne (by first | decide | omega) ?_) | apply rg_eq | refine rg_fr (by assumption) (by first | decide | (simp; omega)) ?_)) rfl rfl rfl ⟨(Nat.le_of_ble_eq_true rfl), (Nat.le_of_ble_eq_true rfl)⟩ (Nat.le_of_ble_eq_true rfl) ⟨(Nat.le_of_ble_eq_true rfl), (Nat.le_of_ble_eq_true rfl)⟩ ?_
      rintro h2 v ⟨rfl, e2, hf2⟩
      exact a_ireturn dX12_night_126 rfl rfl (Nat.le_of_ble_eq_true rfl) (Nat.le_of_ble_eq_true rfl) ⟨rfl, ⟨_, j, mX_fa q e2 hf2⟩, kpm hf2 (by decide)⟩
    · have hm1 : 1 ≤ T.m := Nat.pos_of_ne_zero hm0
      have hne : ¬ nI T.m = 0 := nI_ne0 hm1 (by omega)
      have hK : N / T.m * T.m ≤ N := Nat.div_mul_le_self N T.m
      have hK2 : N / T.m ≤ 60 := Nat.le_trans (Nat.div_le_self N T.m) (by omega)
      have e61 : nI N / nI T.m = nI (N / T.m) := pk_div (by omega) hm1 (by omega)
      have hlt6 := lastT_lt o
      have hla : (if T.ny = 0 then (0 : Int32) else nI (T.ym (T.ny - 1))) = nI (lastT T) := by
        by_cases z : T.ny = 0
        · rw [if_pos z, show lastT T = 0 from if_pos z]; rfl
        · rw [if_neg z, show lastT T = T.ym (T.ny - 1) from if_neg z]
      have er1 : nigR T z code N = if andN (fun p => decide (0 ≤ code p ∧ code p ≤ 999)) (N / T.m * T.m) then (nI (nigE T z code (N / T.m)).2, setY (setFT T 0 T.tr) (nigE T z code (N / T.m)).1) else (-2, setFT T 0 T.tr) := by unfold nigR; rw [if_neg hm0]
      rw [er1]
      generalize hKe : N / T.m = K at *
      have D : ∀ (r x : Nat), x + r = K * T.m → (∀ p, p < x → decide (0 ≤ code p ∧ code p ≤ 999) = true) → rW l G (rRm 12 0 0) mX12_night (rZ G (nigQ G h (if andN (fun p => decide (0 ≤ code p ∧ code p ≤ 999)) (K * T.m) then (nI (nigE T z code K).2, setY (setFT T 0 T.tr) (nigE T z code K).1) else (-2, setFT T 0 T.tr))) 0 0) 0 0 67 [some (.ref (gN G + 38)), some (.int (nI z)), some (.int (nI y)), some (.int d), some (.int (nI b)), some (.int (nI N)), some (.int 0), some (.int (nI (60 * y + b))), some (.int (nI K)), some (.int (nI x)), none, none, none, none] [] h := by
        intro r
        induction r with
        | zero =>
          intro x hxr hP
          have ex : x = K * T.m := by omega
          subst ex
          rw [if_pos (andN_t hP)]
          refine a_iload 69 dX12_night_67 rfl rfl ?_
          refine a_iload 71 dX12_night_69 rfl rfl ?_
          refine a_aload_n 72 dX12_night_71 rfl rfl ?_
          refine a_get fd_X12_160 rfl 75 dX12_night_72 rfl (by repeat (first | assumption | (refine rg_ne (by first | decide | omega) ?_) | apply rg_eq | refine rg_fr (by assumption) (by first | decide | (simp; omega)) ?_)) rfl ?_
          refine a_imul 76 dX12_night_75 rfl ?_
          rw [g15, pk_mul]
          refine a_icmp_ge 113 79 dX12_night_76 rfl (by decide) (fun c_76 => ?_) (fun c_76 => absurd (Int32.le_refl _) c_76)
          refine a_aload_n 114 dX12_night_113 rfl rfl ?_
          refine a_get fd_X12_160 rfl 117 dX12_night_114 rfl (by repeat (first | assumption | (refine rg_ne (by first | decide | omega) ?_) | apply rg_eq | refine rg_fr (by assumption) (by first | decide | (simp; omega)) ?_)) rfl ?_
          rw [g15]
          refine a_if_ne 127 120 dX12_night_117 rfl (by decide) (fun c_117 => ?_) (fun c_117 => absurd c_117 hne)
          refine a_aload_n 128 dX12_night_127 rfl rfl ?_
          refine a_callV ok_X12_lastMinute ln_X12_240 in_X12_lastMinute rfl 131 dX12_night_128 rfl (k_X12_lastMinute q.2.2.2.1) (by repeat (first | assumption | (refine rg_ne (by first | decide | omega) ?_) | apply rg_eq | refine rg_fr (by assumption) (by first | decide | (simp; omega)) ?_)) rfl rfl rfl ⟨(Nat.le_of_ble_eq_true rfl), (Nat.le_of_ble_eq_true rfl)⟩ (Nat.le_of_ble_eq_true rfl) ⟨(Nat.le_of_ble_eq_true rfl), (Nat.le_of_ble_eq_true rfl)⟩ ?_
          rintro _ _ ⟨rfl, rfl⟩
          rw [hla]
          refine a_iconst (1) 132 dX12_night_131 rfl (by decide) ?_
          refine a_iadd 133 dX12_night_132 rfl ?_
          rw [nI_1]
          refine a_istore 135 dX12_night_133 rfl (by decide) ?_
          refine a_iconst (0) 136 dX12_night_135 rfl (by decide) ?_
          refine a_istore 138 dX12_night_136 rfl (by decide) ?_
          refine a_iconst (0) 139 dX12_night_138 rfl (by decide) ?_
          refine a_istore 141 dX12_night_139 rfl (by decide) ?_
          exact nigOL o hz (by omega) (by omega) hK hK2 (by omega) hcd h59 K 0 i _ _ _ (by omega) q (Nat.zero_le _) (fr_refl _ _)
        | succ r ih =>
          intro x hxr hP
          have v88 : vp_in (nI (60 * y + b + x)) 240 := vp_in_nI (by omega) (by decide)
          have c88 : w (nI (60 * y + b + x)).toNatClampNeg = code x := by rw [nI_clamp (by omega)]; exact hcd x (by omega)
          have hin := in999 (code x)
          refine a_iload 69 dX12_night_67 rfl rfl ?_
          refine a_iload 71 dX12_night_69 rfl rfl ?_
          refine a_aload_n 72 dX12_night_71 rfl rfl ?_
          refine a_get fd_X12_160 rfl 75 dX12_night_72 rfl (by repeat (first | assumption | (refine rg_ne (by first | decide | omega) ?_) | apply rg_eq | refine rg_fr (by assumption) (by first | decide | (simp; omega)) ?_)) rfl ?_
          refine a_imul 76 dX12_night_75 rfl ?_
          rw [g15, pk_mul]
          refine a_icmp_ge 113 79 dX12_night_76 rfl (by decide) (fun c_76 => absurd c_76 (nI_ge (a := x) (b := K * T.m) (by omega) (by omega))) (fun c_76 => ?_)
          refine a_aload_n 80 dX12_night_79 rfl rfl ?_
          refine a_get fd_X12_71 rfl 83 dX12_night_80 rfl (by repeat (first | assumption | (refine rg_ne (by first | decide | omega) ?_) | apply rg_eq | refine rg_fr (by assumption) (by first | decide | (simp; omega)) ?_)) rfl ?_
          refine a_iload 85 dX12_night_83 rfl rfl ?_
          refine a_iload 87 dX12_night_85 rfl rfl ?_
          refine a_iadd 88 dX12_night_87 rfl ?_
          rw [nI_add]
          refine a_iaload 89 dX12_night_88 rfl (by repeat (first | assumption | (refine rg_ne (by first | decide | omega) ?_) | apply rg_eq | refine rg_fr (by assumption) (by first | decide | (simp; omega)) ?_)) v88 ?_
          rw [c88]
          refine a_i2l 90 dX12_night_89 rfl ?_
          refine a_lconst (0) 91 dX12_night_90 rfl (by decide) ?_
          refine a_ldc2 (999) 94 dX12_night_91 rfl lk_X12_272 ?_
          refine a_callS ok_X12_in ln_X12_97 is_X12_in rfl 97 dX12_night_94 rfl (k_X12_in _ _ _) rfl rfl ⟨(Nat.le_of_ble_eq_true rfl), (Nat.le_of_ble_eq_true rfl)⟩ (Nat.le_of_ble_eq_true rfl) ⟨(Nat.le_of_ble_eq_true rfl), (Nat.le_of_ble_eq_true rfl)⟩ ?_
          rintro _ _ ⟨rfl, rfl⟩
          refine a_if_ne 107 100 dX12_night_97 rfl (by decide) (fun c_97 => ?_) (fun c_97 => ?_)
          · refine a_iinc _ 110 dX12_night_107 rfl rfl (by decide) rfl ?_
            refine a_goto 67 dX12_night_110 (by decide) ?_
            rw [show nI x + Int32.ofInt 1 = nI (x + 1) from nI_1 x]
            exact ih (x + 1) (by omega) (fun p hp => by
              by_cases ep : p = x
              · rw [ep]; exact decide_eq_true (hin.mp (tb_1 c_97))
              · exact hP p (by omega))
          · refine a_aload_n 101 dX12_night_100 rfl rfl ?_
            refine a_bipush (-2) 103 dX12_night_101 rfl (by decide) ?_
            refine a_callV ok_X12_refused ln_X12_91 in_X12_refused rfl 106 dX12_night_103 rfl (k_X12_refused hm (-2)) (by repeat (first | assumption | (refine rg_ne (by first | decide | omega) ?_) | apply rg_eq | refine rg_fr (by assumption) (by first | decide | (simp; omega)) ?_)) rfl rfl rfl ⟨(Nat.le_of_ble_eq_true rfl), (Nat.le_of_ble_eq_true rfl)⟩ (Nat.le_of_ble_eq_true rfl) ⟨(Nat.le_of_ble_eq_true rfl), (Nat.le_of_ble_eq_true rfl)⟩ ?_
            rintro h2 v ⟨rfl, e2, hf2⟩
            exact a_ireturn dX12_night_106 rfl rfl (Nat.le_of_ble_eq_true rfl) (Nat.le_of_ble_eq_true rfl) (by rw [if_neg (by rw [andN_f (i := x) (by omega) (decide_eq_false (fun u => b_eq0.mp c_97 (hin.mpr u)))]; decide)]; exact ⟨rfl, ⟨_, j, mX_fa q e2 hf2⟩, kpm hf2 (by decide)⟩)
      refine rM_start (by decide) (Nat.le_of_ble_eq_true rfl) ?_
      refine a_aload_n 1 dX12_night_0 rfl rfl ?_
      refine a_iload_n 2 dX12_night_1 rfl rfl ?_
      refine a_callV ok_X12_noLaw ln_X12_218 in_X12_noLaw rfl 5 dX12_night_2 rfl (m_noLaw q (nI z)) (by repeat (first | assumption | (refine rg_ne (by first | decide | omega) ?_) | apply rg_eq | refine rg_fr (by assumption) (by first | decide | (simp; omega)) ?_)) rfl rfl rfl ⟨(Nat.le_of_ble_eq_true rfl), (Nat.le_of_ble_eq_true rfl)⟩ (Nat.le_of_ble_eq_true rfl) ⟨(Nat.le_of_ble_eq_true rfl), (Nat.le_of_ble_eq_true rfl)⟩ ?_
      rintro _ _ ⟨rfl, rfl⟩
      refine a_if_eq 14 8 dX12_night_5 rfl (by decide) (fun c_5 => ?_) (fun c_5 => absurd (if_pos (oT_yes hz (by omega))) c_5)
      refine a_aload_n 15 dX12_night_14 rfl rfl ?_
      refine a_iload_n 16 dX12_night_15 rfl rfl ?_
      refine a_iload_n 17 dX12_night_16 rfl rfl ?_
      refine a_iload 19 dX12_night_17 rfl rfl ?_
      refine a_iload 21 dX12_night_19 rfl rfl ?_
      refine a_i2l 22 dX12_night_21 rfl ?_
      refine a_callV ok_X12_kept ln_X12_145 in_X12_kept rfl 25 dX12_night_22 rfl (hk0) (by repeat (first | assumption | (refine rg_ne (by first | decide | omega) ?_) | apply rg_eq | refine rg_fr (by assumption) (by first | decide | (simp; omega)) ?_)) rfl rfl rfl ⟨(Nat.le_of_ble_eq_true rfl), (Nat.le_of_ble_eq_true rfl)⟩ (Nat.le_of_ble_eq_true rfl) ⟨(Nat.le_of_ble_eq_true rfl), (Nat.le_of_ble_eq_true rfl)⟩ ?_
      rintro _ _ ⟨rfl, rfl⟩
      refine a_istore 27 dX12_night_25 rfl (by decide) ?_
      refine a_iload 29 dX12_night_27 rfl rfl ?_
      refine a_if_ge 35 32 dX12_night_29 rfl (by decide) (fun c_29 => ?_) (fun c_29 => absurd (Int32.le_refl _) c_29)
      refine a_bipush (60) 37 dX12_night_35 rfl (by decide) ?_
      refine a_iload_n 38 dX12_night_37 rfl rfl ?_
      refine a_imul 39 dX12_night_38 rfl ?_
      refine a_iload 41 dX12_night_39 rfl rfl ?_
      refine a_iadd 42 dX12_night_41 rfl ?_
      rw [e41]
      refine a_istore 44 dX12_night_42 rfl (by decide) ?_
      refine a_aload_n 45 dX12_night_44 rfl rfl ?_
      refine a_get fd_X12_160 rfl 48 dX12_night_45 rfl (by repeat (first | assumption | (refine rg_ne (by first | decide | omega) ?_) | apply rg_eq | refine rg_fr (by assumption) (by first | decide | (simp; omega)) ?_)) rfl ?_
      rw [g15]
      refine a_if_ne 55 51 dX12_night_48 rfl (by decide) (fun c_48 => ?_) (fun c_48 => absurd c_48 hne)
      refine a_iload 57 dX12_night_55 rfl rfl ?_
      refine a_aload_n 58 dX12_night_57 rfl rfl ?_
      refine a_get fd_X12_160 rfl 61 dX12_night_58 rfl (by repeat (first | assumption | (refine rg_ne (by first | decide | omega) ?_) | apply rg_eq | refine rg_fr (by assumption) (by first | decide | (simp; omega)) ?_)) rfl ?_
      rw [g15]
      refine a_idiv 62 dX12_night_61 rfl hne ?_
      rw [e61]
      refine a_istore 64 dX12_night_62 rfl (by decide) ?_
      refine a_iconst (0) 65 dX12_night_64 rfl (by decide) ?_
      refine a_istore 67 dX12_night_65 rfl (by decide) ?_
      exact D (K * T.m) 0 (by omega) (fun p hp => absurd hp (by omega))
  · rw [if_neg hr] at ea
    rw [ea]
    refine rM_start (by decide) (Nat.le_of_ble_eq_true rfl) ?_
    refine a_aload_n 1 dX12_night_0 rfl rfl ?_
    refine a_iload_n 2 dX12_night_1 rfl rfl ?_
    refine a_callV ok_X12_noLaw ln_X12_218 in_X12_noLaw rfl 5 dX12_night_2 rfl (m_noLaw q (nI z)) (by repeat (first | assumption | (refine rg_ne (by first | decide | omega) ?_) | apply rg_eq | refine rg_fr (by assumption) (by first | decide | (simp; omega)) ?_)) rfl rfl rfl ⟨(Nat.le_of_ble_eq_true rfl), (Nat.le_of_ble_eq_true rfl)⟩ (Nat.le_of_ble_eq_true rfl) ⟨(Nat.le_of_ble_eq_true rfl), (Nat.le_of_ble_eq_true rfl)⟩ ?_
    rintro _ _ ⟨rfl, rfl⟩
    refine a_if_eq 14 8 dX12_night_5 rfl (by decide) (fun c_5 => ?_) (fun c_5 => absurd (if_pos (oT_yes hz (by omega))) c_5)
    refine a_aload_n 15 dX12_night_14 rfl rfl ?_
    refine a_iload_n 16 dX12_night_15 rfl rfl ?_
    refine a_iload_n 17 dX12_night_16 rfl rfl ?_
    refine a_iload 19 dX12_night_17 rfl rfl ?_
    refine a_iload 21 dX12_night_19 rfl rfl ?_
    refine a_i2l 22 dX12_night_21 rfl ?_
    refine a_callV ok_X12_kept ln_X12_145 in_X12_kept rfl 25 dX12_night_22 rfl (m_keptN q o hr) (by repeat (first | assumption | (refine rg_ne (by first | decide | omega) ?_) | apply rg_eq | refine rg_fr (by assumption) (by first | decide | (simp; omega)) ?_)) rfl rfl rfl ⟨(Nat.le_of_ble_eq_true rfl), (Nat.le_of_ble_eq_true rfl)⟩ (Nat.le_of_ble_eq_true rfl) ⟨(Nat.le_of_ble_eq_true rfl), (Nat.le_of_ble_eq_true rfl)⟩ ?_
    rintro h1 _ ⟨rfl, hlt, q1, f1⟩
    refine a_istore 27 dX12_night_25 rfl (by decide) ?_
    refine a_iload 29 dX12_night_27 rfl rfl ?_
    refine a_if_ge 35 32 dX12_night_29 rfl (by decide) (fun c_29 => absurd c_29 (Int32.not_le.mpr hlt)) (fun c_29 => ?_)
    refine a_iload 34 dX12_night_32 rfl rfl ?_
    exact a_ireturn dX12_night_34 rfl rfl (Nat.le_of_ble_eq_true rfl) (Nat.le_of_ble_eq_true rfl) ⟨rfl, ⟨_, j, q1⟩, kpm f1 (by decide)⟩
end MNIG
