/-! THE STATE of two new objects -/
def T0 : Tn := (((fun _ _ => some 0), (fun _ => 0), 0, 0, false, (fun _ => 0)), (0, (fun _ => 0), (fun _ => 0), (fun _ => 0), (fun _ => 0), (fun _ => 0)), (0, (fun _ _ => 0), (fun _ => 0)), (0, (fun _ => 0), (fun _ => 0)), ((fun _ => false), (fun _ => 0), (fun _ => 0), (fun _ _ => 0)), 0, 0)
theorem T0_ok : T0.ok := by
  refine ⟨⟨by decide, by decide, fun _ => (by decide : 0 < 4), fun _ => Or.inl rfl, fun k w hk hw d hd => ?_, fun k w hk hw => absurd hk (by show ¬ k < 0 * 0; omega)⟩, ⟨by decide, fun x hx => absurd hx (Nat.not_lt_zero x), fun x y hx => absurd hx (Nat.not_lt_zero x)⟩, ⟨by decide, fun z hz => absurd hz (Nat.not_lt_zero z)⟩, ⟨by decide, fun q hq => absurd hq (Nat.not_lt_zero q), fun p q _ hq => absurd hq (Nat.not_lt_zero q)⟩, fun q _ => (by decide : 0 ≤ 60)⟩
  have : (some 0 : Option Nat) = some d := hd
  cases this
  decide
theorem len61 (G : rG) : (HM4 G).length = 61 := rfl
section INIT0
variable {G : rG}
theorem m0 : mAll G (HM4 G) T0 := by
  have hmo : (HM4 G)[38]? = some (mo G (fun _ => 0) (fun _ => 0)) := rfl
  refine ⟨fun _ => 0, fun _ => 0, ⟨⟨(fun _ => 0), hmo, rfl, by decide, rfl, fun k w hk hw => ⟨rfl, fun d hd => ?_⟩, rfl, rfl, fun _ => Or.inl rfl, fun _ => Or.inl rfl⟩, by decide, rfl, rfl, rfl, fun _ => (by decide : 0 < 4), ⟨_, rfl, fun _ _ => rfl⟩, fun c hc => absurd hc (by show ¬ c < 0 * 0; omega)⟩, ⟨hmo, rfl, by decide, ⟨_, rfl, fun x hx => absurd hx (Nat.not_lt_zero x)⟩, ⟨_, rfl, fun x hx => absurd hx (Nat.not_lt_zero x)⟩, ⟨_, rfl, fun x hx => absurd hx (Nat.not_lt_zero x)⟩, ⟨_, rfl, fun x hx => absurd hx (Nat.not_lt_zero x)⟩⟩, ⟨hmo, rfl, by decide, _, rfl, fun x _ hx => absurd hx (Nat.not_lt_zero x)⟩, ⟨hmo, rfl, by decide, ⟨_, rfl, fun x hx => absurd hx (Nat.not_lt_zero x)⟩, ⟨_, rfl, fun x hx => absurd hx (Nat.not_lt_zero x)⟩⟩, ⟨_, _, _, rfl, rfl, rfl, fun q hq => ⟨?_, rfl, fun c hc => absurd hc (Nat.not_lt_zero c)⟩⟩, ⟨⟨_, rfl⟩, ⟨_, rfl⟩, ⟨_, rfl⟩, ⟨_, rfl⟩, ⟨_, rfl⟩, ⟨_, rfl⟩, ⟨_, rfl⟩⟩, rfl, rfl, rfl⟩
  · have : (some 0 : Option Nat) = some d := hd
    cases this
    decide
  · rcases (show q = 0 ∨ q = 1 ∨ q = 2 ∨ q = 3 by omega) with e | e | e | e <;> subst e <;> rfl
theorem c0 : cAll G (HM4 G) T0 := by
  refine ⟨⟨rfl, ⟨(0, 0, 0, 0, 0, fun _ => 0), rfl, rfl⟩, ⟨(0, 0, 0, (fun _ => 0), fun _ => 0), rfl, rfl, rfl⟩, ⟨(fun _ => 0), (fun _ => 0), (fun _ => 0), ⟨rfl, rfl, rfl, rfl, rfl⟩, fun c hc => absurd hc (by show ¬ c < 0 * 0; omega), ?_, fun c hc => absurd hc (by show ¬ c < 0 * 0; omega)⟩, ⟨_, rfl, fun x hx => absurd hx (Nat.not_lt_zero x)⟩, ⟨_, rfl, fun x hx => absurd hx (Nat.not_lt_zero x)⟩, ⟨rfl, ⟨_, rfl, fun x hx => absurd hx (Nat.not_lt_zero x)⟩, _, rfl, fun x hx => absurd hx (Nat.not_lt_zero x)⟩, ⟨⟨_, rfl, fun q hq => ?_⟩, fun q hq => ?_⟩⟩, ⟨⟨_, rfl⟩, ⟨_, rfl⟩, ⟨_, rfl⟩, ⟨_, rfl⟩, ⟨_, rfl⟩⟩, ⟨⟨_, _, _, rfl⟩, ⟨_, rfl⟩, ⟨_, rfl⟩, ⟨_, rfl⟩, ⟨_, rfl⟩, ⟨_, rfl⟩, ⟨_, rfl⟩, ⟨_, rfl⟩⟩⟩
  · exact fun c hc => absurd hc (by show ¬ c < 0 * 0; omega)
  · rcases (show q = 0 ∨ q = 1 ∨ q = 2 ∨ q = 3 by omega) with e | e | e | e <;> subst e <;> rfl
  · rcases (show q = 0 ∨ q = 1 ∨ q = 2 ∨ q = 3 by omega) with e | e | e | e <;> subst e <;> exact ⟨rfl, _, rfl, fun k hk => absurd hk (Nat.not_lt_zero k)⟩
end INIT0
