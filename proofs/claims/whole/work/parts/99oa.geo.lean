/-! SIGHTS and the gaps on their way -/
def pth (wi le w : Nat) (to : Option Nat) : Nat → Nat → Option (List Nat)
  | 0, _ => none
  | r + 1, k => if to = some k then some [] else match besN wi le k w with
    | none => if to = none then some [] else none
    | some d => (pth wi le w to r d).map (gpN wi k d :: ·)
def gend (wi le w : Nat) : Nat → Nat → Nat
  | 0, k => k
  | r + 1, k => match besN wi le k w with
    | none => k
    | some d => gend wi le w r d
abbrev glP (wi le w c x : Nat) : List Nat := match pth wi le w (some x) 32 c with
  | some m => m
  | none => (pth wi le w none 32 x).getD []
def subL (a b : List Nat) : Bool := a.all (fun g => b.any (fun y => decide (y = g)))
theorem subL_iff {a b : List Nat} : subL a b = true ↔ ∀ g, g ∈ a → g ∈ b := by
  unfold subL
  rw [List.all_eq_true]
  constructor
  · intro h g hg
    obtain ⟨y, hy, e⟩ := List.any_eq_true.mp (h g hg)
    exact of_decide_eq_true e ▸ hy
  · intro h g hg
    exact List.any_eq_true.mpr ⟨g, h g hg, decide_eq_true rfl⟩
/-- what holds of two seats of a carriage, a way on (to an end with a mirror) -/
def geoD (wi le w c x : Nat) : Bool :=
  (pth wi le w none 32 c).isSome && (pth wi le w none 32 x).isSome && match pth wi le w (some x) 32 c with
  | some l => subL l ((pth wi le w none 32 c).getD [])
  | none => decide (c = x) || (decide (gend wi le w 32 c ≠ x) && (if gend wi le w 32 x = gend wi le w 32 c
      then (pth wi le w (some c) 32 x).isSome && subL ((pth wi le w none 32 c).getD []) ((pth wi le w none 32 x).getD []) && (match pth wi le (1 - w) (some x) 32 (gend wi le w 32 c) with
        | some l => subL l ((pth wi le w none 32 x).getD []) && subL ((pth wi le w none 32 x).getD []) l
        | none => false)
      else (pth wi le w (some c) 32 x).isNone && (pth wi le (1 - w) (some x) 32 (gend wi le w 32 c)).isNone))
theorem geo_D00 : ∀ le, le < 9 → ∀ c, c < le * 0 → ∀ x, x < le * 0 → geoD 0 le 0 c x = true := by decide +kernel
theorem geo_D01 : ∀ le, le < 9 → ∀ c, c < le * 0 → ∀ x, x < le * 0 → geoD 0 le 1 c x = true := by decide +kernel
theorem geo_D10 : ∀ le, le < 9 → ∀ c, c < le * 1 → ∀ x, x < le * 1 → geoD 1 le 0 c x = true := by decide +kernel
theorem geo_D11 : ∀ le, le < 9 → ∀ c, c < le * 1 → ∀ x, x < le * 1 → geoD 1 le 1 c x = true := by decide +kernel
theorem geo_D20 : ∀ le, le < 9 → ∀ c, c < le * 2 → ∀ x, x < le * 2 → geoD 2 le 0 c x = true := by decide +kernel
theorem geo_D21 : ∀ le, le < 9 → ∀ c, c < le * 2 → ∀ x, x < le * 2 → geoD 2 le 1 c x = true := by decide +kernel
theorem geo_D30 : ∀ le, le < 9 → ∀ c, c < le * 3 → ∀ x, x < le * 3 → geoD 3 le 0 c x = true := by decide +kernel
theorem geo_D31 : ∀ le, le < 9 → ∀ c, c < le * 3 → ∀ x, x < le * 3 → geoD 3 le 1 c x = true := by decide +kernel
theorem geo_D40 : ∀ le, le < 9 → ∀ c, c < le * 4 → ∀ x, x < le * 4 → geoD 4 le 0 c x = true := by decide +kernel
theorem geo_D41 : ∀ le, le < 9 → ∀ c, c < le * 4 → ∀ x, x < le * 4 → geoD 4 le 1 c x = true := by decide +kernel
theorem geo_D : ∀ wi, wi < 5 → ∀ le, le < 9 → ∀ w, w < 2 → ∀ c, c < le * wi → ∀ x, x < le * wi → geoD wi le w c x = true := by
  intro wi h1 le h2 w h3 c h4 x h5
  match wi, w, h1, h3, h4, h5 with
  | 0, 0, _, _, h4, h5 => exact geo_D00 le h2 c h4 x h5
  | 0, 1, _, _, h4, h5 => exact geo_D01 le h2 c h4 x h5
  | 1, 0, _, _, h4, h5 => exact geo_D10 le h2 c h4 x h5
  | 1, 1, _, _, h4, h5 => exact geo_D11 le h2 c h4 x h5
  | 2, 0, _, _, h4, h5 => exact geo_D20 le h2 c h4 x h5
  | 2, 1, _, _, h4, h5 => exact geo_D21 le h2 c h4 x h5
  | 3, 0, _, _, h4, h5 => exact geo_D30 le h2 c h4 x h5
  | 3, 1, _, _, h4, h5 => exact geo_D31 le h2 c h4 x h5
  | 4, 0, _, _, h4, h5 => exact geo_D40 le h2 c h4 x h5
  | 4, 1, _, _, h4, h5 => exact geo_D41 le h2 c h4 x h5
  | wi + 5, _, h, _, _, _ => exact absurd h (by omega)
  | _, w + 2, _, h, _, _ => exact absurd h (by omega)
