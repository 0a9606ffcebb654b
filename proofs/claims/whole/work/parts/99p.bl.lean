/-! BLINDS: both sides tell the same -/
section BLS
variable {T : Tn}
theorem gl_ok (o : T.ok) : glOk T := by
  sorry
theorem bl_same (o : T.ok) {c k q a b : Int32} (h1 : aBl T c k q a) (h2 : mBl T c k q b) : a = b := by
  sorry
end BLS
