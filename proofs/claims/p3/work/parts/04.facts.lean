/-! what a program decides of the tables -/
theorem gp_F1 : ∀ q, q < 13 → ∀ f, f < gp_N q → gp_has (u_lay (gp_cn q) (gp_T q) f) (gp_pL q f) = true := by decide +kernel
theorem gp_F2 : ∀ q, q < 13 → ∀ f, f < gp_N q → parseFieldDescriptor (gp_T q f).2.2.1 = some (gp_ty q f) := by decide +kernel
theorem gp_F3 : ∀ q, q < 13 → ∀ a, a < gp_N q → ∀ b, b < gp_N q → a ≠ b → (gp_T q a).2.1 ≠ (gp_T q b).2.1 := by decide +kernel
theorem gp_F4 : ∀ q, q < 13 → ∀ f, f < gp_N q → (gp_T q f).1 = gp_cn q := by decide +kernel
def gp_tyk (t : FieldType) : Bool := match t with
  | .int => true
  | .long => true
  | .boolean => true
  | .object _ => true
  | .array _ => true
  | _ => false
theorem gp_F5 : ∀ q, q < 13 → ∀ f, f < gp_N q → gp_tyk (gp_ty q f) = true := by decide +kernel
