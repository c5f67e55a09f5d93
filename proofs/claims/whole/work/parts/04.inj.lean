theorem inj1 {α : Type} {a0 b0 : α} (h : some a0 = some b0) : a0 = b0 := by
  exact Option.some.inj h
theorem tnj1 {α : Type} {a0 b0 : α} (h : a0 = b0) : a0 = b0 := by
  exact h
theorem inj2 {α β : Type} {a0 b0 : α} {a1 b1 : β} (h : some (a0, a1) = some (b0, b1)) : a0 = b0 ∧ a1 = b1 := by
  cases h; exact ⟨rfl, rfl⟩
theorem tnj2 {α β : Type} {a0 b0 : α} {a1 b1 : β} (h : (a0, a1) = (b0, b1)) : a0 = b0 ∧ a1 = b1 := by
  cases h; exact ⟨rfl, rfl⟩
theorem inj3 {α β γ : Type} {a0 b0 : α} {a1 b1 : β} {a2 b2 : γ} (h : some (a0, a1, a2) = some (b0, b1, b2)) : a0 = b0 ∧ a1 = b1 ∧ a2 = b2 := by
  cases h; exact ⟨rfl, rfl, rfl⟩
theorem tnj3 {α β γ : Type} {a0 b0 : α} {a1 b1 : β} {a2 b2 : γ} (h : (a0, a1, a2) = (b0, b1, b2)) : a0 = b0 ∧ a1 = b1 ∧ a2 = b2 := by
  cases h; exact ⟨rfl, rfl, rfl⟩
theorem inj4 {α β γ δ : Type} {a0 b0 : α} {a1 b1 : β} {a2 b2 : γ} {a3 b3 : δ} (h : some (a0, a1, a2, a3) = some (b0, b1, b2, b3)) : a0 = b0 ∧ a1 = b1 ∧ a2 = b2 ∧ a3 = b3 := by
  cases h; exact ⟨rfl, rfl, rfl, rfl⟩
theorem tnj4 {α β γ δ : Type} {a0 b0 : α} {a1 b1 : β} {a2 b2 : γ} {a3 b3 : δ} (h : (a0, a1, a2, a3) = (b0, b1, b2, b3)) : a0 = b0 ∧ a1 = b1 ∧ a2 = b2 ∧ a3 = b3 := by
  cases h; exact ⟨rfl, rfl, rfl, rfl⟩
theorem inj5 {α β γ δ ε : Type} {a0 b0 : α} {a1 b1 : β} {a2 b2 : γ} {a3 b3 : δ} {a4 b4 : ε} (h : some (a0, a1, a2, a3, a4) = some (b0, b1, b2, b3, b4)) : a0 = b0 ∧ a1 = b1 ∧ a2 = b2 ∧ a3 = b3 ∧ a4 = b4 := by
  cases h; exact ⟨rfl, rfl, rfl, rfl, rfl⟩
theorem tnj5 {α β γ δ ε : Type} {a0 b0 : α} {a1 b1 : β} {a2 b2 : γ} {a3 b3 : δ} {a4 b4 : ε} (h : (a0, a1, a2, a3, a4) = (b0, b1, b2, b3, b4)) : a0 = b0 ∧ a1 = b1 ∧ a2 = b2 ∧ a3 = b3 ∧ a4 = b4 := by
  cases h; exact ⟨rfl, rfl, rfl, rfl, rfl⟩
theorem inj6 {α β γ δ ε ζ : Type} {a0 b0 : α} {a1 b1 : β} {a2 b2 : γ} {a3 b3 : δ} {a4 b4 : ε} {a5 b5 : ζ} (h : some (a0, a1, a2, a3, a4, a5) = some (b0, b1, b2, b3, b4, b5)) : a0 = b0 ∧ a1 = b1 ∧ a2 = b2 ∧ a3 = b3 ∧ a4 = b4 ∧ a5 = b5 := by
  cases h; exact ⟨rfl, rfl, rfl, rfl, rfl, rfl⟩
theorem tnj6 {α β γ δ ε ζ : Type} {a0 b0 : α} {a1 b1 : β} {a2 b2 : γ} {a3 b3 : δ} {a4 b4 : ε} {a5 b5 : ζ} (h : (a0, a1, a2, a3, a4, a5) = (b0, b1, b2, b3, b4, b5)) : a0 = b0 ∧ a1 = b1 ∧ a2 = b2 ∧ a3 = b3 ∧ a4 = b4 ∧ a5 = b5 := by
  cases h; exact ⟨rfl, rfl, rfl, rfl, rfl, rfl⟩
