/-! miles between places, in plain numbers: the same both ways, no more than over a third place -/
/-- F is how far each place is from g (E: the open ends, q: where they lead, w: their miles) -/
def eD (E : Nat → Bool) (q w : Nat → Nat) (g : Nat) (F : Nat → Nat) : Prop := zsu E q w g F ∧ (∀ e, E e = true → F (e / 4) ≤ F (q e) + w e) ∧ F g = 0
/-- each end has another end of the same road -/
def eT (E : Nat → Bool) (q w tw : Nat → Nat) : Prop := ∀ e, E e = true → E (tw e) = true ∧ tw e / 4 = q e ∧ q (tw e) = e / 4 ∧ w (tw e) = w e ∧ 1 ≤ w e
section ED
variable {E : Nat → Bool} {q w tw : Nat → Nat} {a b p : Nat} {A B P : Nat → Nat}
theorem eback (hT : eT E q w tw) (hF : eD E q w a A) {e : Nat} (hE : E e = true) : A (q e) ≤ A (e / 4) + w e := by
  obtain ⟨h1, h2, h3, h4, -⟩ := hT e hE
  have := hF.2.1 (tw e) h1
  rw [h2, h3, h4] at this
  exact this
/-- what is near to a: its miles to p and a's differ by no more than the miles between them -/
theorem enear (hT : eT E q w tw) (hA : eD E q w a A) (hP : eD E q w p P) : ∀ n x, A x = n → n < 9999 → P x ≤ P a + A x ∧ P a ≤ P x + A x := by
  intro n
  induction n using Nat.strongRecOn with
  | ind n ih =>
    intro x hx hn
    rcases hA.1 x (by omega) with rfl | ⟨e, hE, he, hle⟩
    · exact ⟨Nat.le_add_right _ _, Nat.le_add_right _ _⟩
    · obtain ⟨-, -, -, -, h5⟩ := hT e hE
      obtain ⟨i1, i2⟩ := ih (A (q e)) (by omega) (q e) rfl (by omega)
      have j1 := hP.2.1 e hE
      have j2 := eback hT hP hE
      rw [he] at j1 j2
      exact ⟨by omega, by omega⟩
theorem etri (hT : eT E q w tw) (hA : eD E q w a A) (hP : eD E q w p P) {x : Nat} (hx : A x < 9999) : P x ≤ P a + A x := (enear hT hA hP _ x rfl hx).1
theorem esym1 (hT : eT E q w tw) (hA : eD E q w a A) (hB : eD E q w b B) (h : A b < 9999) : B a ≤ A b := by
  have := (enear hT hA hB _ b rfl h).2
  have h0 := hB.2.2
  omega
theorem esym (hT : eT E q w tw) (hA : eD E q w a A) (hB : eD E q w b B) (h1 : A b ≤ 9999) (h2 : B a ≤ 9999) : A b = B a := by
  by_cases c : A b < 9999
  · have i := esym1 hT hA hB c
    have j := esym1 hT hB hA (by omega)
    omega
  · by_cases d : B a < 9999
    · have j := esym1 hT hB hA d
      omega
    · omega
theorem ezero (hT : eT E q w tw) (hA : eD E q w a A) {x : Nat} (h : A x = 0) : x = a := by
  rcases hA.1 x (by omega) with h1 | ⟨e, hE, he, hle⟩
  · exact h1
  · obtain ⟨-, -, -, -, h5⟩ := hT e hE
    omega
end ED
