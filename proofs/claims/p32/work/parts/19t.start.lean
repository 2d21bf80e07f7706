/-! the start -/
def s0 : SS := fun _ _ => 0
theorem Ic_0 : Ic s0 0 (fun _ => 0) (fun _ => 0) (fun _ => 0) := fun w hw => by
  refine ⟨Int.le_refl _, Int.le_refl _, fun _ => ⟨rfl, rfl⟩, ?_, fun s hs => Or.inr ⟨by (show (0 : Int) ≤ (s : Int); omega), rfl, fun i hi => absurd hi (Nat.not_lt_zero i), rfl, rfl⟩⟩
  have : ∀ n, sm (fun s => if s0 20 (6 * w + s) = 1 then pts (s0 22 (6 * w + s)) (s0 21 (6 * w + s)) else 0) n = 0 := by
    intro n
    induction n with
    | zero => rfl
    | succ n ih =>
      show sm _ n + (if (0 : Int) = 1 then _ else 0) = 0
      rw [ih, if_neg (by omega)]; rfl
  exact (this 6).symm
