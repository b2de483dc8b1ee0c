/-! counts, sums, searches below k -/
section PURE
def cntTo (p : Nat → Bool) : Nat → Int
  | 0 => 0
  | k + 1 => if p k then cntTo p k + 1 else cntTo p k
theorem cntTo_nn {p : Nat → Bool} : ∀ k, 0 ≤ cntTo p k ∧ cntTo p k ≤ (k : Int)
  | 0 => by simp [cntTo]
  | k + 1 => by
    have h := cntTo_nn (p := p) k
    unfold cntTo
    split <;> omega
theorem cntTo_congr {p q : Nat → Bool} : ∀ k, (∀ j, j < k → p j = q j) → cntTo p k = cntTo q k
  | 0, _ => rfl
  | k + 1, h => by
    unfold cntTo
    rw [h k (by omega), cntTo_congr k (fun j hj => h j (by omega))]
def sumTo (f : Nat → Int) : Nat → Int
  | 0 => 0
  | k + 1 => gadd (sumTo f k) (f k)
theorem sumTo_congr {f g : Nat → Int} : ∀ k, (∀ j, j < k → f j = g j) → sumTo f k = sumTo g k
  | 0, _ => rfl
  | k + 1, h => by
    unfold sumTo
    rw [h k (by omega), sumTo_congr k (fun j hj => h j (by omega))]
/-- the greatest f below k of those with p, at least 0 -/
def maxTo (p : Nat → Bool) (f : Nat → Int) : Nat → Int
  | 0 => 0
  | k + 1 => if p k then max (maxTo p f k) (f k) else maxTo p f k
theorem maxTo_nn {p : Nat → Bool} {f : Nat → Int} : ∀ k, 0 ≤ maxTo p f k
  | 0 => by simp [maxTo]
  | k + 1 => by
    have h := maxTo_nn (p := p) (f := f) k
    unfold maxTo
    split <;> omega
theorem maxTo_ge {p : Nat → Bool} {f : Nat → Int} : ∀ k j, j < k → p j = true → f j ≤ maxTo p f k
  | 0, j, h, _ => by omega
  | k + 1, j, h, hp => by
    unfold maxTo
    by_cases e : j = k
    · subst e
      rw [hp]
      simp only [if_true]
      omega
    · have h9 := maxTo_ge (p := p) (f := f) k j (by omega) hp
      split <;> omega
theorem maxTo_lt {p : Nat → Bool} {f : Nat → Int} {b : Int} (hb : 0 < b) : ∀ k, (∀ j, j < k → p j = true → f j < b) → maxTo p f k < b
  | 0, _ => by simpa [maxTo] using hb
  | k + 1, h => by
    have h9 := maxTo_lt (p := p) (f := f) hb k (fun j hj => h j (by omega))
    unfold maxTo
    split
    · rename_i e
      have := h k (by omega) e
      omega
    · exact h9
theorem maxTo_at {p : Nat → Bool} {f : Nat → Int} : ∀ k, maxTo p f k = 0 ∨ ∃ j, j < k ∧ p j = true ∧ f j = maxTo p f k
  | 0 => Or.inl rfl
  | k + 1 => by
    unfold maxTo
    have h := maxTo_at (p := p) (f := f) k
    split
    · rename_i e
      by_cases c : maxTo p f k ≤ f k
      · exact Or.inr ⟨k, by omega, e, by omega⟩
      · rcases h with h | ⟨j, h1, h2, h3⟩
        · exact Or.inl (by omega)
        · exact Or.inr ⟨j, by omega, h2, by omega⟩
    · rcases h with h | ⟨j, h1, h2, h3⟩
      · exact Or.inl h
      · exact Or.inr ⟨j, by omega, h2, h3⟩
/-- is there one below k -/
def anyTo (p : Nat → Bool) : Nat → Bool
  | 0 => false
  | k + 1 => anyTo p k || p k
theorem anyTo_iff {p : Nat → Bool} : ∀ k, anyTo p k = true ↔ ∃ j, j < k ∧ p j = true
  | 0 => by simp [anyTo]
  | k + 1 => by
    unfold anyTo
    rw [Bool.or_eq_true, anyTo_iff k]
    constructor
    · rintro (⟨j, h1, h2⟩ | h)
      · exact ⟨j, by omega, h2⟩
      · exact ⟨k, by omega, h⟩
    · rintro ⟨j, h1, h2⟩
      by_cases e : j = k
      · subst e; exact Or.inr h2
      · exact Or.inl ⟨j, by omega, h2⟩
theorem anyTo_congr {p q : Nat → Bool} : ∀ k, (∀ j, j < k → p j = q j) → anyTo p k = anyTo q k
  | 0, _ => rfl
  | k + 1, h => by
    unfold anyTo
    rw [h k (by omega), anyTo_congr k (fun j hj => h j (by omega))]
/-- the first from k on below 60, or -1 -/
def fstFrom (p : Nat → Bool) : Nat → Nat → Int
  | 0, _ => -1
  | m + 1, k => if p k then (k : Int) else fstFrom p m (k + 1)
end PURE
