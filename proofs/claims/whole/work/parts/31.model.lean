/-! the reference's steps, as functions of its cells -/
section MODEL
theorem fstFrom_rng {p : Nat → Bool} : ∀ m k, fstFrom p m k = -1 ∨ ∃ j, k ≤ j ∧ j < k + m ∧ p j = true ∧ fstFrom p m k = (j : Int)
  | 0, _ => Or.inl rfl
  | m + 1, k => by
    unfold fstFrom
    split
    · rename_i h; exact Or.inr ⟨k, by omega, by omega, h, rfl⟩
    · rcases fstFrom_rng m (k + 1) with h | ⟨j, h1, h2, h3, h4⟩
      · exact Or.inl h
      · exact Or.inr ⟨j, by omega, by omega, h3, h4⟩
theorem fstFrom_none {p : Nat → Bool} : ∀ m k, (∀ j, k ≤ j → j < k + m → p j = false) → fstFrom p m k = -1
  | 0, _, _ => rfl
  | m + 1, k, h => by
    unfold fstFrom
    rw [h k (by omega) (by omega)]
    exact fstFrom_none m (k + 1) (fun j h1 h2 => h j (by omega) (by omega))
theorem fstFrom_one {p : Nat → Bool} {c : Nat} : ∀ m k, k ≤ c → c < k + m → p c = true → (∀ j, p j = true → j = c) → fstFrom p m k = (c : Int)
  | 0, _, _, h2, _, _ => by omega
  | m + 1, k, h1, h2, h3, h4 => by
    unfold fstFrom
    by_cases e : k = c
    · subst e; rw [h3]; rfl
    · have : p k = false := by
        cases hp : p k
        · rfl
        · exact absurd (h4 k hp) e
      rw [this]
      exact fstFrom_one m (k + 1) (by omega) (by omega) h3 h4
def xIn (M : Nat → Nat → Int) (s z : Int) : Int := fstFrom (fun c => decide (M 75 c = 2 ∧ M 77 c = s ∧ M 76 c = z)) 60 0
theorem xIn_rng {M : Nat → Nat → Int} {s z : Int} : -1 ≤ xIn M s z ∧ xIn M s z < 60 := by
  unfold xIn
  rcases fstFrom_rng (p := (fun c => decide (M 75 c = 2 ∧ M 77 c = s ∧ M 76 c = z))) 60 0 with h | ⟨j, h1, h2, h3, h4⟩ <;> omega
def xEnt (M : Nat → Nat → Int) (c : Nat) (s z : Int) : Nat → Nat → Int := up (up (up (up M 75 c 2) 77 c s) 76 c z) 78 c 0
def xGo1 (M : Nat → Nat → Int) (k : Nat) : Nat → Nat → Int := if M 75 k = 3 ∧ M 76 k = 5700 ∧ xIn M (gsub 1 (M 77 k)) 1 < 0 then xEnt M k (gsub 1 (M 77 k)) 1 else M
def xGoFrom (M : Nat → Nat → Int) (k : Nat) : Nat → Nat → Nat → Int
  | 0 => M
  | m + 1 => xGoFrom (xGo1 M k) (k + 1) m
def xGo (M : Nat → Nat → Int) : Nat → Nat → Int := xGoFrom M 0 60
def xOver (M : Nat → Nat → Int) : Bool := anyTo (fun c => decide (M 75 c = 3 ∧ M 76 c = 5700)) 60
def xAdv (M : Nat → Nat → Int) (k : Nat) : Nat → Nat → Int := fun a b => if a = 76 ∧ b < k then gadd (M 76 b) (if M 75 b = 3 then 1 else 0) else M a b
def xRun (n : Int) : Nat → (Nat → Nat → Int) → Int → (Nat → Nat → Int) × Int
  | 0, M, v => (M, v)
  | f + 1, M, v => if n ≤ v then (M, v) else if xOver M = true then (M, v) else xRun n f (xGo (xAdv M 60)) (v + 1)
def xPulse (M : Nat → Nat → Int) (n : Int) : (Nat → Nat → Int) × Int :=
  (if (xRun n n.toNat (xGo (up M 74 0 0)) 0).2 < n then up (up (xRun n n.toNat (xGo (up M 74 0 0)) 0).1 74 14 (gor ((xRun n n.toNat (xGo (up M 74 0 0)) 0).1 74 14) 8)) 74 19 (gadd ((xRun n n.toNat (xGo (up M 74 0 0)) 0).1 74 19) (xRun n n.toNat (xGo (up M 74 0 0)) 0).2)
   else up (xRun n n.toNat (xGo (up M 74 0 0)) 0).1 74 19 (gadd ((xRun n n.toNat (xGo (up M 74 0 0)) 0).1 74 19) (xRun n n.toNat (xGo (up M 74 0 0)) 0).2), (xRun n n.toNat (xGo (up M 74 0 0)) 0).2)
def xSide (M : Nat → Nat → Int) (c : Nat) : Nat → Nat → Int := up (up (up M 75 c 1) 84 (M 74 10).toNat (c : Int)) 74 10 (M 74 10 + 1)
def xFail (M : Nat → Nat → Int) (c : Nat) (f : Int) : Nat → Nat → Int := if M 74 10 < 20 then xSide (up (up M 83 c f) 74 14 (gor (M 74 14) 1)) c else up (up (up M 83 c f) 74 14 (gor (M 74 14) 1)) 74 14 (gor (gor (M 74 14) 1) 2)
def xOk (M : Nat → Nat → Int) (c : Nat) : Nat → Nat → Int := up (up (up M 75 c 3) 76 c 0) 82 c (gadd (M 82 c) 1)
def xDone (M : Nat → Nat → Int) (c : Nat) : Nat → Nat → Int := up (up (up M 79 c (gadd (M 79 c) 1)) 79 c (-1)) 78 c 0
def xJudge (M : Nat → Nat → Int) (c : Nat) (g w : Int) : Nat → Nat → Int := if w ≤ 4000 then xFail (xDone M c) c 1 else if gmul 3 g < gmul 100 (gsub g w) then xFail (xDone M c) c 2 else xOk (xDone M c) c
def xClamp (M : Nat → Nat → Int) (c : Nat) : Nat → Nat → Int :=
  if M 80 c < 0 then (if gadd (M 79 c) 1 < 40 then up M 79 c (gadd (M 79 c) 1) else xFail (xDone M c) c 3)
  else if M 81 c < M 80 c then xJudge M c (M 80 c) (M 81 c) else xJudge M c (M 81 c) (M 80 c)
def xCnt (M : Nat → Nat → Int) (s : Int) : Int := cntTo (fun c => decide (M 75 c = 2 ∧ M 77 c = s)) 60
def xSpc (M : Nat → Nat → Int) (s : Int) : Int := if 6 ≤ xCnt M s then 90 else if gdiv 12000 (M 74 15) < 90 then 90 else gdiv 12000 (M 74 15)
def xNear (M : Nat → Nat → Int) (s : Int) : Bool := anyTo (fun c => decide (M 75 c = 3 ∧ M 77 c = s ∧ M 76 c < xSpc M s)) 60
def xAge (M : Nat → Nat → Int) (c : Nat) : Nat → Nat → Int := up M 78 c (gadd (M 78 c) 1)
def xWork (M : Nat → Nat → Int) (s : Int) (z : Nat) : Nat → Nat → Int :=
  if xIn M s (z : Int) < 0 then M
  else if z < 12 then (if 15 ≤ gadd (M 78 (xIn M s (z : Int)).toNat) 1 ∧ xIn (xAge M (xIn M s (z : Int)).toNat) s ((z + 1 : Nat) : Int) < 0 then xEnt (xAge M (xIn M s (z : Int)).toNat) (xIn M s (z : Int)).toNat s ((z + 1 : Nat) : Int) else xAge M (xIn M s (z : Int)).toNat)
  else if 0 ≤ M 79 (xIn M s (z : Int)).toNat then xClamp (xAge M (xIn M s (z : Int)).toNat) (xIn M s (z : Int)).toNat
  else if 15 ≤ gadd (M 78 (xIn M s (z : Int)).toNat) 1 ∧ M 74 14 = 0 ∧ xNear (xAge M (xIn M s (z : Int)).toNat) s = false then up (up (up (xAge M (xIn M s (z : Int)).toNat) 79 (xIn M s (z : Int)).toNat 0) 80 (xIn M s (z : Int)).toNat (-1)) 81 (xIn M s (z : Int)).toNat (-1)
  else xAge M (xIn M s (z : Int)).toNat
def xZones (M : Nat → Nat → Int) (s : Int) : Nat → Nat → Nat → Int
  | 0 => M
  | z + 1 => xZones (xWork M s (z + 1)) s z
def xLess (M : Nat → Nat → Int) (n k : Nat) : Int := cntTo (fun j => decide (M 85 j < M 85 k)) n
def xNot (M : Nat → Nat → Int) (n k : Nat) : Int := cntTo (fun j => decide (M 85 j ≤ M 85 k)) n
def xMidTo (M : Nat → Nat → Int) (n : Nat) : Nat → Int
  | 0 => 0
  | k + 1 => if xLess M n k ≤ ((n / 2 : Nat) : Int) ∧ ((n / 2 : Nat) : Int) < xNot M n k then M 85 k else xMidTo M n k
def xKept (M : Nat → Nat → Int) : Nat := min (M 74 12).toNat 5
def xMid (M : Nat → Nat → Int) : Int := xMidTo M (xKept M) (xKept M)
def xWait (M : Nat → Nat → Int) : Bool := anyTo (fun c => decide (M 75 c = 3 ∧ 5640 ≤ M 76 c ∧ 0 ≤ xIn M (gsub 1 (M 77 c)) 1)) 60
def xTarget (M : Nat → Nat → Int) : Int := if M 74 14 ≠ 0 then 0 else if xWait M = true then 0 else if xMid M ≤ 180 then M 74 16 else if M 74 16 ≤ 2 then M 74 16 else 2
def xStep (v t : Int) : Int := if v < t then gadd v 1 else if t < v then gadd v (-1) else gadd v 0
def xEnd (M : Nat → Nat → Int) : Nat → Nat → Int := up (up M 74 17 (xStep (M 74 17) (xTarget M))) 74 18 (gadd (M 74 18) 1)
def xWind (M : Nat → Nat → Int) : Nat → Nat → Int := if xMid M ≤ 250 then M else up M 74 14 (gor (M 74 14) 4)
def xTick (M : Nat → Nat → Int) : Nat → Nat → Int := xEnd (xZones (xZones (xWind M) 0 12) 1 12)
def xTicks (M : Nat → Nat → Int) : Nat → Nat → Nat → Int
  | 0 => M
  | k + 1 => xTicks (xTick M) k
/-- well formed -/
def Wm (M : Nat → Nat → Int) : Prop := (0 ≤ M 74 10 ∧ M 74 10 ≤ 20) ∧ M 74 15 ≠ 0 ∧ (0 ≤ M 74 12 ∧ M 74 12 < 2147483647)
theorem Wm.to {M N : Nat → Nat → Int} (h : Wm M) (h1 : N 74 10 = M 74 10) (h2 : N 74 15 = M 74 15) (h3 : N 74 12 = M 74 12) : Wm N := by
  unfold Wm
  rw [h1, h2, h3]
  exact h
theorem Wm.arr {M : Nat → Nat → Int} (h : Wm M) {a b : Nat} {x : Int} (ha : a ≠ 74) : Wm (up M a b x) := h.to (up_cell (by omega)) (up_cell (by omega)) (up_cell (by omega))
theorem Wm.fld {M : Nat → Nat → Int} (h : Wm M) {b : Nat} {x : Int} (hb : b ≠ 10 ∧ b ≠ 15 ∧ b ≠ 12) : Wm (up M 74 b x) := h.to (up_slot (by omega)) (up_slot (by omega)) (up_slot (by omega))
theorem Wm.ent {M : Nat → Nat → Int} (h : Wm M) {c : Nat} {s z : Int} : Wm (xEnt M c s z) := (((h.arr (by omega)).arr (by omega)).arr (by omega)).arr (by omega)
theorem Wm.go1 {M : Nat → Nat → Int} (h : Wm M) {k : Nat} : Wm (xGo1 M k) := by
  unfold xGo1
  split
  · exact h.ent
  · exact h
theorem Wm.goFrom : ∀ (m k : Nat) {M : Nat → Nat → Int}, Wm M → Wm (xGoFrom M k m)
  | 0, _, _, h => h
  | m + 1, k, _, h => Wm.goFrom m (k + 1) h.go1
theorem Wm.go {M : Nat → Nat → Int} (h : Wm M) : Wm (xGo M) := Wm.goFrom 60 0 h
theorem Wm.adv {M : Nat → Nat → Int} (h : Wm M) {k : Nat} : Wm (xAdv M k) := h.to (by simp [xAdv]) (by simp [xAdv]) (by simp [xAdv])
theorem Wm.side {M : Nat → Nat → Int} (h : Wm M) {c : Nat} (h2 : M 74 10 < 20) : Wm (xSide M c) := by
  have e1 : xSide M c 74 10 = M 74 10 + 1 := up_same
  have e2 : xSide M c 74 15 = M 74 15 := by unfold xSide; rw [up_slot (by omega), up_cell (by omega), up_cell (by omega)]
  have e3 : xSide M c 74 12 = M 74 12 := by unfold xSide; rw [up_slot (by omega), up_cell (by omega), up_cell (by omega)]
  unfold Wm
  rw [e1, e2, e3]
  have := h.1
  exact ⟨by omega, h.2⟩
theorem Wm.fail {M : Nat → Nat → Int} (h : Wm M) {c : Nat} {f : Int} : Wm (xFail M c f) := by
  have w := (h.arr (a := 83) (b := c) (x := f) (by omega)).fld (b := 14) (x := gor (M 74 14) 1) (by omega)
  unfold xFail
  split
  · rename_i q
    refine w.side ?_
    rw [up_slot (by omega), up_cell (by omega)]
    exact q
  · exact w.fld (by omega)
theorem Wm.ok {M : Nat → Nat → Int} (h : Wm M) {c : Nat} : Wm (xOk M c) := ((h.arr (by omega)).arr (by omega)).arr (by omega)
theorem Wm.done {M : Nat → Nat → Int} (h : Wm M) {c : Nat} : Wm (xDone M c) := ((h.arr (by omega)).arr (by omega)).arr (by omega)
theorem Wm.judge {M : Nat → Nat → Int} (h : Wm M) {c : Nat} {g w : Int} : Wm (xJudge M c g w) := by
  unfold xJudge
  (repeat' split) <;> first | exact h.done.fail | exact h.done.ok
theorem Wm.clamp {M : Nat → Nat → Int} (h : Wm M) {c : Nat} : Wm (xClamp M c) := by
  unfold xClamp
  (repeat' split) <;> first | exact h.arr (by omega) | exact h.done.fail | exact h.judge
theorem Wm.age {M : Nat → Nat → Int} (h : Wm M) {c : Nat} : Wm (xAge M c) := h.arr (by omega)
theorem Wm.work {M : Nat → Nat → Int} (h : Wm M) {s : Int} {z : Nat} : Wm (xWork M s z) := by
  unfold xWork
  (repeat' split) <;> first | exact h | exact h.age.ent | exact h.age | exact h.age.clamp | exact ((h.age.arr (by omega)).arr (by omega)).arr (by omega)
theorem Wm.zones {s : Int} : ∀ (z : Nat) {M : Nat → Nat → Int}, Wm M → Wm (xZones M s z)
  | 0, _, h => h
  | z + 1, _, h => Wm.zones z h.work
theorem Wm.wind {M : Nat → Nat → Int} (h : Wm M) : Wm (xWind M) := by
  unfold xWind
  split
  · exact h
  · exact h.fld (by omega)
theorem Wm.tick {M : Nat → Nat → Int} (h : Wm M) : Wm (xTick M) := by
  have w := Wm.zones (s := 1) 12 (Wm.zones (s := 0) 12 h.wind)
  unfold xTick xEnd
  exact (w.fld (by omega)).fld (by omega)
end MODEL
