/-! the heap behind the constructors: numbers of cells, and rows over it -/
section GHP
def up {α : Type} (f : Nat → Nat → α) (a b : Nat) (x : α) : Nat → Nat → α := fun a' b' => if a' = a ∧ b' = b then x else f a' b'
def up1 {α : Type} (f : Nat → α) (b : Nat) (x : α) : Nat → α := fun b' => if b' = b then x else f b'
theorem up_same {α : Type} {f : Nat → Nat → α} {a b : Nat} {x : α} : up f a b x a b = x := by simp [up]
theorem up_cell {α : Type} {f : Nat → Nat → α} {a b a' b' : Nat} {x : α} (h : a' ≠ a) : up f a b x a' b' = f a' b' := by simp [up, h]
theorem up_slot {α : Type} {f : Nat → Nat → α} {a b a' b' : Nat} {x : α} (h : b' ≠ b) : up f a b x a' b' = f a' b' := by simp [up, h]
def T1 (n : Nat) : Nat ⊕ (Nat × Nat) := match n with
  | 64 => .inr (6, 2)
  | 65 => .inl 2
  | 66 => .inr (3, 20)
  | 67 => .inl 4
  | 68 => .inr (0, 5)
  | 69 => .inr (0, 5)
  | 70 => .inl 3
  | 71 => .inr (3, 13)
  | 72 => .inl 3
  | 73 => .inr (3, 13)
  | 74 => .inl 6
  | 84 => .inr (0, 20)
  | 85 => .inr (0, 5)
  | 86 => .inr (1, 1)
  | _ => .inr (0, 60)
def T0 (L n : Nat) : Nat ⊕ (Nat × Nat) := if n = 0 then .inr (2, L) else if n = 1 then .inl 5 else if n = 2 then .inl 1 else if n = 3 then .inr (3, 60) else if n < 64 then .inl 0 else T1 n
/-- the references that never change -/
def rs (a b : Nat) : Option Nat := if a = 3 then (if b < 60 then some (4 + b) else none) else match a, b with
  | 1, 0 => some 2
  | 1, 1 => some 64
  | 1, 2 => some 65
  | 1, 3 => some 67
  | 2, 0 => some 3
  | 64, 0 => some 70
  | 64, 1 => some 72
  | 65, 0 => some 66
  | 67, 0 => some 68
  | 67, 1 => some 69
  | 70, 1 => some 71
  | 72, 1 => some 73
  | 74, 1 => some 75
  | 74, 2 => some 76
  | 74, 3 => some 77
  | 74, 4 => some 78
  | 74, 5 => some 79
  | 74, 6 => some 80
  | 74, 7 => some 81
  | 74, 8 => some 82
  | 74, 9 => some 83
  | 74, 11 => some 84
  | 74, 13 => some 85
  | _, _ => none
def rr (Z : Nat → Nat → Option Nat) (R : Nat → Option Nat) (a b : Nat) : Option Nat := if a = 66 then R b else if a = 71 then Z 0 b else if a = 73 then Z 1 b else rs a b
abbrev hp (L : Nat) (i : Nat → Nat → Int) (Z : Nat → Nat → Option Nat) (R : Nat → Option Nat) : gH := (T0 L, i, rr Z R, 87, false)
theorem T0_cab {L n : Nat} (h1 : 4 ≤ n) (h2 : n < 64) : T0 L n = .inl 0 := by
  unfold T0
  rw [if_neg (by omega), if_neg (by omega), if_neg (by omega), if_neg (by omega), if_pos h2]
theorem T0_st {L s : Nat} (h : s < 2) : T0 L (70 + 2 * s) = .inl 3 := by
  rcases (by omega : s = 0 ∨ s = 1) with rfl | rfl <;> rfl
theorem T0_zones {L s : Nat} (h : s < 2) : T0 L (71 + 2 * s) = .inr (3, 13) := by
  rcases (by omega : s = 0 ∨ s = 1) with rfl | rfl <;> rfl
theorem rr_cab {Z : Nat → Nat → Option Nat} {R : Nat → Option Nat} {k : Nat} (h : k < 60) : rr Z R 3 k = some (4 + k) := by simp [rr, rs, h]
theorem rr_st {Z : Nat → Nat → Option Nat} {R : Nat → Option Nat} {s : Nat} (h : s < 2) : rr Z R 64 s = some (70 + 2 * s) := by
  rcases (by omega : s = 0 ∨ s = 1) with rfl | rfl <;> rfl
theorem rr_zs {Z : Nat → Nat → Option Nat} {R : Nat → Option Nat} {s : Nat} (h : s < 2) : rr Z R (70 + 2 * s) 1 = some (71 + 2 * s) := by
  rcases (by omega : s = 0 ∨ s = 1) with rfl | rfl <;> rfl
theorem rr_zone {Z : Nat → Nat → Option Nat} {R : Nat → Option Nat} {s k : Nat} (h : s < 2) : rr Z R (71 + 2 * s) k = Z s k := by
  rcases (by omega : s = 0 ∨ s = 1) with rfl | rfl <;> rfl
theorem rr_row {Z : Nat → Nat → Option Nat} {R : Nat → Option Nat} {k : Nat} : rr Z R 66 k = R k := rfl
variable {π : gP} {mi : gM} {pc : Nat} {loc stk : List gV} {L : Nat} {i : Nat → Nat → Int} {Z : Nat → Nat → Option Nat} {R : Nat → Option Nat} {mc ms : Nat} {Q : Option (Option gV) → gH → Prop}
theorem p_getI {ci k idx n : Nat} {r : vw_C} {x : Int} (hd : decode mi.2.1 pc = .ok (.getfield idx, 3)) (hF : gF π mi.1 idx ci k r) (hi : (r.2.1 k).2.2.1 = "I") (ht : T0 L n = .inl ci) (hn : n < 87) (hv : i n k = x) (kk : G π mi (pc + 3) loc (gI x :: stk) (hp L i Z R) mc ms Q) : G π mi pc loc (gR (some n) :: stk) (hp L i Z R) mc ms Q := g_getI hd hF hi ht hn hv kk
theorem p_getR {ci k idx n : Nat} {r : vw_C} {o : Option Nat} (hd : decode mi.2.1 pc = .ok (.getfield idx, 3)) (hF : gF π mi.1 idx ci k r) (hi : (r.2.1 k).2.2.1 ≠ "I") (ht : T0 L n = .inl ci) (hn : n < 87) (hv : rr Z R n k = o) (kk : G π mi (pc + 3) loc (gR o :: stk) (hp L i Z R) mc ms Q) : G π mi pc loc (gR (some n) :: stk) (hp L i Z R) mc ms Q := g_getR hd hF hi ht hn hv kk
theorem p_putI {ci k idx n : Nat} {r : vw_C} {ty : Nat → FieldType} {x : Int} (hd : decode mi.2.1 pc = .ok (.putfield idx, 3)) (hF : gF π mi.1 idx ci k r) (hT : gT r ty) (hi : (r.2.1 k).2.2.1 = "I" ∧ ty k = .int) (hfin : (r.2.1 k).2.2.2 = false) (ht : T0 L n = .inl ci) (hn : n < 87) (h0 : n ≠ 0) (kk : G π mi (pc + 3) loc stk (hp L (up i n k x) Z R) mc ms Q) : G π mi pc loc (gI x :: gR (some n) :: stk) (hp L i Z R) mc ms Q := g_putI hd hF hT hi (Or.inl hfin) ht hn h0 kk
theorem p_iald {n len : Nat} {j x : Int} (hd : decode mi.2.1 pc = .ok (.iaload, 1)) (ht : T0 L n = .inr (0, len)) (hn : n < 87) (c1 : 0 ≤ j) (c2 : j < len) (hv : i n j.toNat = x) (kk : G π mi (pc + 1) loc (gI x :: stk) (hp L i Z R) mc ms Q) : G π mi pc loc (gI j :: gR (some n) :: stk) (hp L i Z R) mc ms Q := g_iald hd ht hn c1 c2 hv kk
theorem p_iast {n len : Nat} {j x : Int} (hd : decode mi.2.1 pc = .ok (.iastore, 1)) (ht : T0 L n = .inr (0, len)) (hn : n < 87) (h0 : n ≠ 0) (c1 : 0 ≤ j) (c2 : j < len) (kk : G π mi (pc + 1) loc stk (hp L (up i n j.toNat x) Z R) mc ms Q) : G π mi pc loc (gI x :: gI j :: gR (some n) :: stk) (hp L i Z R) mc ms Q := g_iast hd ht hn h0 c1 c2 kk
theorem p_lald {j x : Int} (hd : decode mi.2.1 pc = .ok (.laload, 1)) (hj : j = 0) (hv : i 86 0 = x) (kk : G π mi (pc + 1) loc (gL x :: stk) (hp L i Z R) mc ms Q) : G π mi pc loc (gI j :: gR (some 86) :: stk) (hp L i Z R) mc ms Q := by
  subst hj
  exact g_lald (len := 1) hd rfl (by show 86 < 87; decide) (by decide) (by decide) hv kk
theorem p_last {j x : Int} (hd : decode mi.2.1 pc = .ok (.lastore, 1)) (hj : j = 0) (kk : G π mi (pc + 1) loc stk (hp L (up i 86 0 x) Z R) mc ms Q) : G π mi pc loc (gL x :: gI j :: gR (some 86) :: stk) (hp L i Z R) mc ms Q := by
  subst hj
  exact g_last (len := 1) hd rfl (by show 86 < 87; decide) (by decide) (by decide) (by decide) kk
theorem p_ialdS {j x : Int} (hd : decode mi.2.1 pc = .ok (.iaload, 1)) (c1 : 0 ≤ j) (c2 : j < L) (hv : i 0 j.toNat = x) (kk : G π mi (pc + 1) loc (gI x :: stk) (hp L i Z R) mc ms Q) : G π mi pc loc (gI j :: gR (some 0) :: stk) (hp L i Z R) mc ms Q := g_ialdS hd rfl (by show 0 < 87; decide) c1 c2 hv kk
theorem p_alenS (hlen : L < 2147483648) (hd : decode mi.2.1 pc = .ok (.arraylength, 1)) (kk : G π mi (pc + 1) loc (gI (L : Int) :: stk) (hp L i Z R) mc ms Q) : G π mi pc loc (gR (some 0) :: stk) (hp L i Z R) mc ms Q := g_alenS hlen hd rfl (by show 0 < 87; decide) kk
theorem p_aald {n len ci : Nat} {j : Int} {r : vw_C} {o : Option Nat} (hr : π.2.2.1[ci]? = some r ∧ ci ∈ π.2.2.2.1) (hd : decode mi.2.1 pc = .ok (.aaload, 1)) (ht : T0 L n = .inr (ci + 3, len)) (hn : n < 87) (c1 : 0 ≤ j) (c2 : j < len) (hv : rr Z R n j.toNat = o) (kk : G π mi (pc + 1) loc (gR o :: stk) (hp L i Z R) mc ms Q) : G π mi pc loc (gI j :: gR (some n) :: stk) (hp L i Z R) mc ms Q := g_aald hr hd ht hn c1 c2 hv kk
theorem rr_setZ {s k : Nat} {o : Option Nat} (hs : s < 2) : gsetR (hp L i Z R) (71 + 2 * s) k o = hp L i (up Z s k o) R := by
  unfold gsetR
  show (T0 L, i, (fun a b => if a = 71 + 2 * s ∧ b = k then o else rr Z R a b), 87, false) = (T0 L, i, rr (up Z s k o) R, 87, false)
  congr 3
  funext a b
  unfold rr up
  rcases (by omega : s = 0 ∨ s = 1) with rfl | rfl
  · by_cases e : a = 71
    · subst e; simp
    · simp [e]
  · by_cases e : a = 73
    · subst e; simp
    · simp [e]
theorem rr_setR {k : Nat} {o : Option Nat} : gsetR (hp L i Z R) 66 k o = hp L i Z (up1 R k o) := by
  unfold gsetR
  show (T0 L, i, (fun a b => if a = 66 ∧ b = k then o else rr Z R a b), 87, false) = (T0 L, i, rr Z (up1 R k o), 87, false)
  congr 3
  funext a b
  unfold rr up1
  by_cases e : a = 66
  · subst e; simp
  · simp [e]
/-- into a zone -/
theorem p_aastZ {s : Nat} {j : Int} {r : vw_C} {o : Option Nat} (hr : π.2.2.1[0]? = some r ∧ 0 ∈ π.2.2.2.1) (hd : decode mi.2.1 pc = .ok (.aastore, 1)) (hs : s < 2) (c1 : 0 ≤ j) (c2 : j < 13) (ho : ∀ v, o = some v → 4 ≤ v ∧ v < 64) (kk : G π mi (pc + 1) loc stk (hp L i (up Z s j.toNat o) R) mc ms Q) : G π mi pc loc (gR o :: gI j :: gR (some (71 + 2 * s)) :: stk) (hp L i Z R) mc ms Q :=
  g_aast (len := 13) (ci := 0) hr hd (T0_zones hs) (by show 71 + 2 * s < 87; omega) (by omega) c1 c2 (fun v hv => ⟨T0_cab (ho v hv).1 (ho v hv).2, by have := (ho v hv).2; show v < 87; omega⟩) (by rw [rr_setZ hs]; exact kk)
/-- into the siding's row -/
theorem p_aastR {j : Int} {r : vw_C} {o : Option Nat} (hr : π.2.2.1[0]? = some r ∧ 0 ∈ π.2.2.2.1) (hd : decode mi.2.1 pc = .ok (.aastore, 1)) (c1 : 0 ≤ j) (c2 : j < 20) (ho : ∀ v, o = some v → 4 ≤ v ∧ v < 64) (kk : G π mi (pc + 1) loc stk (hp L i Z (up1 R j.toNat o)) mc ms Q) : G π mi pc loc (gR o :: gI j :: gR (some 66) :: stk) (hp L i Z R) mc ms Q :=
  g_aast (len := 20) (ci := 0) hr hd rfl (by show 66 < 87; decide) (by decide) c1 c2 (fun v hv => ⟨T0_cab (ho v hv).1 (ho v hv).2, by have := (ho v hv).2; show v < 87; omega⟩) (by rw [rr_setR]; exact kk)
end GHP
