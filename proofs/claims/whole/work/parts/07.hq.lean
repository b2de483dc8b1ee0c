/-! the heap in two halves: C the cells of the desk (and the script), M those of the reference (and out) -/
section GHQ
def ii (C M : Nat → Nat → Int) : Nat → Nat → Int := fun a b => if a < 74 then C a b else M a b
theorem ii_C {C M : Nat → Nat → Int} {a b : Nat} (h : a < 74) : ii C M a b = C a b := by simp [ii, h]
theorem ii_M {C M : Nat → Nat → Int} {a b : Nat} (h : 74 ≤ a) : ii C M a b = M a b := by simp [ii, Nat.not_lt.mpr h]
theorem ii_upC {C M : Nat → Nat → Int} {a b : Nat} {x : Int} (h : a < 74) : up (ii C M) a b x = ii (up C a b x) M := by
  funext a' b'
  unfold up ii
  by_cases e : a' = a
  · subst e; simp [h]
  · simp [e]
theorem ii_upM {C M : Nat → Nat → Int} {a b : Nat} {x : Int} (h : 74 ≤ a) : up (ii C M) a b x = ii C (up M a b x) := by
  funext a' b'
  unfold up ii
  by_cases e : a' = a
  · subst e; simp [Nat.not_lt.mpr h]
  · simp [e]
abbrev hq (L : Nat) (C M : Nat → Nat → Int) (Z : Nat → Nat → Option Nat) (R : Nat → Option Nat) : gH := hp L (ii C M) Z R
variable {π : gP} {mi : gM} {pc : Nat} {loc stk : List gV} {L : Nat} {C M : Nat → Nat → Int} {Z : Nat → Nat → Option Nat} {R : Nat → Option Nat} {mc ms : Nat} {Q : Option (Option gV) → gH → Prop}
theorem c_getI {ci k idx n : Nat} {r : vw_C} {x : Int} (hd : decode mi.2.1 pc = .ok (.getfield idx, 3)) (hF : gF π mi.1 idx ci k r) (hi : (r.2.1 k).2.2.1 = "I") (ht : T0 L n = .inl ci) (hn : n < 74) (hv : C n k = x) (kk : G π mi (pc + 3) loc (gI x :: stk) (hq L C M Z R) mc ms Q) : G π mi pc loc (gR (some n) :: stk) (hq L C M Z R) mc ms Q := p_getI hd hF hi ht (by omega) (by rw [ii_C hn]; exact hv) kk
theorem c_putI {ci k idx n : Nat} {r : vw_C} {ty : Nat → FieldType} {x : Int} (hd : decode mi.2.1 pc = .ok (.putfield idx, 3)) (hF : gF π mi.1 idx ci k r) (hT : gT r ty) (hi : (r.2.1 k).2.2.1 = "I" ∧ ty k = .int) (hfin : (r.2.1 k).2.2.2 = false) (ht : T0 L n = .inl ci) (hn : n < 74) (h0 : n ≠ 0) (kk : G π mi (pc + 3) loc stk (hq L (up C n k x) M Z R) mc ms Q) : G π mi pc loc (gI x :: gR (some n) :: stk) (hq L C M Z R) mc ms Q := p_putI hd hF hT hi hfin ht (by omega) h0 (by rw [ii_upC hn]; exact kk)
theorem c_iald {n len : Nat} {j x : Int} (hd : decode mi.2.1 pc = .ok (.iaload, 1)) (ht : T0 L n = .inr (0, len)) (hn : n < 74) (c1 : 0 ≤ j) (c2 : j < len) (hv : C n j.toNat = x) (kk : G π mi (pc + 1) loc (gI x :: stk) (hq L C M Z R) mc ms Q) : G π mi pc loc (gI j :: gR (some n) :: stk) (hq L C M Z R) mc ms Q := p_iald hd ht (by omega) c1 c2 (by rw [ii_C hn]; exact hv) kk
theorem c_iast {n len : Nat} {j x : Int} (hd : decode mi.2.1 pc = .ok (.iastore, 1)) (ht : T0 L n = .inr (0, len)) (hn : n < 74) (h0 : n ≠ 0) (c1 : 0 ≤ j) (c2 : j < len) (kk : G π mi (pc + 1) loc stk (hq L (up C n j.toNat x) M Z R) mc ms Q) : G π mi pc loc (gI x :: gI j :: gR (some n) :: stk) (hq L C M Z R) mc ms Q := p_iast hd ht (by omega) h0 c1 c2 (by rw [ii_upC hn]; exact kk)
theorem m_getI {ci k idx n : Nat} {r : vw_C} {x : Int} (hd : decode mi.2.1 pc = .ok (.getfield idx, 3)) (hF : gF π mi.1 idx ci k r) (hi : (r.2.1 k).2.2.1 = "I") (ht : T0 L n = .inl ci) (hn : 74 ≤ n ∧ n < 87) (hv : M n k = x) (kk : G π mi (pc + 3) loc (gI x :: stk) (hq L C M Z R) mc ms Q) : G π mi pc loc (gR (some n) :: stk) (hq L C M Z R) mc ms Q := p_getI hd hF hi ht hn.2 (by rw [ii_M hn.1]; exact hv) kk
theorem m_putI {ci k idx n : Nat} {r : vw_C} {ty : Nat → FieldType} {x : Int} (hd : decode mi.2.1 pc = .ok (.putfield idx, 3)) (hF : gF π mi.1 idx ci k r) (hT : gT r ty) (hi : (r.2.1 k).2.2.1 = "I" ∧ ty k = .int) (hfin : (r.2.1 k).2.2.2 = false) (ht : T0 L n = .inl ci) (hn : 74 ≤ n ∧ n < 87) (kk : G π mi (pc + 3) loc stk (hq L C (up M n k x) Z R) mc ms Q) : G π mi pc loc (gI x :: gR (some n) :: stk) (hq L C M Z R) mc ms Q := p_putI hd hF hT hi hfin ht hn.2 (by omega) (by rw [ii_upM hn.1]; exact kk)
theorem m_iald {n len : Nat} {j x : Int} (hd : decode mi.2.1 pc = .ok (.iaload, 1)) (ht : T0 L n = .inr (0, len)) (hn : 74 ≤ n ∧ n < 87) (c1 : 0 ≤ j) (c2 : j < len) (hv : M n j.toNat = x) (kk : G π mi (pc + 1) loc (gI x :: stk) (hq L C M Z R) mc ms Q) : G π mi pc loc (gI j :: gR (some n) :: stk) (hq L C M Z R) mc ms Q := p_iald hd ht hn.2 c1 c2 (by rw [ii_M hn.1]; exact hv) kk
theorem m_iast {n len : Nat} {j x : Int} (hd : decode mi.2.1 pc = .ok (.iastore, 1)) (ht : T0 L n = .inr (0, len)) (hn : 74 ≤ n ∧ n < 87) (c1 : 0 ≤ j) (c2 : j < len) (kk : G π mi (pc + 1) loc stk (hq L C (up M n j.toNat x) Z R) mc ms Q) : G π mi pc loc (gI x :: gI j :: gR (some n) :: stk) (hq L C M Z R) mc ms Q := p_iast hd ht hn.2 (by omega) c1 c2 (by rw [ii_upM hn.1]; exact kk)
theorem m_lald {j x : Int} (hd : decode mi.2.1 pc = .ok (.laload, 1)) (hj : j = 0) (hv : M 86 0 = x) (kk : G π mi (pc + 1) loc (gL x :: stk) (hq L C M Z R) mc ms Q) : G π mi pc loc (gI j :: gR (some 86) :: stk) (hq L C M Z R) mc ms Q := p_lald hd hj hv kk
theorem m_last {j x : Int} (hd : decode mi.2.1 pc = .ok (.lastore, 1)) (hj : j = 0) (kk : G π mi (pc + 1) loc stk (hq L C (up M 86 0 x) Z R) mc ms Q) : G π mi pc loc (gL x :: gI j :: gR (some 86) :: stk) (hq L C M Z R) mc ms Q := p_last hd hj (by rw [ii_upM (by decide)]; exact kk)
theorem c_ialdS {j x : Int} (hd : decode mi.2.1 pc = .ok (.iaload, 1)) (c1 : 0 ≤ j) (c2 : j < L) (hv : C 0 j.toNat = x) (kk : G π mi (pc + 1) loc (gI x :: stk) (hq L C M Z R) mc ms Q) : G π mi pc loc (gI j :: gR (some 0) :: stk) (hq L C M Z R) mc ms Q := p_ialdS hd c1 c2 hv kk
end GHQ
section GNUM
theorem g32 {x : Int} (h1 : -2147483648 ≤ x) (h2 : x < 2147483648) : (Int32.ofInt x).toInt = x := Int32.toInt_ofInt_of_le (by omega) (by omega)
theorem gadd_eq {a b : Int} (h1 : -2147483648 ≤ a + b) (h2 : a + b < 2147483648) : gadd a b = a + b := by
  unfold gadd
  rw [← Int32.ofInt_add]
  exact g32 h1 h2
theorem gsub_eq {a b : Int} (h1 : -2147483648 ≤ a - b) (h2 : a - b < 2147483648) : gsub a b = a - b := by
  unfold gsub
  rw [← Int32.ofInt_sub]
  exact g32 h1 h2
theorem gmul_eq {a b : Int} (h1 : -2147483648 ≤ a * b) (h2 : a * b < 2147483648) : gmul a b = a * b := by
  unfold gmul
  rw [← Int32.ofInt_mul]
  exact g32 h1 h2
theorem gdiv_eq {a b : Int} (h1 : 0 ≤ a) (h2 : a < 2147483648) (h3 : 0 < b) (h4 : b < 2147483648) : gdiv a b = a / b := by
  unfold gdiv
  have ha := g32 (x := a) (by omega) h2
  have hb := g32 (x := b) (by omega) h4
  have h5 : (Int32.ofInt a / Int32.ofInt b).toInt = (Int32.ofInt a).toInt.tdiv (Int32.ofInt b).toInt := Int32.toInt_div_of_ne_right _ _ (fun z => by rw [z] at hb; have h9 : (-1 : Int32).toInt = -1 := rfl; omega)
  rw [h5, ha, hb]
  exact Int.tdiv_eq_ediv_of_nonneg h1
theorem grem_eq {a b : Int} (h1 : 0 ≤ a) (h2 : a < 2147483648) (h3 : 0 < b) (h4 : b < 2147483648) : grem a b = a % b := by
  have hd := gdiv_eq h1 h2 h3 h4
  have h5 := Int.emod_add_mul_ediv a b
  have h6 : 0 ≤ a % b := Int.emod_nonneg a (by omega)
  have h7 : a % b < b := Int.emod_lt_of_pos a h3
  have h8 : Int32.ofInt a / Int32.ofInt b = Int32.ofInt (a / b) := by
    rw [← hd]
    unfold gdiv
    rw [Int32.ofInt_toInt]
  unfold grem
  rw [h8, ← Int32.ofInt_mul, ← Int32.ofInt_sub]
  rw [g32]
  · rw [Int.mul_comm]; omega
  · rw [Int.mul_comm]; omega
  · rw [Int.mul_comm]; omega
theorem gadd_nat {k : Nat} (h : k < 2147483647) : gadd (k : Int) 1 = ((k + 1 : Nat) : Int) := by
  rw [gadd_eq (by omega) (by omega)]
  omega
end GNUM
