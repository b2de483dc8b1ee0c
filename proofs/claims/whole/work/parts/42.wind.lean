/-! the relation is kept: the wind's book -/
section OPS6
variable {t : Nat} {S : sT} {M : Nat → Nat → Int}
theorem cntTo_le {p : Nat → Bool} {m : Nat} : ∀ n, (∀ j, j < n → p j = true → j < m) → cntTo p n ≤ (m : Int)
  | 0, _ => by simp [cntTo]
  | n + 1, h => by
    have i := cntTo_le (p := p) (m := m) n (fun j hj => h j (by omega))
    have k := (cntTo_nn (p := p) n).2
    unfold cntTo
    split
    · rename_i e
      have := h n (by omega) e
      omega
    · exact i
theorem cntTo_ge {p : Nat → Bool} {m : Nat} : ∀ n, m ≤ n → (∀ j, j < m → p j = true) → (m : Int) ≤ cntTo p n
  | 0, hm, _ => by have := (cntTo_nn (p := p) 0).1; omega
  | n + 1, hm, h => by
    unfold cntTo
    by_cases e : m = n + 1
    · subst e
      have i := cntTo_ge (p := p) (m := n) n (by omega) (fun j hj => h j (by omega))
      rw [if_pos (h n (by omega))]
      omega
    · have i := cntTo_ge (p := p) (m := m) n (by omega) h
      split <;> omega
theorem cntTo_ex {p : Nat → Bool} : ∀ n, 0 < cntTo p n → ∃ j, j < n ∧ p j = true
  | 0, h => by simp [cntTo] at h
  | n + 1, h => by
    unfold cntTo at h
    by_cases e : p n = true
    · exact ⟨n, by omega, e⟩
    · rw [if_neg e] at h
      obtain ⟨j, j1, j2⟩ := cntTo_ex n h
      exact ⟨j, by omega, j2⟩
theorem cntTo_in {p : Nat → Bool} {j : Nat} : ∀ n, j < n → p j = true → 0 < cntTo p n
  | 0, h, _ => by omega
  | n + 1, h, hp => by
    have k := (cntTo_nn (p := p) n).1
    unfold cntTo
    by_cases e : j = n
    · subst e; rw [if_pos hp]; omega
    · have := cntTo_in (p := p) n (by omega) hp
      split <;> omega
theorem sIns_hi {v : Int} {j : Nat} : ∀ (a : Nat) {C : Nat → Nat → Int}, a < j → sIns C v a 69 j = C 69 j
  | 0, C, h => up_slot (by omega)
  | a + 1, C, h => by
    unfold sIns
    split
    · rw [sIns_hi a (by omega), up_slot (by omega)]
    · exact up_slot (by omega)
theorem sIns_cnt {P : Int → Bool} {v : Int} : ∀ (a : Nat) {C : Nat → Nat → Int}, cntTo (fun j => P (sIns C v a 69 j)) (a + 1) = cntTo (fun j => P (C 69 j)) a + (if P v = true then 1 else 0)
  | 0, C => by
    show (if P (up C 69 0 v 69 0) = true then (0 : Int) + 1 else 0) = 0 + _
    rw [up_same]
    split <;> omega
  | a + 1, C => by
    show (if P (sIns C v (a + 1) 69 (a + 1)) = true then cntTo (fun j => P (sIns C v (a + 1) 69 j)) (a + 1) + 1 else cntTo (fun j => P (sIns C v (a + 1) 69 j)) (a + 1)) = (if P (C 69 a) = true then cntTo (fun j => P (C 69 j)) a + 1 else cntTo (fun j => P (C 69 j)) a) + _
    by_cases q : v < C 69 a
    · have e : sIns C v (a + 1) = sIns (up C 69 (a + 1) (C 69 a)) v a := by rw [sIns, if_pos q]
      rw [e, sIns_cnt a, sIns_hi a (by omega), up_same, cntTo_congr a (p := fun j => P (up C 69 (a + 1) (C 69 a) 69 j)) (q := fun j => P (C 69 j)) (fun j hj => by rw [up_slot (by omega)])]
      split <;> omega
    · have e : sIns C v (a + 1) = up C 69 (a + 1) v := by rw [sIns, if_neg q]
      rw [e, up_same, cntTo_congr (a + 1) (p := fun j => P (up C 69 (a + 1) v 69 j)) (q := fun j => P (C 69 j)) (fun j hj => by rw [up_slot (by omega)])]
      show (if P v = true then (if P (C 69 a) = true then cntTo (fun j => P (C 69 j)) a + 1 else cntTo (fun j => P (C 69 j)) a) + 1 else (if P (C 69 a) = true then cntTo (fun j => P (C 69 j)) a + 1 else cntTo (fun j => P (C 69 j)) a)) = _
      split <;> split <;> omega
theorem sIns_le {v B : Int} (hv : v ≤ B) : ∀ (a : Nat) {C : Nat → Nat → Int}, (∀ j, j < a → C 69 j ≤ B) → ∀ j, j ≤ a → sIns C v a 69 j ≤ B
  | 0, C, h, j, hj => by
    obtain rfl : j = 0 := by omega
    show up C 69 0 v 69 0 ≤ B
    rw [up_same]; exact hv
  | a + 1, C, h, j, hj => by
    unfold sIns
    split
    · by_cases e : j = a + 1
      · subst e
        rw [sIns_hi a (by omega), up_same]
        exact h a (by omega)
      · exact sIns_le hv a (fun i hi => by rw [up_slot (by omega)]; exact h i (by omega)) j (by omega)
    · by_cases e : j = a + 1
      · subst e; rw [up_same]; exact hv
      · rw [up_slot (by omega)]; exact h j (by omega)
theorem sIns_sorted {v : Int} : ∀ (a : Nat) {C : Nat → Nat → Int}, (∀ i j, i ≤ j → j < a → C 69 i ≤ C 69 j) → ∀ i j, i ≤ j → j < a + 1 → sIns C v a 69 i ≤ sIns C v a 69 j
  | 0, C, h, i, j, h1, h2 => by
    obtain rfl : i = j := by omega
    exact Int.le_refl _
  | a + 1, C, h, i, j, h1, h2 => by
    unfold sIns
    split
    · rename_i q
      by_cases e : j = a + 1
      · subst e
        rw [sIns_hi (j := a + 1) a (by omega), up_same]
        by_cases e2 : i = a + 1
        · subst e2; rw [sIns_hi a (by omega), up_same]; exact Int.le_refl _
        · exact sIns_le (by omega) a (fun k hk => by rw [up_slot (by omega)]; exact h k a (by omega) (by omega)) i (by omega)
      · exact sIns_sorted a (fun x y g1 g2 => by rw [up_slot (by omega), up_slot (by omega)]; exact h x y g1 (by omega)) i j h1 (by omega)
    · rename_i q
      by_cases e : j = a + 1
      · subst e
        rw [up_same]
        by_cases e2 : i = a + 1
        · subst e2; rw [up_same]; exact Int.le_refl _
        · rw [up_slot (by omega)]
          have := h i a (by omega) (by omega)
          omega
      · rw [up_slot (by omega), up_slot (by omega)]
        exact h i j h1 (by omega)
theorem sSort_cnt {P : Int → Bool} {C : Nat → Nat → Int} : ∀ n, cntTo (fun j => P (sSort C n 69 j)) n = cntTo (fun j => P (C 68 j)) n
  | 0 => rfl
  | n + 1 => by
    have e : sSort C (n + 1) = sIns (sSort C n) (sSort C n 68 n) n := rfl
    rw [e, sIns_cnt, sSort_cnt n, sSort_ne (by omega)]
    show _ = (if P (C 68 n) = true then cntTo (fun j => P (C 68 j)) n + 1 else cntTo (fun j => P (C 68 j)) n)
    split <;> omega
theorem sSort_sorted {C : Nat → Nat → Int} : ∀ n i j, i ≤ j → j < n → sSort C n 69 i ≤ sSort C n 69 j
  | 0, _, _, _, h => by omega
  | n + 1, i, j, h1, h2 => by
    have e : sSort C (n + 1) = sIns (sSort C n) (sSort C n 68 n) n := rfl
    rw [e]
    exact sIns_sorted n (sSort_sorted n) i j h1 h2
theorem xMidTo_at {n : Nat} {A : Int} : ∀ m, (∀ k, k < m → xLess M n k ≤ ((n / 2 : Nat) : Int) ∧ ((n / 2 : Nat) : Int) < xNot M n k → M 85 k = A) → (∃ k, k < m ∧ xLess M n k ≤ ((n / 2 : Nat) : Int) ∧ ((n / 2 : Nat) : Int) < xNot M n k) → xMidTo M n m = A
  | 0, _, h => by obtain ⟨k, k1, -⟩ := h; omega
  | m + 1, h, hx => by
    unfold xMidTo
    split
    · rename_i q; exact h m (by omega) q
    · rename_i q
      refine xMidTo_at m (fun k hk => h k (by omega)) ?_
      obtain ⟨k, k1, k2⟩ := hx
      have : k ≠ m := fun e => q (by rw [← e]; exact k2)
      exact ⟨k, by omega, k2⟩
/-- the middle of the sorted ones is the middle that counting finds -/
theorem mid_sort {C : Nat → Nat → Int} {n : Nat} (hn : 1 ≤ n) (h : ∀ j, j < n → C 68 j = M 85 j) : xMidTo M n n = sSort C n 69 (n / 2) := by
  have hs := sSort_sorted (C := C) n
  have hl : ∀ k, xLess M n k = cntTo (fun j => decide (sSort C n 69 j < M 85 k)) n := fun k => by
    rw [sSort_cnt (P := fun x => decide (x < M 85 k))]
    exact cntTo_congr n (fun j hj => by rw [h j hj])
  have hg : ∀ k, xNot M n k = cntTo (fun j => decide (sSort C n 69 j ≤ M 85 k)) n := fun k => by
    rw [sSort_cnt (P := fun x => decide (x ≤ M 85 k))]
    exact cntTo_congr n (fun j hj => by rw [h j hj])
  refine xMidTo_at n (fun k hk q => ?_) ?_
  · rw [hl, hg] at q
    rcases Int.lt_trichotomy (M 85 k) (sSort C n 69 (n / 2)) with g | g | g
    · have := cntTo_le (p := fun j => decide (sSort C n 69 j ≤ M 85 k)) (m := n / 2) n (fun j hj p => by
        have p := of_decide_eq_true p
        by_cases z : j < n / 2
        · exact z
        · have := hs (n / 2) j (by omega) hj
          omega)
      omega
    · exact g
    · have := cntTo_ge (p := fun j => decide (sSort C n 69 j < M 85 k)) (m := n / 2 + 1) n (by omega) (fun j hj => by
        refine decide_eq_true ?_
        have := hs j (n / 2) (by omega) (by omega)
        omega)
      omega
  · have p1 : 0 < cntTo (fun j => decide (sSort C n 69 j = sSort C n 69 (n / 2))) n := cntTo_in n (j := n / 2) (by omega) (decide_eq_true rfl)
    rw [sSort_cnt (P := fun x => decide (x = sSort C n 69 (n / 2)))] at p1
    obtain ⟨k, k1, k2⟩ := cntTo_ex n p1
    have k2 := of_decide_eq_true k2
    rw [h k k1] at k2
    refine ⟨k, k1, ?_⟩
    rw [hl, hg, k2]
    constructor
    · refine cntTo_le n (fun j hj p => ?_)
      have p := of_decide_eq_true p
      by_cases z : j < n / 2
      · exact z
      · have := hs (n / 2) j (by omega) hj
        omega
    · have := cntTo_ge (p := fun j => decide (sSort C n 69 j ≤ sSort C n 69 (n / 2))) (m := n / 2 + 1) n (by omega) (fun j hj => decide_eq_true (hs j (n / 2) (by omega) (by omega)))
      omega
theorem rel_wnd {t' : Nat} {C N : Nat → Nat → Int} (h : Rel t S M) (y1 : ∀ a d, a < 67 ∨ 69 < a → C a d = S.1 a d) (x1 : ∀ a d, 75 ≤ a → a ≤ 84 → N a d = M a d) (x2 : ∀ d, d ≠ 12 → d ≠ 0 → N 74 d = M 74 d) (hd : RelW t' (C, S.2) N) : Rel t' (C, S.2) N := by
  obtain ⟨w, hC, hZ, hS, hD, hW, hU, hK⟩ := h
  refine ⟨?_, fun d hd => (hC d hd).frame (fun j => y1 _ _ (by omega)) (fun a _ _ => x1 _ _ (by omega) (by omega)) (fun _ => rfl), ?_, ?_, ?_, hd, ?_, ?_⟩
  · refine w.toC (fun s hs => y1 _ _ (by omega)) (y1 _ _ (by omega)) (fun c hc hp => ?_)
    rw [y1 _ _ (by omega)] at hp
    rw [y1 _ _ (by omega)]
    exact w.2.2.2.2 c hc hp
  · intro s z n hs hn
    obtain ⟨d, d1, d2, d3, d4, d5⟩ := hZ s z n hs hn
    exact ⟨d, d1, d2, by rw [x1 75 d (by omega) (by omega)]; exact d3, by rw [x1 77 d (by omega) (by omega)]; exact d4, by rw [x1 76 d (by omega) (by omega)]; exact d5⟩
  · exact hS.frame (y1 65 1 (by omega)) (x2 10 (by omega) (by omega)) (fun k => x1 84 k (by omega) (by omega)) (fun _ => rfl) (fun d hd => by rw [x1 75 d (by omega) (by omega)])
  · exact hD.frame (fun k => y1 1 k (by omega)) (fun k hk => x2 k (by omega) (by omega))
  · intro a b ha hb
    rw [x1 75 a (by omega) (by omega), x1 75 b (by omega) (by omega), x1 76 a (by omega) (by omega), x1 76 b (by omega) (by omega), x1 77 a (by omega) (by omega), x1 77 b (by omega) (by omega)]
    exact hU a b ha hb
  · intro a b ha hb
    rw [x1 75 b (by omega) (by omega), x1 76 b (by omega) (by omega), x1 77 a (by omega) (by omega), x1 77 b (by omega) (by omega), x1 79 a (by omega) (by omega)]
    exact hK a b ha hb
theorem rel_repA (h : Rel t S M) {rp : Nat} {v : Int} (hrp : M 74 12 = (rp : Int)) (h5 : rp < 5) : Rel (t + 1) (oRepA S.1 rp v, S.2) (up (up M 85 (rp % 5) v) 74 12 ((rp + 1 : Nat) : Int)) := by
  have em : rp % 5 = rp := by omega
  obtain ⟨rp', a1, a2, a3, a4, a5, a6, a7⟩ := h.2.2.2.2.2.1
  obtain rfl : rp' = rp := by omega
  refine rel_wnd h (fun a d e => ?_) (fun a d e1 e2 => ?_) (fun d e1 e2 => ?_) ?_
  · unfold oRepA
    rw [up_cell (by omega), sSort_ne (by omega), up_cell (by omega), up_cell (by omega)]
  · rw [up_cell (by omega), up_cell (by omega)]
  · rw [up_slot (by omega), up_cell (by omega)]
  · have k1 : min (rp' + 1) 5 = rp' + 1 := by omega
    refine ⟨rp' + 1, up_same, by omega, ?_, fun q => ?_, fun q => ?_, fun j hj => ?_, ?_⟩
    · show oRepA S.1 rp' v 67 2 = _
      unfold oRepA
      rw [up_slot (by omega), sSort_ne (by omega), up_same, k1]
    · show oRepA S.1 rp' v 67 3 = _
      unfold oRepA
      rw [up_slot (by omega), sSort_ne (by omega), up_slot (by omega), up_cell (by omega)]
      exact a4 (by omega)
    · show oRepA S.1 rp' v 67 3 = _
      unfold oRepA
      rw [up_slot (by omega), sSort_ne (by omega), up_slot (by omega), up_cell (by omega), a4 (by omega)]
      have : (rp' + 1) % 5 = 0 := by omega
      rw [this]; rfl
    · show oRepA S.1 rp' v 68 j = _
      unfold oRepA
      rw [up_cell (by omega), sSort_ne (by omega), up_cell (by omega), up_cell (a' := 85) (by omega), em]
      by_cases e : j = rp'
      · rw [e, up_same, up_same]
      · rw [up_slot e, up_slot e]
        exact a6 j (by omega)
    · show oRepA S.1 rp' v 67 4 = _
      unfold oRepA xMid
      have hk : xKept (up (up M 85 (rp' % 5) v) 74 12 ((rp' + 1 : Nat) : Int)) = rp' + 1 := by
        unfold xKept
        rw [up_same, Int.toNat_natCast]
        exact k1
      rw [up_same, hk]
      refine (mid_sort (by omega) (fun j hj => ?_)).symm
      rw [up_cell (by omega), up_cell (a' := 85) (by omega), em]
      by_cases e : j = rp'
      · rw [e, up_same, up_same]
      · rw [up_slot e, up_slot e]
        exact a6 j (by omega)
theorem rel_repB (h : Rel t S M) {rp : Nat} {v : Int} (hrp : M 74 12 = (rp : Int)) (h5 : 5 ≤ rp) : Rel (t + 1) (oRepB S.1 (rp % 5) v, S.2) (up (up M 85 (rp % 5) v) 74 12 ((rp + 1 : Nat) : Int)) := by
  obtain ⟨rp', a1, a2, a3, a4, a5, a6, a7⟩ := h.2.2.2.2.2.1
  obtain rfl : rp' = rp := by omega
  refine rel_wnd h (fun a d e => ?_) (fun a d e1 e2 => ?_) (fun d e1 e2 => ?_) ?_
  · unfold oRepB
    rw [up_cell (by omega), sSort_ne (by omega), up_cell (by omega), up_cell (by omega)]
  · rw [up_cell (by omega), up_cell (by omega)]
  · rw [up_slot (by omega), up_cell (by omega)]
  · have k0 : min rp' 5 = 5 := by omega
    have k1 : min (rp' + 1) 5 = 5 := by omega
    refine ⟨rp' + 1, up_same, by omega, ?_, fun q => by omega, fun q => ?_, fun j hj => ?_, ?_⟩
    · show oRepB S.1 (rp' % 5) v 67 2 = _
      unfold oRepB
      rw [up_slot (by omega), sSort_ne (by omega), up_slot (by omega), up_cell (by omega), a3, k1, k0]
    · show oRepB S.1 (rp' % 5) v 67 3 = _
      unfold oRepB
      rw [up_slot (by omega), sSort_ne (by omega), up_same]
      have : (rp' % 5 + 1) % 5 = (rp' + 1) % 5 := by omega
      rw [this]
    · show oRepB S.1 (rp' % 5) v 68 j = _
      unfold oRepB
      rw [up_cell (by omega), sSort_ne (by omega), up_cell (by omega), up_cell (a' := 85) (by omega)]
      by_cases e : j = rp' % 5
      · rw [e, up_same, up_same]
      · rw [up_slot e, up_slot e]
        exact a6 j (by omega)
    · show oRepB S.1 (rp' % 5) v 67 4 = _
      unfold oRepB xMid
      have hk : xKept (up (up M 85 (rp' % 5) v) 74 12 ((rp' + 1 : Nat) : Int)) = 5 := by
        unfold xKept
        rw [up_same, Int.toNat_natCast]
        exact k1
      rw [up_same, hk]
      refine (mid_sort (by omega) (fun j hj => ?_)).symm
      rw [up_cell (by omega), up_cell (a' := 85) (by omega)]
      by_cases e : j = rp' % 5
      · rw [e, up_same, up_same]
      · rw [up_slot e, up_slot e]
        exact a6 j (by omega)
theorem Rel.mono (h : Rel t S M) : Rel (t + 1) S M := by
  obtain ⟨w, hC, hZ, hS, hD, ⟨rp, a1, a2, a3⟩, hU, hK⟩ := h
  exact ⟨w, hC, hZ, hS, hD, ⟨rp, a1, by omega, a3⟩, hU, hK⟩
theorem Rel.wm (h : Rel t S M) (ht : t ≤ 1000) : Wm M := by
  obtain ⟨w, hC, hZ, hS, hD, ⟨rp, a1, a2, a3⟩, hU, hK⟩ := h
  have := hD.2.2.2.1
  exact ⟨hS.2.1, by omega, by omega⟩
end OPS6
