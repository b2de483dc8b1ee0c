/-! the relation is kept: ages, siding, clamping -/
section OPS2
variable {t : Nat} {S : sT} {M : Nat → Nat → Int}
theorem rel_age (h : Rel t S M) {c : Nat} (hc : c < 60) (hp : M 75 c = 2) : Rel t (up S.1 (4 + c) 5 (gadd (S.1 (4 + c) 5) 1), S.2) (xAge M c) := by
  obtain ⟨w, hC, hZ, hS, hD, hW, hU, hK⟩ := h
  have x1 : ∀ a d, a ≠ 78 → xAge M c a d = M a d := fun a d h => up_cell h
  refine ⟨w.cab (by omega) (by omega) (by omega), fun d hd => ?_, ?_, ?_, ?_, ?_, ?_, ?_⟩
  · by_cases e : d = c
    · subst e
      obtain ⟨a1, a2, a3, a4, a5, a6, a7, a8, a9, a10, a11, a12⟩ := hC d hd
      unfold RelC
      dsimp only
      rw [x1 75 d (by omega), x1 76 d (by omega), x1 77 d (by omega), x1 79 d (by omega), x1 80 d (by omega), x1 81 d (by omega), x1 82 d (by omega), x1 83 d (by omega), up_slot (b' := 0) (by omega), up_slot (b' := 1) (by omega), up_slot (b' := 2) (by omega), up_slot (b' := 3) (by omega), up_slot (b' := 4) (by omega), up_slot (b' := 6) (by omega), up_slot (b' := 7) (by omega), up_slot (b' := 8) (by omega), up_slot (b' := 9) (by omega), up_slot (b' := 10) (by omega), up_same]
      obtain ⟨b1, b2, b3, b4⟩ := a4 hp
      refine ⟨a1, a2, a3, fun _ => ⟨b1, b2, ?_, b4⟩, a5, a6, fun q => absurd hp q, a8, a9, a10, a11, a12⟩
      rw [xAge, up_same, b3]
    · exact (hC d hd).frame (fun j => up_cell (by omega)) (fun a _ _ => up_slot e) (fun _ => rfl)
  · intro s z n hs hn
    obtain ⟨d, d1, d2, d3, d4, d5⟩ := hZ s z n hs hn
    exact ⟨d, d1, d2, by rw [x1 75 d (by omega)]; exact d3, by rw [x1 77 d (by omega)]; exact d4, by rw [x1 76 d (by omega)]; exact d5⟩
  · exact hS.frame (up_cell (by omega)) (x1 74 10 (by omega)) (fun k => x1 84 k (by omega)) (fun _ => rfl) (fun d hd => by rw [x1 75 d (by omega)])
  · exact hD.frame (fun k => up_cell (by omega)) (fun k _ => x1 74 k (by omega))
  · exact hW.frame (fun k => up_cell (by omega)) (fun k => up_cell (by omega)) (x1 74 12 (by omega)) (fun k => x1 85 k (by omega))
  · intro a b ha hb
    rw [x1 75 a (by omega), x1 75 b (by omega), x1 76 a (by omega), x1 76 b (by omega), x1 77 a (by omega), x1 77 b (by omega)]
    exact hU a b ha hb
  · intro a b ha hb
    rw [x1 75 b (by omega), x1 76 b (by omega), x1 77 a (by omega), x1 77 b (by omega), x1 79 a (by omega)]
    exact hK a b ha hb
/-- the locks -/
theorem gor_b {x b : Int} (h : 0 ≤ x ∧ x ≤ 15) (hb : b = 1 ∨ b = 2 ∨ b = 4 ∨ b = 8) : 0 ≤ gor x b ∧ gor x b ≤ 15 := by
  rcases (by omega : x = 0 ∨ x = 1 ∨ x = 2 ∨ x = 3 ∨ x = 4 ∨ x = 5 ∨ x = 6 ∨ x = 7 ∨ x = 8 ∨ x = 9 ∨ x = 10 ∨ x = 11 ∨ x = 12 ∨ x = 13 ∨ x = 14 ∨ x = 15) with rfl | rfl | rfl | rfl | rfl | rfl | rfl | rfl | rfl | rfl | rfl | rfl | rfl | rfl | rfl | rfl <;> rcases hb with rfl | rfl | rfl | rfl <;> decide
theorem gshl_b : gshl 1 0 = 1 ∧ gshl 1 1 = 2 ∧ gshl 1 2 = 4 ∧ gshl 1 3 = 8 := by decide
theorem rel_lock (h : Rel t S M) {k b : Int} (hb : b = 1 ∨ b = 2 ∨ b = 4 ∨ b = 8) (hk : gshl 1 k = b) : Rel t (oLock S.1 k, S.2) (up M 74 14 (gor (M 74 14) b)) := by
  obtain ⟨w, hC, hZ, hS, hD, hW, hU, hK⟩ := h
  have x1 : ∀ a d, a ≠ 74 → up M 74 14 (gor (M 74 14) b) a d = M a d := fun a d h => up_cell h
  have x2 : ∀ d, d ≠ 14 → up M 74 14 (gor (M 74 14) b) 74 d = M 74 d := fun d h => up_slot h
  have y1 : ∀ a d, a ≠ 1 → oLock S.1 k a d = S.1 a d := fun a d h => up_cell h
  have y2 : ∀ d, d ≠ 4 → oLock S.1 k 1 d = S.1 1 d := fun d h => up_slot h
  refine ⟨w.lock, fun d hd => (hC d hd).frame (fun j => y1 _ _ (by omega)) (fun a _ _ => x1 _ _ (by omega)) (fun _ => rfl), ?_, ?_, ?_, ?_, ?_, ?_⟩
  · intro s z n hs hn
    obtain ⟨d, d1, d2, d3, d4, d5⟩ := hZ s z n hs hn
    exact ⟨d, d1, d2, by rw [x1 75 d (by omega)]; exact d3, by rw [x1 77 d (by omega)]; exact d4, by rw [x1 76 d (by omega)]; exact d5⟩
  · exact hS.frame (y1 65 1 (by omega)) (x2 10 (by omega)) (fun k => x1 84 k (by omega)) (fun _ => rfl) (fun d hd => by rw [x1 75 d (by omega)])
  · obtain ⟨a1, a2, a3, a4, a5, a6, a7, a8, a9, a10⟩ := hD
    unfold RelD
    dsimp only
    rw [y2 5 (by omega), y2 6 (by omega), y2 7 (by omega), y2 8 (by omega), y2 9 (by omega), x2 15 (by omega), x2 16 (by omega), x2 17 (by omega), x2 18 (by omega), x2 19 (by omega), up_same]
    refine ⟨?_, gor_b a2 hb, a3, a4, a5, a6, a7, a8, a9, a10⟩
    unfold oLock
    rw [up_same, hk, a1]
  · exact hW.frame (fun k => y1 67 k (by omega)) (fun k => y1 68 k (by omega)) (x2 12 (by omega)) (fun k => x1 85 k (by omega))
  · intro a b ha hb
    rw [x1 75 a (by omega), x1 75 b (by omega), x1 76 a (by omega), x1 76 b (by omega), x1 77 a (by omega), x1 77 b (by omega)]
    exact hU a b ha hb
  · intro a b ha hb
    rw [x1 75 b (by omega), x1 76 b (by omega), x1 77 a (by omega), x1 77 b (by omega), x1 79 a (by omega)]
    exact hK a b ha hb
/-- a cabin comes into the siding; Z0: the zones without it -/
theorem rel_side {Z0 : Nat → Nat → Option Nat} {k : Nat} (h : Rel t S M) (hk : k < 60) (h0 : ∀ a b, a < 2 → Z0 a b = S.2.1 a b ∨ (Z0 a b = none ∧ S.2.1 a b = some (4 + k))) (h1 : ∀ a b, a < 2 → Z0 a b ≠ some (4 + k)) (hcl : M 79 k < 0) (hp : M 75 k ≠ 1) (hr : M 74 10 < 20)
    (hw : Wf (oAppend (S.1, Z0, S.2.2) (4 + k))) : Rel t (oAppend (S.1, Z0, S.2.2) (4 + k)) (xSide M k) := by
  obtain ⟨w, hC, hZ, hS, hD, hW, hU, hK⟩ := h
  obtain ⟨s1, s2, s3, s4, s5⟩ := hS
  have x1 : ∀ a d, a ≠ 74 → a ≠ 75 → a ≠ 84 → xSide M k a d = M a d := fun a d h h2 h3 => by unfold xSide; rw [up_cell h, up_cell h3, up_cell h2]
  have x75 : ∀ d, xSide M k 75 d = if d = k then 1 else M 75 d := fun d => by
    unfold xSide
    rw [up_cell (by omega), up_cell (by omega)]
    unfold up
    by_cases e : d = k <;> simp [e]
  have x84 : ∀ d, xSide M k 84 d = if d = (M 74 10).toNat then (k : Int) else M 84 d := fun d => by
    unfold xSide
    rw [up_cell (by omega)]
    unfold up
    by_cases e : d = (M 74 10).toNat <;> simp [e]
  have x74 : ∀ d, d ≠ 10 → xSide M k 74 d = M 74 d := fun d h => by unfold xSide; rw [up_slot h, up_cell (by omega), up_cell (by omega)]
  have x10 : xSide M k 74 10 = M 74 10 + 1 := up_same
  have y1 : ∀ a d, a ≠ 65 → a ≠ 4 + k → (oAppend (S.1, Z0, S.2.2) (4 + k)).1 a d = S.1 a d := fun a d h h2 => by unfold oAppend; dsimp only; rw [up_cell h, sStand_cell h2]
  refine ⟨hw, fun d hd => ?_, ?_, ?_, ?_, ?_, ?_, ?_⟩
  · by_cases e : d = k
    · subst e
      obtain ⟨a1, a2, a3, a4, a5, a6, a7, a8, a9, a10, a11, a12⟩ := hC d hd
      have z : ∀ j, (oAppend (S.1, Z0, S.2.2) (4 + d)).1 (4 + d) j = sStand S.1 (4 + d) 1 (4 + d) j := fun j => by unfold oAppend; dsimp only; rw [up_cell (by omega)]
      unfold RelC
      rw [z 0, z 1, z 2, z 3, z 4, z 5, z 6, z 7, z 8, z 9, z 10, x75 d, if_pos rfl, x1 76 d (by omega) (by omega) (by omega), x1 77 d (by omega) (by omega) (by omega), x1 78 d (by omega) (by omega) (by omega), x1 79 d (by omega) (by omega) (by omega), x1 80 d (by omega) (by omega) (by omega), x1 81 d (by omega) (by omega) (by omega), x1 82 d (by omega) (by omega) (by omega), x1 83 d (by omega) (by omega) (by omega), sStand_k (k := 0) (by omega), sStand_k (k := 4) (by omega), sStand_k (k := 6) (by omega), sStand_k (k := 7) (by omega), sStand_k (k := 8) (by omega), sStand_k (k := 9) (by omega), sStand_k (k := 10) (by omega)]
      refine ⟨a1, by simp [sStand, up], by omega, fun q => by omega, fun q => by omega, fun _ => by simp [sStand, up], fun _ => ⟨by simp [sStand, up], by simp [sStand, up]⟩, a8, fun q => by omega, a10, a11, a12⟩
    · refine (hC d hd).frame (fun j => y1 _ _ (by omega) (by omega)) (fun a _ _ => ?_) (fun q => ?_)
      · by_cases e75 : a = 75
        · subst e75; rw [x75, if_neg e]
        · exact x1 a d (by omega) e75 (by omega)
      · obtain ⟨-, -, -, a4, -⟩ := hC d hd
        obtain ⟨-, -, -, b1, b2, b3⟩ := a4 q
        rcases h0 (M 77 d).toNat (M 76 d).toNat (by omega) with g | ⟨g, g2⟩
        · exact g
        · rw [b3] at g2
          have := Option.some.inj g2
          omega
  · intro a b n ha hn
    have hn : Z0 a b = some n := hn
    rcases h0 a b ha with g | ⟨g, -⟩
    · have hn2 := hn
      rw [g] at hn2
      obtain ⟨c, c1, c2, c3, c4, c5⟩ := hZ a b n ha hn2
      have e : c ≠ k := fun e => h1 a b ha (by rw [hn, c2, e])
      exact ⟨c, c1, c2, by rw [x75, if_neg e]; exact c3, by rw [x1 77 c (by omega) (by omega) (by omega)]; exact c4, by rw [x1 76 c (by omega) (by omega) (by omega)]; exact c5⟩
    · rw [g] at hn; cases hn
  · unfold RelS
    rw [x10]
    have hR : ∀ j, (oAppend (S.1, Z0, S.2.2) (4 + k)).2.2 j = if j = (M 74 10).toNat then some (4 + k) else S.2.2 j := fun j => by
      show up1 S.2.2 (S.1 65 1).toNat (some (4 + k)) j = _
      rw [s1]; rfl
    refine ⟨?_, by omega, fun j hj => ?_, fun i j hi hj e => ?_, fun c hc hp9 => ?_⟩
    · show up (sStand S.1 (4 + k) 1) 65 1 (S.1 65 1 + 1) 65 1 = _
      rw [up_same, s1]
    · by_cases e : j = (M 74 10).toNat
      · exact ⟨k, hk, by rw [x84, if_pos e], by rw [hR, if_pos e], by rw [x75, if_pos rfl]⟩
      · obtain ⟨c, c1, c2, c3, c4⟩ := s3 j (by omega)
        exact ⟨c, c1, by rw [x84, if_neg e]; exact c2, by rw [hR, if_neg e]; exact c3, by rw [x75, if_neg (fun q => hp (by rw [← q]; exact c4))]; exact c4⟩
    · rw [x84, x84] at e
      have nk : ∀ j : Nat, (j : Int) < M 74 10 → M 84 j ≠ (k : Int) := fun j hj q => by
        obtain ⟨c, c1, c2, c3, c4⟩ := s3 j hj
        rw [c2] at q
        have : c = k := by omega
        rw [this] at c4
        exact hp c4
      by_cases ei : i = (M 74 10).toNat
      · by_cases ej : j = (M 74 10).toNat
        · omega
        · rw [if_pos ei, if_neg ej] at e
          exact absurd e.symm (nk j (by omega))
      · by_cases ej : j = (M 74 10).toNat
        · rw [if_neg ei, if_pos ej] at e
          exact absurd e (nk i (by omega))
        · rw [if_neg ei, if_neg ej] at e
          exact s4 i j (by omega) (by omega) e
    · by_cases e : c = k
      · exact ⟨(M 74 10).toNat, by omega, by rw [x84, if_pos rfl, e]⟩
      · rw [x75, if_neg e] at hp9
        obtain ⟨j, j1, j2⟩ := s5 c hc hp9
        exact ⟨j, by omega, by rw [x84, if_neg (by omega)]; exact j2⟩
  · exact hD.frame (fun j => y1 _ _ (by omega) (by omega)) (fun j hj => x74 j (by omega))
  · exact hW.frame (fun j => y1 _ _ (by omega) (by omega)) (fun j => y1 _ _ (by omega) (by omega)) (x74 12 (by omega)) (fun j => x1 85 j (by omega) (by omega) (by omega))
  · intro a b ha hb g1 g2
    rw [x75] at g1 g2
    have e1 : a ≠ k := fun e => by rw [if_pos e] at g1; omega
    have e2 : b ≠ k := fun e => by rw [if_pos e] at g2; omega
    rw [if_neg e1] at g1
    rw [if_neg e2] at g2
    rw [x1 77 a (by omega) (by omega) (by omega), x1 77 b (by omega) (by omega) (by omega), x1 76 a (by omega) (by omega) (by omega), x1 76 b (by omega) (by omega) (by omega)]
    exact hU a b ha hb g1 g2
  · intro a b ha hb g1 g2
    rw [x75] at g2
    have e2 : b ≠ k := fun e => by rw [if_pos e] at g2; omega
    rw [if_neg e2] at g2
    rw [x1 79 a (by omega) (by omega) (by omega)] at g1
    rw [x1 77 a (by omega) (by omega) (by omega), x1 77 b (by omega) (by omega) (by omega), x1 76 b (by omega) (by omega) (by omega)]
    exact hK a b ha hb g1 g2
/-- a column of the reference and a cabin change, the place stays: zone 12 -/
theorem rel_col {C : Nat → Nat → Int} {N : Nat → Nat → Int} {k : Nat} (h : Rel t S M) (hk : k < 60) (hw : Wf (C, S.2)) (y1 : ∀ a d, a ≠ 4 + k → C a d = S.1 a d) (x1 : ∀ a d, a < 75 ∨ 83 < a → N a d = M a d) (x2 : ∀ a d, d ≠ k → N a d = M a d) (x75 : N 75 k = M 75 k) (x76 : N 76 k = M 76 k) (x77 : N 77 k = M 77 k)
    (hc : RelC (C, S.2) N k) (hK : 0 ≤ N 79 k → ∀ d, d < 60 → M 75 d = 3 → M 77 d = M 77 k → 1 ≤ M 76 d) : Rel t (C, S.2) N := by
  obtain ⟨w, hC, hZ, hS, hD, hW, hU, hK0⟩ := h
  have n75 : ∀ d, N 75 d = M 75 d := fun d => by by_cases e : d = k; (subst e; exact x75); exact x2 75 d e
  have n76 : ∀ d, N 76 d = M 76 d := fun d => by by_cases e : d = k; (subst e; exact x76); exact x2 76 d e
  have n77 : ∀ d, N 77 d = M 77 d := fun d => by by_cases e : d = k; (subst e; exact x77); exact x2 77 d e
  refine ⟨hw, fun d hd => ?_, ?_, ?_, ?_, ?_, ?_, ?_⟩
  · by_cases e : d = k
    · subst e; exact hc
    · exact (hC d hd).frame (fun j => y1 _ _ (by omega)) (fun a _ _ => x2 a d e) (fun _ => rfl)
  · intro s z n hs hn
    obtain ⟨d, d1, d2, d3, d4, d5⟩ := hZ s z n hs hn
    exact ⟨d, d1, d2, by rw [n75]; exact d3, by rw [n77]; exact d4, by rw [n76]; exact d5⟩
  · exact hS.frame (y1 65 1 (by omega)) (x1 74 10 (by omega)) (fun j => x1 84 j (by omega)) (fun _ => rfl) (fun d hd => by rw [n75])
  · exact hD.frame (fun j => y1 1 j (by omega)) (fun j _ => x1 74 j (by omega))
  · exact hW.frame (fun j => y1 67 j (by omega)) (fun j => y1 68 j (by omega)) (x1 74 12 (by omega)) (fun j => x1 85 j (by omega))
  · intro a b ha hb
    rw [n75, n75, n76, n76, n77, n77]
    exact hU a b ha hb
  · intro a b ha hb g1 g2 g3
    rw [n75] at g2
    rw [n77, n77] at g3
    rw [n76]
    by_cases e : a = k
    · subst e; exact hK g1 b hb g2 g3
    · rw [x2 79 a e] at g1
      exact hK0 a b ha hb g1 g2 g3
end OPS2
