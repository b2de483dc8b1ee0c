/-! the relation is kept: zones, ticks -/
section OPS4
variable {t : Nat} {S : sT} {M : Nat → Nat → Int}
theorem cntTo_zero {p : Nat → Bool} : ∀ k, (∀ j, j < k → p j = false) → cntTo p k = 0
  | 0, _ => rfl
  | k + 1, h => by
    unfold cntTo
    rw [h k (by omega), cntTo_zero k (fun j hj => h j (by omega))]
    rfl
theorem cntTo_add {p q : Nat → Bool} {c : Nat} : ∀ k, c < k → p c = false → q c = true → (∀ j, j < k → j ≠ c → q j = p j) → cntTo q k = cntTo p k + 1
  | 0, h, _, _, _ => by omega
  | k + 1, h, hp, hq, hr => by
    unfold cntTo
    by_cases e : k = c
    · subst e
      rw [hp, hq, cntTo_congr k (fun j hj => hr j (by omega) (by omega))]
      rfl
    · rw [hr k (by omega) e, cntTo_add k (by omega) hp hq (fun j hj => hr j (by omega))]
      split <;> omega
theorem xIn_iff (h : Rel t S M) {s z : Nat} (hs : s < 2) : xIn M (s : Int) (z : Int) < 0 ↔ S.2.1 s z = none := by
  obtain ⟨w, hC, hZ, -⟩ := h
  cases hz : S.2.1 s z with
  | none =>
    rw [xIn_none hC hz]
    exact ⟨fun _ => rfl, fun _ => by decide⟩
  | some n =>
    obtain ⟨c, c1, c2, -⟩ := hZ _ z n hs hz
    subst c2
    rw [(xIn_some hC hZ hs hz).1]
    exact ⟨fun q => by omega, fun q => by cases q⟩
theorem cnt_zones (h : Rel t S M) {s : Nat} (hs : s < 2) : ∀ m, m ≤ 12 → cntTo (fun j => decide (S.2.1 s (j + 1) ≠ none)) m = cntTo (fun c => decide (M 75 c = 2 ∧ M 77 c = (s : Int) ∧ M 76 c ≤ (m : Int))) 60 := by
  obtain ⟨w, hC, hZ, -⟩ := h
  intro m
  induction m with
  | zero =>
    intro _
    rw [cntTo_zero 60 (fun c hc => decide_eq_false (fun q => ?_))]
    · rfl
    · obtain ⟨-, -, -, a4, -⟩ := hC c hc
      have := (a4 q.1).2.2.2.2.1
      omega
  | succ m ih =>
    intro hm
    have ih := ih (by omega)
    show (if decide (S.2.1 s (m + 1) ≠ none) = true then cntTo (fun j => decide (S.2.1 s (j + 1) ≠ none)) m + 1 else cntTo (fun j => decide (S.2.1 s (j + 1) ≠ none)) m) = _
    cases hz : S.2.1 s (m + 1) with
    | none =>
      rw [if_neg (by simp), ih]
      refine cntTo_congr 60 (fun c hc => ?_)
      have hx : ¬ (M 75 c = 2 ∧ M 77 c = (s : Int) ∧ M 76 c = ((m + 1 : Nat) : Int)) := fun q => by
        obtain ⟨-, -, -, a4, -⟩ := hC c hc
        have a5 := (a4 q.1).2.2.2.2.2
        rw [q.2.1, q.2.2, Int.toNat_natCast, Int.toNat_natCast, hz] at a5
        cases a5
      refine decide_eq_decide.mpr ⟨fun q => ⟨q.1, q.2.1, by omega⟩, fun q => ⟨q.1, q.2.1, ?_⟩⟩
      have : M 76 c ≠ ((m + 1 : Nat) : Int) := fun e => hx ⟨q.1, q.2.1, e⟩
      omega
    | some n =>
      obtain ⟨c, c1, c2, c3, c4, c5⟩ := hZ _ _ n hs hz
      subst c2
      rw [if_pos (by simp), ih]
      refine (cntTo_add 60 c1 (decide_eq_false (fun q => by omega)) (decide_eq_true ⟨c3, c4, by omega⟩) (fun d hd hne => ?_)).symm
      refine decide_eq_decide.mpr ⟨fun q => ⟨q.1, q.2.1, ?_⟩, fun q => ⟨q.1, q.2.1, by omega⟩⟩
      have : M 76 d ≠ ((m + 1 : Nat) : Int) := fun e => by
        obtain ⟨-, -, -, a4, -⟩ := hC d hd
        have a5 := (a4 q.1).2.2.2.2.2
        rw [q.2.1, e, Int.toNat_natCast, Int.toNat_natCast, hz] at a5
        have := Option.some.inj a5
        omega
      omega
theorem cnt_eq (h : Rel t S M) {s : Nat} (hs : s < 2) : cntTo (fun j => decide (S.2.1 s (j + 1) ≠ none)) 12 = xCnt M (s : Int) := by
  rw [cnt_zones h hs 12 (by omega)]
  unfold xCnt
  refine cntTo_congr 60 (fun c hc => decide_eq_decide.mpr ⟨fun q => ⟨q.1, q.2.1⟩, fun q => ⟨q.1, q.2, ?_⟩⟩)
  obtain ⟨-, -, -, a4, -⟩ := h.2.1 c hc
  have := (a4 q.1).2.2.2.2.1
  omega
theorem spc_eq (h : Rel t S M) {s : Nat} (hs : s < 2) : oSpc S s = xSpc M (s : Int) := by
  unfold oSpc xSpc
  rw [cnt_eq h hs]
  obtain ⟨-, -, a3, a4, -⟩ := h.2.2.2.2.1
  rw [a3, show max (M 74 15) 1 = M 74 15 by omega]
  by_cases q : 6 ≤ xCnt M (s : Int)
  · rw [if_pos q, if_neg (by omega)]
  · rw [if_neg q, if_pos (by omega)]
    split <;> omega
theorem spc_90 {s : Int} : 90 ≤ xSpc M s := by
  unfold xSpc
  split
  · omega
  · split <;> omega
theorem near_eq (h : Rel t S M) {s : Nat} (hs : s < 2) : oNear S.1 (s : Int) (oSpc S s) = xNear M (s : Int) := by
  rw [spc_eq h hs]
  unfold oNear xNear
  refine anyTo_congr 60 (fun c hc => ?_)
  obtain ⟨-, a2, -, -, a5, -⟩ := h.2.1 c hc
  rw [a2]
  refine decide_eq_decide.mpr ⟨fun q => ?_, fun q => ?_⟩
  · obtain ⟨b1, b2, -⟩ := a5 q.1
    exact ⟨q.1, by rw [← b1]; exact q.2.1, by rw [← b2]; exact q.2.2⟩
  · obtain ⟨b1, b2, -⟩ := a5 q.1
    exact ⟨q.1, by rw [b1]; exact q.2.1, by rw [b2]; exact q.2.2⟩
theorem near_age {c : Nat} {s : Int} : xNear (xAge M c) s = xNear M s := by
  unfold xNear xSpc xCnt xAge
  simp only [up]
  simp
theorem rel_start (h : Rel t S M) {c s : Nat} (hc : c < 60) (h1 : M 75 c = 2) (h2 : M 77 c = (s : Int)) (h3 : M 76 c = 12) (h4 : M 79 c < 0) (hn : xNear M (s : Int) = false) : Rel t (up S.1 (4 + c) 6 0, S.2) (up (up (up M 79 c 0) 80 c (-1)) 81 c (-1)) := by
  have h' := h
  obtain ⟨w, hC, hZ, hS, hD, hW, hU, hK⟩ := h
  refine rel_col h' hc (w.cab (by omega) (by omega) (by omega)) (fun a d e => up_cell e) (fun a d e => ?_) (fun a d e => ?_) ?_ ?_ ?_ ?_ (fun _ d hd g1 g2 => ?_)
  · rw [up_cell (by omega), up_cell (by omega), up_cell (by omega)]
  · rw [up_slot e, up_slot e, up_slot e]
  · simp [up]
  · simp [up]
  · simp [up]
  · obtain ⟨a1, a2, a3, a4, a5, a6, a7, a8, a9, a10, a11, a12⟩ := hC c hc
    obtain ⟨e1, e2, e3⟩ := a10 h4
    unfold RelC
    simp [up]
    exact ⟨a1, a2, a3, a4, a5, a6, a7, ⟨h1, h3, e2, e3⟩, a11, a12⟩
  · by_cases q : 1 ≤ M 76 d
    · exact q
    · exfalso
      have : xNear M (s : Int) = true := by
        unfold xNear
        refine (anyTo_iff 60).mpr ⟨d, hd, decide_eq_true ⟨g1, by rw [g2, h2], ?_⟩⟩
        have := spc_90 (M := M) (s := (s : Int))
        omega
      rw [hn] at this
      cases this
theorem rel_zone (h : Rel t S M) {s z : Nat} (hs : s < 2) (hz1 : 1 ≤ z) (hz2 : z ≤ 12) : Rel t (oZone S s z) (xWork M (s : Int) z) := by
  have h' := h
  obtain ⟨w, hC, hZ, hS, hD, hW, hU, hK⟩ := h
  cases hz : S.2.1 s z with
  | none =>
    unfold oZone xWork
    rw [hz, xIn_none hC hz, if_pos (by decide)]
    exact h'
  | some n =>
    obtain ⟨c, c1, c2, -⟩ := hZ _ z n hs hz
    subst c2
    obtain ⟨x0, -, x1, x2, x3⟩ := xIn_some hC hZ hs hz
    have ww := w.zone (s := s) (z := z) hs
    unfold oZone at ww
    unfold oZone xWork
    rw [hz] at ww ⊢
    rw [x0, if_neg (by omega), Int.toNat_natCast]
    dsimp only at ww ⊢
    have ha := rel_age h' c1 x1
    obtain ⟨a1, a2, a3, a4, a5, a6, a7, a8, a9, a10, a11, a12⟩ := hC c c1
    obtain ⟨b1, b2, b3, b4, b5, b6⟩ := a4 x1
    by_cases q : z < 12
    · rw [if_pos q] at ww ⊢
      rw [if_pos q]
      have hi := xIn_iff ha (s := s) (z := z + 1) hs
      dsimp only at hi
      have hcl : M 79 c < 0 := by
        by_cases g : 0 ≤ M 79 c
        · have := (a9 g).2.2.1; omega
        · omega
      by_cases r : 15 ≤ gadd (S.1 (4 + c) 5) 1 ∧ S.2.1 s (z + 1) = none
      · rw [if_pos r] at ww ⊢
        rw [if_pos ⟨by rw [← b3]; exact r.1, hi.mpr r.2⟩]
        refine rel_adm (Z0 := up S.2.1 s z none) ha c1 hs (by omega) (by omega) (fun a b ha => ?_) (fun a b ha g => ?_) ?_ ?_ ?_ ww
        · unfold up
          split
          · rename_i q; exact Or.inr ⟨rfl, by dsimp only; rw [q.1, q.2]; exact hz⟩
          · exact Or.inl rfl
        · unfold up at g
          split at g
          · cases g
          · rename_i q
            obtain ⟨d, d1, d2, d3, d4, d5⟩ := hZ a b _ ha g
            obtain rfl : d = c := by omega
            exact q (by omega)
        · rw [up_slot (by omega)]; exact r.2
        · rw [xAge, up_cell (by omega)]; exact hcl
        · rw [xAge, up_cell (by omega)]; exact Or.inl x1
      · rw [if_neg r]
        rw [if_neg (fun g => r ⟨by rw [b3]; exact g.1, hi.mp g.2⟩)]
        exact ha
    · rw [if_neg q]
      rw [if_neg q, a8]
      obtain rfl : z = 12 := by omega
      have x4 : xAge M c 79 c = M 79 c := up_cell (by omega)
      have x5 : xAge M c 75 c = M 75 c := up_cell (by omega)
      have x6 : xAge M c 76 c = M 76 c := up_cell (by omega)
      have x7 : xAge M c 77 c = M 77 c := up_cell (by omega)
      by_cases r : 0 ≤ M 79 c
      · rw [if_pos r, if_pos r]
        exact rel_clamp ha c1 hs (by rw [x5]; exact x1) (by rw [x7]; exact x2) (by rw [x6]; exact x3) (by rw [x4]; exact r)
      · rw [if_neg r, if_neg r, near_eq h' hs, near_age, b3, hD.1]
        by_cases g : 15 ≤ gadd (M 78 c) 1 ∧ M 74 14 = 0 ∧ xNear M (s : Int) = false
        · rw [if_pos g, if_pos g]
          rw [b3] at ha
          exact rel_start ha c1 (by rw [x5]; exact x1) (by rw [x7]; exact x2) (by rw [x6]; exact x3) (by rw [x4]; omega) (by rw [near_age]; exact g.2.2)
        · rw [if_neg g, if_neg g]
          rw [b3] at ha
          exact ha
theorem rel_zones {s : Nat} (hs : s < 2) : ∀ (z : Nat) {S : sT} {M : Nat → Nat → Int}, z ≤ 12 → Rel t S M → Rel t (oZones S s z) (xZones M (s : Int) z)
  | 0, _, _, _, h => h
  | z + 1, _, _, hz, h => rel_zones hs z (by omega) (rel_zone h hs (by omega) (by omega))
/-- fields of the desk alone -/
theorem rel_dsk {C N : Nat → Nat → Int} (h : Rel t S M) (y1 : ∀ a d, a ≠ 1 → C a d = S.1 a d) (x1 : ∀ a d, 75 ≤ a → a ≤ 85 → N a d = M a d) (x10 : N 74 10 = M 74 10) (x12 : N 74 12 = M 74 12) (hd : RelD (C, S.2) N) : Rel t (C, S.2) N := by
  obtain ⟨w, hC, hZ, hS, hD, hW, hU, hK⟩ := h
  refine ⟨?_, fun d hd => (hC d hd).frame (fun j => y1 _ _ (by omega)) (fun a _ _ => x1 _ _ (by omega) (by omega)) (fun _ => rfl), ?_, ?_, hd, ?_, ?_, ?_⟩
  · refine w.toC (fun s hs => y1 _ _ (by omega)) (y1 _ _ (by omega)) (fun c hc hp => ?_)
    rw [y1 _ _ (by omega)] at hp
    rw [y1 _ _ (by omega)]
    exact w.2.2.2.2 c hc hp
  · intro s z n hs hn
    obtain ⟨d, d1, d2, d3, d4, d5⟩ := hZ s z n hs hn
    exact ⟨d, d1, d2, by rw [x1 75 d (by omega) (by omega)]; exact d3, by rw [x1 77 d (by omega) (by omega)]; exact d4, by rw [x1 76 d (by omega) (by omega)]; exact d5⟩
  · exact hS.frame (y1 65 1 (by omega)) x10 (fun k => x1 84 k (by omega) (by omega)) (fun _ => rfl) (fun d hd => by rw [x1 75 d (by omega) (by omega)])
  · exact hW.frame (fun k => y1 67 k (by omega)) (fun k => y1 68 k (by omega)) x12 (fun k => x1 85 k (by omega) (by omega))
  · intro a b ha hb
    rw [x1 75 a (by omega) (by omega), x1 75 b (by omega) (by omega), x1 76 a (by omega) (by omega), x1 76 b (by omega) (by omega), x1 77 a (by omega) (by omega), x1 77 b (by omega) (by omega)]
    exact hU a b ha hb
  · intro a b ha hb
    rw [x1 75 b (by omega) (by omega), x1 76 b (by omega) (by omega), x1 77 a (by omega) (by omega), x1 77 b (by omega) (by omega), x1 79 a (by omega) (by omega)]
    exact hK a b ha hb
/-- the reference's own last error, the harness's answer -/
theorem rel_out (h : Rel t S M) {N : Nat → Nat → Int} (x1 : ∀ a d, 75 ≤ a → a ≤ 85 → N a d = M a d) (x2 : ∀ d, d ≠ 0 → N 74 d = M 74 d) : Rel t S N := by
  have := rel_dsk (C := S.1) (N := N) h (fun _ _ _ => rfl) x1 (x2 10 (by omega)) (x2 12 (by omega)) ?_
  · exact this
  · exact h.2.2.2.2.1.frame (fun _ => rfl) (fun k hk => x2 k (by omega))
theorem held_eq (h : Rel t S M) : oHeld S = xWait M := by
  obtain ⟨w, hC, hZ, -⟩ := id h
  have i0 : xIn M 0 1 < 0 ↔ S.2.1 0 1 = none := xIn_iff h (s := 0) (z := 1) (by omega)
  have i1 : xIn M 1 1 < 0 ↔ S.2.1 1 1 = none := xIn_iff h (s := 1) (z := 1) (by omega)
  have g0 : gsub 1 0 = 1 := by decide
  have g1 : gsub 1 1 = 0 := by decide
  rw [Bool.eq_iff_iff]
  unfold oHeld xWait
  rw [Bool.or_eq_true, Bool.and_eq_true, Bool.and_eq_true, anyTo_iff, anyTo_iff, anyTo_iff, decide_eq_true_iff, decide_eq_true_iff]
  constructor
  · rintro (⟨z, c, hc, p⟩ | ⟨z, c, hc, p⟩)
    · obtain ⟨p1, p2, p3⟩ := of_decide_eq_true p
      obtain ⟨-, a2, -, -, a5, -⟩ := hC c hc
      rw [a2] at p1
      obtain ⟨b1, b2, -⟩ := a5 p1
      refine ⟨c, hc, decide_eq_true ⟨p1, by omega, ?_⟩⟩
      rw [← b1, p2, g1]
      by_cases q : xIn M 0 1 < 0
      · exact absurd (i0.mp q) z
      · omega
    · obtain ⟨p1, p2, p3⟩ := of_decide_eq_true p
      obtain ⟨-, a2, -, -, a5, -⟩ := hC c hc
      rw [a2] at p1
      obtain ⟨b1, b2, -⟩ := a5 p1
      refine ⟨c, hc, decide_eq_true ⟨p1, by omega, ?_⟩⟩
      rw [← b1, p2, g0]
      by_cases q : xIn M 1 1 < 0
      · exact absurd (i1.mp q) z
      · omega
  · rintro ⟨c, hc, p⟩
    obtain ⟨p1, p2, p3⟩ := of_decide_eq_true p
    obtain ⟨-, a2, -, -, a5, -⟩ := hC c hc
    obtain ⟨b1, b2, b3, -⟩ := a5 p1
    rcases b3 with b3 | b3
    · rw [b3, g0] at p3
      refine Or.inr ⟨fun z => ?_, c, hc, decide_eq_true ⟨by omega, by omega, by omega⟩⟩
      have := i1.mpr z
      omega
    · rw [b3, g1] at p3
      refine Or.inl ⟨fun z => ?_, c, hc, decide_eq_true ⟨by omega, by omega, by omega⟩⟩
      have := i0.mpr z
      omega
theorem mid_eq (h : Rel t S M) : S.1 67 4 = xMid M := by
  obtain ⟨rp, -, -, -, -, -, -, a7⟩ := h.2.2.2.2.2.1
  exact a7
theorem target_eq (h : Rel t S M) : oTarget S = xTarget M ∧ 0 ≤ xTarget M ∧ xTarget M ≤ 5 := by
  obtain ⟨a1, a2, a3, a4, a5, a6, a7, a8, a9, a10⟩ := h.2.2.2.2.1
  unfold oTarget xTarget
  rw [held_eq h, mid_eq h, a1, a5]
  split
  · omega
  · split
    · omega
    · split
      · omega
      · split <;> omega
theorem speed_eq {v x : Int} (hv : 0 ≤ v ∧ v ≤ 5) (hx : 0 ≤ x ∧ x ≤ 5) : oSpeed v x = xStep v x ∧ 0 ≤ xStep v x ∧ xStep v x ≤ 5 := by
  unfold oSpeed xStep
  rw [gadd_eq (by omega) (by omega), gadd_eq (by omega) (by omega), gadd_eq (by omega) (by omega), gsub_eq (by omega) (by omega)]
  split
  · omega
  · split <;> omega
theorem rel_end (h : Rel t S M) : Rel t (oEnd S) (xEnd M) := by
  obtain ⟨e1, e2, e3⟩ := target_eq h
  obtain ⟨a1, a2, a3, a4, a5, a6, a7, a8, a9, a10⟩ := id h.2.2.2.2.1
  obtain ⟨v1, v2, v3⟩ := speed_eq a8 ⟨e2, e3⟩
  unfold oEnd xEnd
  refine rel_dsk h (fun a d e => ?_) (fun a d e _ => ?_) ?_ ?_ ?_
  · rw [up_cell e, up_cell e]
  · rw [up_cell (by omega), up_cell (by omega)]
  · rw [up_slot (by omega), up_slot (by omega)]
  · rw [up_slot (by omega), up_slot (by omega)]
  · unfold RelD
    simp [up]
    rw [e1, a7, v1, a9]
    exact ⟨a1, a2, a3, a4, a5, a6, rfl, ⟨v2, v3⟩, rfl, a10⟩
theorem rel_wlock (h : Rel t S M) : Rel t (oWind S) (xWind M) := by
  unfold oWind xWind
  rw [mid_eq h]
  split
  · exact h
  · exact rel_lock h (by omega) gshl_b.2.2.1
theorem rel_tick (h : Rel t S M) : Rel t (oTick S) (xTick M) := by
  unfold oTick xTick
  exact rel_end (rel_zones (s := 1) (by omega) 12 (by omega) (rel_zones (s := 0) (by omega) 12 (by omega) (rel_wlock h)))
theorem rel_ticks : ∀ (k : Nat) {S : sT} {M : Nat → Nat → Int}, Rel t S M → Rel t (oTicks S k) (xTicks M k)
  | 0, _, _, h => h
  | k + 1, _, _, h => rel_ticks k (rel_tick h)
end OPS4
