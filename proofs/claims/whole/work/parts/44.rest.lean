/-! the relation is kept, the answers are alike: the other calls -/
section OPS7
variable {t : Nat} {S : sT} {M : Nat → Nat → Int}
theorem rel_gauge (h : Rel t S M) {s : Nat} (hs : s < 2) {a b : Int} (ha : 0 ≤ a ∧ a ≤ 20000) (hb : 0 ≤ b ∧ b ≤ 20000) : (oGauge S s a b).2 = (xGauge M (s : Int) a b).2 ∧ Rel t (oGauge S s a b).1 (xGauge M (s : Int) a b).1 := by
  have h' := h
  obtain ⟨w, hC, hZ, hS, hD, hW, hU, hK⟩ := h
  unfold oGauge xGauge
  cases hz : S.2.1 s 12 with
  | none =>
    have e : xIn M (s : Int) 12 = -1 := xIn_none hC hz
    rw [e, if_pos (by decide)]
    exact ⟨rfl, h'⟩
  | some n =>
    obtain ⟨c, c1, c2, -⟩ := hZ _ 12 n hs hz
    subst c2
    obtain ⟨x0, -, x1, x2, x3⟩ := xIn_some hC hZ hs hz
    have x0 : xIn M (s : Int) 12 = (c : Int) := x0
    obtain ⟨a1, a2, a3, a4, a5, a6, a7, a8, a9, a10, a11, a12⟩ := hC c c1
    rw [x0, if_neg (by omega), Int.toNat_natCast]
    dsimp only
    rw [a8]
    by_cases q : 0 ≤ M 79 c
    · rw [if_pos q, if_neg (by omega)]
      refine ⟨rfl, rel_col h' c1 ((w.cab (by omega) (by omega) (by omega)).cab (by omega) (by omega) (by omega)) (fun x d e => ?_) (fun x d e => ?_) (fun x d e => ?_) ?_ ?_ ?_ ?_ (fun _ d hd g1 g2 => hK c d c1 hd q g1 g2)⟩
      · rw [up_cell e, up_cell e]
      · dsimp only; rw [up_cell (by omega), up_cell (by omega)]
      · dsimp only; rw [up_slot e, up_slot e]
      · simp [up]
      · simp [up]
      · simp [up]
      · obtain ⟨b0, b1, b2, -⟩ := a9 q
        unfold RelC
        simp [up]
        exact ⟨a1, a2, a3, a4, a5, a6, a7, a8, fun _ => ⟨b0, b1, b2, Or.inr ⟨ha.1, ha.2, hb.1, hb.2⟩⟩, fun z => by omega, a11, a12⟩
    · rw [if_neg q, if_pos (by omega)]
      exact ⟨rfl, h'⟩
theorem rel_drive (h : Rel t S M) {v : Int} (hv : 0 ≤ v ∧ v ≤ 5) : Rel t (up S.1 1 6 v, S.2) (up M 74 16 v) := by
  obtain ⟨a1, a2, a3, a4, a5, a6, a7, a8, a9, a10⟩ := id h.2.2.2.2.1
  refine rel_dsk h (fun a d e => up_cell e) (fun a d e _ => up_cell (by omega)) (up_slot (by omega)) (up_slot (by omega)) ?_
  unfold RelD
  simp [up]
  exact ⟨a1, a2, a3, a4, hv, a7, a8, a9, a10⟩
theorem rel_plan (h : Rel t S M) {v : Int} (hv : 1 ≤ v ∧ v ≤ 900) : Rel t (up S.1 1 5 ((v + 14) / 15), S.2) (up M 74 15 ((v + 14) / 15)) := by
  obtain ⟨a1, a2, a3, a4, a5, a6, a7, a8, a9, a10⟩ := id h.2.2.2.2.1
  have e : 1 ≤ (v + 14) / 15 ∧ (v + 14) / 15 ≤ 60 := by omega
  generalize (v + 14) / 15 = u at *
  refine rel_dsk h (fun a d e => up_cell e) (fun a d e _ => up_cell (by omega)) (up_slot (by omega)) (up_slot (by omega)) ?_
  unfold RelD
  simp [up]
  exact ⟨a1, a2, e, a5, a6, a7, a8, a9, a10⟩
theorem z_no (h : Rel t S M) {c : Nat} (hp : M 75 c ≠ 2) : ∀ a b, a < 2 → S.2.1 a b ≠ some (4 + c) := fun a b ha g => by
  obtain ⟨d, d1, d2, d3, -⟩ := h.2.2.1 a b _ ha g
  obtain rfl : d = c := by omega
  exact hp d3
theorem rel_bring (h : Rel t S M) {c : Nat} (hc : c < 60) (h1 : M 75 c = 0) (h2 : M 74 10 < 20) : Rel t (oAppend S (4 + c)) (xSide M c) := by
  refine rel_side (Z0 := S.2.1) h hc (fun _ _ _ => Or.inl rfl) (z_no h (by omega)) (cl_neg (h.2.1 c hc) (by omega)) (by omega) h2 ?_
  exact h.1.append (by omega) (by omega) (by have := h.2.2.2.1.1; omega)
theorem rel_take (h : Rel t S M) {c s z : Nat} (hc : c < 60) (hs : s < 2) (h1 : M 75 c = 2) (h2 : M 77 c = (s : Int)) (h3 : M 76 c = (z : Int)) (h4 : z ≤ 8) (h5 : M 74 10 < 20) : Rel t (oAppend (S.1, up S.2.1 s z none, S.2.2) (4 + c)) (xSide M c) := by
  obtain ⟨w, hC, hZ, hS, hD, hW, hU, hK⟩ := id h
  obtain ⟨a1, a2, a3, a4, a5, a6, a7, a8, a9, a10, a11, a12⟩ := hC c hc
  have hz : S.2.1 s z = some (4 + c) := by
    have := (a4 h1).2.2.2.2.2
    rw [h2, h3, Int.toNat_natCast, Int.toNat_natCast] at this
    exact this
  refine rel_side (Z0 := up S.2.1 s z none) h hc (fun a b ha => ?_) (fun a b ha g => ?_) ?_ (by omega) h5 ?_
  · unfold up
    split
    · rename_i q; exact Or.inr ⟨rfl, by rw [q.1, q.2]; exact hz⟩
    · exact Or.inl rfl
  · unfold up at g
    split at g
    · cases g
    · rename_i q
      obtain ⟨d, d1, d2, d3, d4, d5⟩ := hZ a b _ ha g
      obtain rfl : d = c := by omega
      exact q (by omega)
  · by_cases q : 0 ≤ M 79 c
    · have := (a9 q).2.2.1; omega
    · omega
  · exact (w.setZ (s := s) (z := z) (o := none) (fun _ q => nomatch q)).append (by omega) (by omega) (by have := hS.1; dsimp only; omega)
/-- a cabin leaves the siding into zone 5 -/
theorem rel_put (h : Rel t S M) {c s p sz : Nat} (hc : c < 60) (hs : s < 2) (h1 : M 75 c = 1) (hz : S.2.1 s 5 = none) (hsz : M 74 10 = (sz : Int)) (hp : p < sz) (hM : M 84 p = (c : Int)) : Rel t (oPut S s (4 + c) p sz) (xEnt (xUns M p sz) c (s : Int) 5) := by
  obtain ⟨w, hC, hZ, hS, hD, hW, hU, hK⟩ := id h
  obtain ⟨s1, s2, s3, s4, s5⟩ := hS
  have u1 : ∀ a d, a ≠ 74 → a ≠ 84 → xUns M p sz a d = M a d := fun a d e1 e2 => by
    unfold xUns xShift
    rw [if_neg (by omega), up_cell e1]
  have u84 : ∀ d, xUns M p sz 84 d = if p ≤ d ∧ d < sz - 1 then M 84 (d + 1) else M 84 d := fun d => by
    unfold xUns xShift
    by_cases e : p ≤ d ∧ d < sz - 1
    · rw [if_pos ⟨rfl, e⟩, if_pos e, up_cell (by omega)]
    · rw [if_neg (fun q => e q.2), if_neg e, up_cell (by omega)]
  have u74 : ∀ d, d ≠ 10 → xUns M p sz 74 d = M 74 d := fun d e => by
    unfold xUns xShift
    rw [if_neg (by omega), up_slot e]
  have u10 : xUns M p sz 74 10 = ((sz - 1 : Nat) : Int) := by
    unfold xUns xShift
    rw [if_neg (by omega), up_same]
  have y1 : ∀ a d, a ≠ 65 → a ≠ 4 + c → (oPut S s (4 + c) p sz).1 a d = S.1 a d := fun a d e1 e2 => by
    unfold oPut; dsimp only; rw [sAdm_cell e2, up_cell e1]
  have hcl : M 79 c < 0 := cl_neg (hC c hc) (by omega)
  have hno := z_no h (c := c) (by omega)
  refine ⟨?_, fun d hd => ?_, ?_, ?_, ?_, ?_, ?_, ?_⟩
  · have w1 : Wf (up S.1 65 1 ((sz - 1 : Nat) : Int), S.2.1, up1 (sRem S.2.2 p sz) (sz - 1) none) := by
      refine ⟨fun q hq => ?_, w.2.1, fun j n hn => ?_, ?_, fun d hd q => ?_⟩
      · show up S.1 65 1 _ (70 + 2 * q) 0 = _
        rw [up_cell (by omega)]; exact w.1 q hq
      · have hn : up1 (sRem S.2.2 p sz) (sz - 1) none j = some n := hn
        unfold up1 sRem at hn
        split at hn
        · cases hn
        · split at hn
          · exact w.2.2.1 _ n hn
          · exact w.2.2.1 _ n hn
      · show 0 ≤ up S.1 65 1 ((sz - 1 : Nat) : Int) 65 1 ∧ up S.1 65 1 ((sz - 1 : Nat) : Int) 65 1 ≤ 20
        rw [up_same]; omega
      · have q : up S.1 65 1 ((sz - 1 : Nat) : Int) (4 + d) 1 = 3 := q
        show up S.1 65 1 ((sz - 1 : Nat) : Int) (4 + d) 2 = 0 ∨ up S.1 65 1 ((sz - 1 : Nat) : Int) (4 + d) 2 = 1
        rw [up_cell (by omega)] at q ⊢
        exact w.2.2.2.2 d hd q
    exact (w1.adm (n := 4 + c) (s := s) (z := 5) (by omega) (by omega)).setZ (s := s) (z := 5) (o := some (4 + c)) (fun n hn => by cases hn; omega)
  · by_cases e : d = c
    · subst e
      have r : RelC (up S.1 65 1 ((sz - 1 : Nat) : Int), S.2) (xUns M p sz) d := (hC d hd).frame (fun j => up_cell (by omega)) (fun a _ _ => u1 a d (by omega) (by omega)) (fun _ => rfl)
      exact relC_adm (z := 5) r hs (by omega) (by omega) (by rw [u1 79 d (by omega) (by omega)]; exact hcl) up_same
    · refine (hC d hd).frame (fun j => y1 _ _ (by omega) (by omega)) (fun a _ _ => ?_) (fun q => ?_)
      · rw [xEnt_ne e, u1 a d (by omega) (by omega)]
      · obtain ⟨-, -, -, a4, -⟩ := hC d hd
        obtain ⟨-, -, -, b1, b2, b3⟩ := a4 q
        show up S.2.1 s 5 (some (4 + c)) (M 77 d).toNat (M 76 d).toNat = _
        unfold up
        rw [if_neg (fun z9 => by rw [z9.1, z9.2, hz] at b3; cases b3)]
  · intro a b n ha hn
    have hn : up S.2.1 s 5 (some (4 + c)) a b = some n := hn
    unfold up at hn
    split at hn
    · rename_i q
      cases hn
      exact ⟨c, hc, rfl, xEnt_75, by rw [xEnt_77, q.1], by rw [xEnt_76, q.2]; rfl⟩
    · obtain ⟨d, c1, c2, c3, c4, c5⟩ := hZ a b n ha hn
      have e : d ≠ c := fun e => hno a b ha (by rw [hn, c2, e])
      exact ⟨d, c1, c2, by rw [xEnt_ne e, u1 _ _ (by omega) (by omega)]; exact c3, by rw [xEnt_ne e, u1 _ _ (by omega) (by omega)]; exact c4, by rw [xEnt_ne e, u1 _ _ (by omega) (by omega)]; exact c5⟩
  · unfold RelS
    rw [xEnt_at (a := 74) (by omega), u10]
    have n84 : ∀ k, xEnt (xUns M p sz) c (s : Int) 5 84 k = if p ≤ k ∧ k < sz - 1 then M 84 (k + 1) else M 84 k := fun k => by rw [xEnt_at (by omega), u84]
    have n75 : ∀ d, xEnt (xUns M p sz) c (s : Int) 5 75 d = if d = c then 2 else M 75 d := fun d => by
      by_cases e : d = c
      · rw [if_pos e, e, xEnt_75]
      · rw [if_neg e, xEnt_ne e, u1 _ _ (by omega) (by omega)]
    have hR : ∀ k, k < sz - 1 → (oPut S s (4 + c) p sz).2.2 k = if p ≤ k ∧ k < sz - 1 then S.2.2 (k + 1) else S.2.2 k := fun k hk => by
      show up1 (sRem S.2.2 p sz) (sz - 1) none k = _
      unfold up1 sRem
      rw [if_neg (by omega)]
      by_cases e : p ≤ k
      · rw [if_pos ⟨e, by omega⟩, if_pos ⟨e, hk⟩]
      · rw [if_neg (by omega), if_neg (by omega)]
    refine ⟨?_, by omega, fun k hk => ?_, fun i j hi hj e => ?_, fun d hd q => ?_⟩
    · show sAdm (up S.1 65 1 ((sz - 1 : Nat) : Int)) (4 + c) s 5 65 1 = _
      rw [sAdm_cell (by omega), up_same]
    · rw [n84 k, hR k (by omega)]
      by_cases e : p ≤ k ∧ k < sz - 1
      · obtain ⟨d, d1, d2, d3, d4⟩ := s3 (k + 1) (by omega)
        have ne : d ≠ c := fun z => by
          have := s4 (k + 1) p (by omega) (by omega) (by rw [d2, hM, z])
          omega
        rw [if_pos e, if_pos e]
        exact ⟨d, d1, d2, d3, by rw [n75, if_neg ne]; exact d4⟩
      · obtain ⟨d, d1, d2, d3, d4⟩ := s3 k (by omega)
        have ne : d ≠ c := fun z => by
          have := s4 k p (by omega) (by omega) (by rw [d2, hM, z])
          omega
        rw [if_neg e, if_neg e]
        exact ⟨d, d1, d2, d3, by rw [n75, if_neg ne]; exact d4⟩
    · rw [n84, n84] at e
      by_cases ei : p ≤ i ∧ i < sz - 1
      · by_cases ej : p ≤ j ∧ j < sz - 1
        · rw [if_pos ei, if_pos ej] at e
          have := s4 (i + 1) (j + 1) (by omega) (by omega) e
          omega
        · rw [if_pos ei, if_neg ej] at e
          have := s4 (i + 1) j (by omega) (by omega) e
          omega
      · by_cases ej : p ≤ j ∧ j < sz - 1
        · rw [if_neg ei, if_pos ej] at e
          have := s4 i (j + 1) (by omega) (by omega) e
          omega
        · rw [if_neg ei, if_neg ej] at e
          exact s4 i j (by omega) (by omega) e
    · rw [n75] at q
      have ne : d ≠ c := fun z => by rw [if_pos z] at q; omega
      rw [if_neg ne] at q
      obtain ⟨k, k1, k2⟩ := s5 d hd q
      have np : k ≠ p := fun z => by rw [z, hM] at k2; omega
      by_cases e : k < p
      · exact ⟨k, by omega, by rw [n84, if_neg (by omega)]; exact k2⟩
      · exact ⟨k - 1, by omega, by rw [n84, if_pos (by omega), show k - 1 + 1 = k by omega]; exact k2⟩
  · exact hD.frame (fun j => y1 _ _ (by omega) (by omega)) (fun j hj => by rw [xEnt_at (by omega), u74 j (by omega)])
  · exact hW.frame (fun j => y1 _ _ (by omega) (by omega)) (fun j => y1 _ _ (by omega) (by omega)) (by rw [xEnt_at (by omega), u74 12 (by omega)]) (fun j => by rw [xEnt_at (by omega), u1 85 j (by omega) (by omega)])
  · intro a b ha hb g1 g2 g3 g4
    have e1 : a ≠ c := fun e => by rw [e, xEnt_75] at g1; omega
    have e2 : b ≠ c := fun e => by rw [e, xEnt_75] at g2; omega
    rw [xEnt_ne e1, u1 _ _ (by omega) (by omega)] at g1
    rw [xEnt_ne e2, u1 _ _ (by omega) (by omega)] at g2
    rw [xEnt_ne e1, xEnt_ne e2, u1 _ _ (by omega) (by omega), u1 _ _ (by omega) (by omega)] at g3 g4
    exact hU a b ha hb g1 g2 g3 g4
  · intro a b ha hb g1 g2 g3
    rw [xEnt_at (by omega), u1 _ _ (by omega) (by omega)] at g1
    have e1 : a ≠ c := fun e => by rw [e] at g1; omega
    have e2 : b ≠ c := fun e => by rw [e, xEnt_75] at g2; omega
    rw [xEnt_ne e2, u1 _ _ (by omega) (by omega)] at g2 ⊢
    rw [xEnt_ne e1, xEnt_ne e2, u1 _ _ (by omega) (by omega), u1 _ _ (by omega) (by omega)] at g3
    exact hK a b ha hb g1 g2 g3
/-- where it stands in the siding -/
theorem sid_at (h : Rel t S M) {c : Nat} (hc : c < 60) (h1 : M 75 c = 1) : ∃ p sz : Nat, M 74 10 = (sz : Int) ∧ S.1 65 1 = (sz : Int) ∧ sz ≤ 20 ∧ p < sz ∧ M 84 p = (c : Int) ∧ (∀ j, j < p → M 84 j ≠ (c : Int)) ∧ S.2.2 p = some (4 + c) ∧ ∀ j, j < p → S.2.2 j ≠ some (4 + c) := by
  obtain ⟨s1, s2, s3, s4, s5⟩ := h.2.2.2.1
  obtain ⟨p, p1, p2⟩ := s5 c hc h1
  obtain ⟨sz, hsz⟩ : ∃ sz : Nat, M 74 10 = (sz : Int) := ⟨(M 74 10).toNat, by omega⟩
  have no : ∀ j, j < p → M 84 j ≠ (c : Int) := fun j hj e => by
    have := s4 j p (by omega) (by omega) (by rw [e, p2])
    omega
  have hx : ∀ j : Nat, (j : Int) < M 74 10 → S.2.2 j = some (4 + c) → M 84 j = (c : Int) := fun j hj e => by
    obtain ⟨d, d1, d2, d3, d4⟩ := s3 j hj
    rw [d3] at e
    have := Option.some.inj e
    rw [d2]
    omega
  refine ⟨p, sz, hsz, by rw [s1, hsz], by omega, by omega, p2, no, ?_, fun j hj e => no j hj (hx j (by omega) e)⟩
  obtain ⟨d, d1, d2, d3, d4⟩ := s3 p p1
  rw [d3]
  have : d = c := by omega
  rw [this]
theorem put_zones (h : Rel t S M) {s : Nat} (hs : s < 2) : anyTo (fun j => decide (S.2.1 s (j + 1) ≠ none)) 5 = anyTo (fun j => decide (0 ≤ xIn M (s : Int) ((j + 1 : Nat) : Int))) 5 := by
  refine anyTo_congr 5 (fun j hj => decide_eq_decide.mpr ?_)
  have := xIn_iff h (s := s) (z := j + 1) hs
  constructor
  · intro q
    by_cases z : xIn M (s : Int) ((j + 1 : Nat) : Int) < 0
    · exact absurd (this.mp z) q
    · omega
  · intro q z
    have := this.mpr z
    omega
theorem cnt_place (h : Rel t S M) {k : Int} : cntTo (fun j => decide (S.1 (4 + j) 1 = k)) 60 = cntTo (fun c => decide (M 75 c = k)) 60 :=
  cntTo_congr 60 (fun c hc => by rw [(h.2.1 c hc).2.1])
/-- locks let go -/
theorem bits {x k : Int} (hx : 0 ≤ x ∧ x ≤ 15) (hk : 0 ≤ k ∧ k ≤ 3) : (gand x (gshl 1 k) ≠ 0 ↔ gand (gshr x k) 1 ≠ 0) ∧ 0 ≤ gand x (gxor (gshl 1 k) (-1)) ∧ gand x (gxor (gshl 1 k) (-1)) ≤ 15 := by
  rcases (by omega : x = 0 ∨ x = 1 ∨ x = 2 ∨ x = 3 ∨ x = 4 ∨ x = 5 ∨ x = 6 ∨ x = 7 ∨ x = 8 ∨ x = 9 ∨ x = 10 ∨ x = 11 ∨ x = 12 ∨ x = 13 ∨ x = 14 ∨ x = 15) with rfl | rfl | rfl | rfl | rfl | rfl | rfl | rfl | rfl | rfl | rfl | rfl | rfl | rfl | rfl | rfl <;> rcases (by omega : k = 0 ∨ k = 1 ∨ k = 2 ∨ k = 3) with rfl | rfl | rfl | rfl <;> decide
theorem over_iff (h : Rel t S M) : oFar S.1 < 5700 ↔ xOver M = false := by
  obtain ⟨m1, m2, m3⟩ := far_max h
  constructor
  · intro q
    cases z : xOver M with
    | false => rfl
    | true =>
      obtain ⟨c, hc, p⟩ := (anyTo_iff 60).mp z
      obtain ⟨p1, p2⟩ := of_decide_eq_true p
      have := m1 c hc p1
      omega
  · intro q
    by_cases z : oFar S.1 = 5700
    · rw [m3 z] at q; cases q
    · omega
theorem cause_iff (h : Rel t S M) {k : Int} (hk : 0 ≤ k ∧ k ≤ 3) : oCause S k = 0 ↔ xCause M k = false := by
  have o := over_iff h
  have s1 := h.2.2.2.1.1
  have s2 := h.2.2.2.1.2.1
  have m := mid_eq h
  unfold oCause xCause
  rcases (by omega : k = 0 ∨ k = 1 ∨ k = 2 ∨ k = 3) with rfl | rfl | rfl | rfl
  · simp
  · simp
    omega
  · simp
    omega
  · simp
    exact o
theorem rel_release (h : Rel t S M) {k : Int} (hk : 0 ≤ k ∧ k ≤ 3) : Rel t (up S.1 1 4 (gand (S.1 1 4) (gxor (gshl 1 k) (-1))), S.2) (up M 74 14 (gand (M 74 14) (gxor (gshl 1 k) (-1)))) := by
  obtain ⟨a1, a2, a3, a4, a5, a6, a7, a8, a9, a10⟩ := id h.2.2.2.2.1
  have b := (bits a2 hk).2
  rw [a1]
  generalize gand (M 74 14) (gxor (gshl 1 k) (-1)) = u at *
  refine rel_dsk h (fun a d e => up_cell e) (fun a d e _ => up_cell (by omega)) (up_slot (by omega)) (up_slot (by omega)) ?_
  unfold RelD
  simp [up]
  exact ⟨b, a3, a4, a5, a6, a7, a8, a9, a10⟩
theorem where_eq (h : Rel t S M) {c : Nat} (hc : c < 60) {sp w : Int} (h0 : M 75 c = 0 → sp = -1) (h2 : M 75 c = 2 → sp = S.1 (4 + c) 3) (h3 : M 75 c = 3 → sp = S.1 (4 + c) 4) : oWhere S (4 + c) sp w = xWhere M c sp w := by
  obtain ⟨a1, a2, a3, a4, a5, a6, a7, a8, a9, a10, a11, a12⟩ := h.2.1 c hc
  unfold oWhere xWhere xDoors
  rw [a2, a8, a11, a12]
  have p : M 75 c = 0 ∨ M 75 c = 1 ∨ M 75 c = 2 ∨ M 75 c = 3 := by omega
  have cl : M 75 c ≠ 2 → M 79 c = -1 := fun q => by
    by_cases z : 0 ≤ M 79 c
    · exact absurd (a9 z).2.1 q
    · exact (a10 (by omega)).1
  rcases p with p | p | p | p
  · rw [h0 p, a6 (by omega), (a7 (by omega)).1, (a7 (by omega)).2, cl (by omega), p]
    simp [sDoors]
  · rw [a6 (by omega), (a7 (by omega)).1, (a7 (by omega)).2, cl (by omega), p]
    simp [sDoors]
  · obtain ⟨b1, b2, b3, -⟩ := a4 p
    rw [h2 p, b1, b2, b3, p]
    simp
  · obtain ⟨b1, b2, -⟩ := a5 p
    rw [h3 p, b1, b2, (a7 (by omega)).1, (a7 (by omega)).2, cl (by omega), p]
    simp [sDoors]
theorem spot_eq (h : Rel t S M) {c : Nat} (hc : c < 60) (hp : M 75 c = 3) : sSpot S.1 (4 + c) = 6000 * M 77 c + M 76 c ∧ 0 ≤ 6000 * M 77 c + M 76 c ∧ 6000 * M 77 c + M 76 c ≤ 11700 := by
  obtain ⟨-, -, -, -, a5, -⟩ := h.2.1 c hc
  obtain ⟨b1, b2, b3, b4, b5⟩ := a5 hp
  unfold sSpot
  rw [b1, b2, gmul_eq (by omega) (by omega), gadd_eq (by omega) (by omega)]
  omega
theorem far_eq (h : Rel t S M) {o c : Nat} (ho : o < 60) (hc : c < 60) (hp : M 75 c = 3) (hq : M 75 o = 3) : xFar M o c = sFm (gsub (sSpot S.1 (4 + o)) (sSpot S.1 (4 + c))) ∧ (o ≠ c → 0 < xFar M o c) := by
  obtain ⟨e1, e2, e3⟩ := spot_eq h hc hp
  obtain ⟨f1, f2, f3⟩ := spot_eq h ho hq
  obtain ⟨-, -, -, -, a5, -⟩ := h.2.1 c hc
  obtain ⟨-, -, b3, b4, b5⟩ := a5 hp
  obtain ⟨-, -, -, -, c5, -⟩ := h.2.1 o ho
  obtain ⟨-, -, d3, d4, d5⟩ := c5 hq
  have x : xFar M o c = (6000 * M 77 o + M 76 o - 6000 * M 77 c - M 76 c + 12000) % 12000 := by
    have g1 : gmul 6000 (M 77 o) = 6000 * M 77 o := gmul_eq (by omega) (by omega)
    have g2 : gmul 6000 (M 77 c) = 6000 * M 77 c := gmul_eq (by omega) (by omega)
    have g3 : gadd (6000 * M 77 o) (M 76 o) = 6000 * M 77 o + M 76 o := gadd_eq (by omega) (by omega)
    have g4 : gsub (6000 * M 77 o + M 76 o) (6000 * M 77 c) = 6000 * M 77 o + M 76 o - 6000 * M 77 c := gsub_eq (by omega) (by omega)
    have g5 : gsub (6000 * M 77 o + M 76 o - 6000 * M 77 c) (M 76 c) = 6000 * M 77 o + M 76 o - 6000 * M 77 c - M 76 c := gsub_eq (by omega) (by omega)
    have g6 : gadd (6000 * M 77 o + M 76 o - 6000 * M 77 c - M 76 c) 12000 = 6000 * M 77 o + M 76 o - 6000 * M 77 c - M 76 c + 12000 := gadd_eq (by omega) (by omega)
    unfold xFar
    rw [g1, g2, g3, g4, g5, g6, grem_eq (by omega) (by omega) (by decide) (by decide)]
  rw [x, e1, f1, gsub_eq (by omega) (by omega)]
  unfold sFm
  refine ⟨by split <;> omega, fun ne => ?_⟩
  have : ¬ (M 77 o = M 77 c ∧ M 76 o = M 76 c) := fun q => ne (h.2.2.2.2.2.2.1 o c ho hc hq hp q.1 q.2)
  omega
theorem gap_eq (h : Rel t S M) {c : Nat} (hc : c < 60) (hp : M 75 c = 3) : ∀ k, k ≤ 60 → sWay S.1 (4 + c) k = xWay M c k
  | 0, _ => rfl
  | k + 1, hk => by
    unfold sWay xWay
    rw [gap_eq h hc hp k (by omega), (h.2.1 k (by omega)).2.1]
    by_cases q : M 75 k = 3 ∧ k ≠ c
    · rw [if_pos q, if_pos ⟨by omega, q.1⟩]
      obtain ⟨f1, f2⟩ := far_eq h (by omega : k < 60) hc hp q.1
      have := f2 q.2
      rw [← f1]
      split <;> omega
    · rw [if_neg q, if_neg (fun z => q ⟨z.2, by omega⟩)]
theorem state_eq (h : Rel t S M) {w : Int} : oState S w = xState M w := by
  obtain ⟨a1, a2, a3, a4, a5, a6, a7, a8, a9, a10⟩ := id h.2.2.2.2.1
  unfold oState xState
  rw [a3, a5, a7, a9, a10, mid_eq h, h.2.2.2.1.1, cnt_place h, cnt_place h, sumTo_congr 60 (f := fun j => S.1 (4 + j) 9) (g := fun j => M 82 j) (fun c hc => (h.2.1 c hc).2.2.2.2.2.2.2.2.2.2.1)]
end OPS7
