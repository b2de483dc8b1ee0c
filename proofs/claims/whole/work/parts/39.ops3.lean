/-! the relation is kept: clamping, zones, ticks -/
section OPS3
variable {t : Nat} {S : sT} {M : Nat → Nat → Int}
theorem xDone_ne {c a d : Nat} (h : d ≠ c) : xDone M c a d = M a d := by unfold xDone; rw [up_slot h, up_slot h, up_slot h]
theorem xDone_cell {c a d : Nat} (h : a ≠ 78 ∧ a ≠ 79) : xDone M c a d = M a d := by unfold xDone; rw [up_cell (by omega), up_cell (by omega), up_cell (by omega)]
theorem xDone_79 {c : Nat} : xDone M c 79 c = -1 := by simp [xDone, up]
theorem xDone_78 {c : Nat} : xDone M c 78 c = 0 := by simp [xDone, up]
/-- with a proved grip -/
theorem rel_leave (h : Rel t S M) {c s : Nat} (hc : c < 60) (hs : s < 2) (h1 : M 75 c = 2) (h2 : M 77 c = (s : Int)) (h3 : M 76 c = 12) (h4 : 0 ≤ M 79 c) {x : Int} : Rel t (oLeave (up S.1 (4 + c) 6 x, S.2) s (4 + c)) (xOk (xDone M c) c) := by
  obtain ⟨w, hC, hZ, hS, hD, hW, hU, hK⟩ := h
  have y1 : ∀ a d, a ≠ 4 + c → (oLeave (up S.1 (4 + c) 6 x, S.2) s (4 + c)).1 a d = S.1 a d := fun a d h => by
    unfold oLeave oStop; dsimp only
    rw [up_cell h, up_cell h, up_cell h, sStand_cell h, up_cell h, up_cell h, up_cell h, up_cell h]
  have n1 : ∀ a d, d ≠ c → xOk (xDone M c) c a d = M a d := fun a d h => by unfold xOk; rw [up_slot h, up_slot h, up_slot h, xDone_ne h]
  have n2 : ∀ a d, a < 75 ∨ 83 < a → xOk (xDone M c) c a d = M a d := fun a d h => by unfold xOk; rw [up_cell (by omega), up_cell (by omega), up_cell (by omega), xDone_cell (by omega)]
  have n75 : xOk (xDone M c) c 75 c = 3 := by simp [xOk, up]
  have n76 : xOk (xDone M c) c 76 c = 0 := by simp [xOk, up]
  have n77 : xOk (xDone M c) c 77 c = M 77 c := by simp [xOk, xDone, up]
  have n79 : xOk (xDone M c) c 79 c = -1 := by simp [xOk, xDone, up]
  have hz : S.2.1 s 12 = some (4 + c) := by
    obtain ⟨-, -, -, a4, -⟩ := hC c hc
    have := (a4 h1).2.2.2.2.2
    rw [h2, h3, Int.toNat_natCast] at this
    exact this
  refine ⟨(w.cab (by omega) (by omega) (by omega)).leave hs (by omega) (by omega), fun d hd => ?_, ?_, ?_, ?_, ?_, ?_, ?_⟩
  · by_cases e : d = c
    · subst e
      obtain ⟨a1, a2, a3, a4, a5, a6, a7, a8, a9, a10, a11, a12⟩ := hC d hd
      unfold RelC
      rw [n75, n76, n77, n79]
      refine ⟨?_, ?_, by omega, fun q => by omega, fun _ => ⟨?_, ?_, by omega, by omega, by omega⟩, fun q => by omega, fun _ => ⟨?_, ?_⟩, ?_, fun q => by omega, fun _ => ⟨rfl, ?_, ?_⟩, ?_, ?_⟩
      · simp [oLeave, sStand, oStop, up]; exact a1
      · simp [oLeave, sStand, oStop, up]
      · simp [oLeave, sStand, oStop, up]; exact h2.symm
      · simp [oLeave, sStand, oStop, up]
      · simp [oLeave, sStand, oStop, up]
      · simp [oLeave, sStand, oStop, up]
      · simp [oLeave, sStand, oStop, up]
      · simp [oLeave, sStand, oStop, up]
      · simp [oLeave, sStand, oStop, up]
      · simp [oLeave, sStand, oStop, xOk, xDone, up]; rw [a11]
      · simp [oLeave, sStand, oStop, xOk, xDone, up]; exact a12
    · refine (hC d hd).frame (fun j => y1 _ _ (by omega)) (fun a _ _ => n1 a d e) (fun q => ?_)
      obtain ⟨-, -, -, a4, -⟩ := hC d hd
      have b3 := (a4 q).2.2.2.2.2
      show up S.2.1 s 12 none (M 77 d).toNat (M 76 d).toNat = _
      unfold up
      rw [if_neg (fun z => by rw [z.1, z.2, hz] at b3; have := Option.some.inj b3; omega)]
  · intro a b n ha hn
    have hn : up S.2.1 s 12 none a b = some n := hn
    unfold up at hn
    split at hn
    · cases hn
    · rename_i g
      obtain ⟨d, d1, d2, d3, d4, d5⟩ := hZ a b n ha hn
      have e : d ≠ c := fun e => g (by rw [e] at d4 d5; omega)
      exact ⟨d, d1, d2, by rw [n1 _ _ e]; exact d3, by rw [n1 _ _ e]; exact d4, by rw [n1 _ _ e]; exact d5⟩
  · refine hS.frame (y1 65 1 (by omega)) (n2 74 10 (by omega)) (fun j => n2 84 j (by omega)) (fun _ => rfl) (fun d hd => ?_)
    by_cases e : d = c
    · subst e; rw [n75]; omega
    · rw [n1 _ _ e]
  · exact hD.frame (fun j => y1 1 j (by omega)) (fun j _ => n2 74 j (by omega))
  · exact hW.frame (fun j => y1 67 j (by omega)) (fun j => y1 68 j (by omega)) (n2 74 12 (by omega)) (fun j => n2 85 j (by omega))
  · intro a b ha hb g1 g2 g3 g4
    by_cases ea : a = c
    · by_cases eb : b = c
      · omega
      · subst ea
        rw [n1 _ _ eb] at g2
        rw [n77, n1 _ _ eb] at g3
        rw [n76, n1 _ _ eb] at g4
        have := hK a b ha hb h4 g2 g3.symm
        omega
    · by_cases eb : b = c
      · subst eb
        rw [n1 _ _ ea] at g1
        rw [n77, n1 _ _ ea] at g3
        rw [n76, n1 _ _ ea] at g4
        have := hK b a hb ha h4 g1 g3
        omega
      · rw [n1 _ _ ea] at g1
        rw [n1 _ _ eb] at g2
        rw [n1 _ _ ea, n1 _ _ eb] at g3 g4
        exact hU a b ha hb g1 g2 g3 g4
  · intro a b ha hb g1 g2 g3
    have ea : a ≠ c := fun e => by rw [e, n79] at g1; omega
    rw [n1 _ _ ea] at g1 g3
    by_cases eb : b = c
    · exfalso
      subst eb
      rw [n77, h2] at g3
      obtain ⟨-, -, -, a4, -, -, -, -, a9, -⟩ := hC a ha
      obtain ⟨-, q1, q2, -⟩ := a9 g1
      have b3 := (a4 q1).2.2.2.2.2
      rw [← g3, q2, Int.toNat_natCast] at b3
      have b4 := hz.symm.trans b3
      have := Option.some.inj b4
      omega
    · rw [n1 _ _ eb] at g2 g3 ⊢
      exact hK a b ha hb g1 g2 g3
theorem sStand_age {C : Nat → Nat → Int} {n : Nat} {x p : Int} : sStand (up C n 5 x) n p = sStand C n p := by
  funext a b
  unfold sStand up
  by_cases e : a = n ∧ b = 5
  · simp [e]
  · simp [e]
theorem oLock_age {C : Nat → Nat → Int} {n : Nat} {x k : Int} (h : n ≠ 1) : oLock (up C n 5 x) k = up (oLock C k) n 5 x := by
  funext a b
  unfold oLock
  rw [up_cell (f := C) (a' := 1) (by omega)]
  unfold up
  by_cases e : a = n ∧ b = 5
  · simp [e, h]
  · simp [e]
theorem rel_fail (h : Rel t S M) {c s : Nat} (hc : c < 60) (hs : s < 2) (h1 : M 75 c = 2) (h2 : M 77 c = (s : Int)) (h3 : M 76 c = 12) {x f : Int} : Rel t (oFail (up S.1 (4 + c) 6 x, S.2) s (4 + c) f) (xFail (xDone M c) c f) := by
  have h' := h
  obtain ⟨w, hC, hZ, hS, hD, hW, hU, hK⟩ := h
  have hz : S.2.1 s 12 = some (4 + c) := by
    obtain ⟨-, -, -, a4, -⟩ := hC c hc
    have := (a4 h1).2.2.2.2.2
    rw [h2, h3, Int.toNat_natCast] at this
    exact this
  have hcol : Rel t (up (oStop (up (up S.1 (4 + c) 6 x) (4 + c) 10 f) (4 + c)) (4 + c) 5 0, S.2) (up (xDone M c) 83 c f) := by
    refine rel_col h' hc ?_ (fun a d e => ?_) (fun a d e => ?_) (fun a d e => ?_) ?_ ?_ ?_ ?_ ?_
    · exact (((w.cab (k := 6) (x := x) (by omega) (by omega) (by omega)).cab (k := 10) (x := f) (by omega) (by omega) (by omega)).stop (by omega) (by omega)).cab (by omega) (by omega) (by omega)
    · unfold oStop; rw [up_cell e, up_cell e, up_cell e, up_cell e, up_cell e, up_cell e]
    · rw [up_cell (by omega), xDone_cell (by omega)]
    · rw [up_slot e, xDone_ne e]
    · simp [xDone, up]
    · simp [xDone, up]
    · simp [xDone, up]
    · obtain ⟨a1, a2, a3, a4, a5, a6, a7, a8, a9, a10, a11, a12⟩ := hC c hc
      unfold RelC
      simp [oStop, xDone, up]
      obtain ⟨b1, b2, b3, b4, b5, b6⟩ := a4 h1
      exact ⟨a1, a2, a3, fun _ => ⟨b1, b2, b4, b5, b6⟩, fun q => by omega, fun q => by omega, h1, a11⟩
    · intro q; simp [xDone, up] at q
  have r10 : xDone M c 74 10 = M 74 10 := xDone_cell (by omega)
  have l1 : up (xDone M c) 83 c f 74 14 = xDone M c 74 14 := up_cell (by omega)
  have hl := rel_lock hcol (k := 0) (b := 1) (Or.inl rfl) gshl_b.1
  rw [l1] at hl
  dsimp only at hl
  unfold oFail xFail
  dsimp only
  have r65 : up S.1 (4 + c) 6 x 65 1 = M 74 10 := by rw [up_cell (by omega), hS.1]
  by_cases r : M 74 10 < 20
  · rw [if_pos (show up S.1 (4 + c) 6 x 65 1 < 20 by rw [r65]; exact r), if_pos (show xDone M c 74 10 < 20 by rw [r10]; exact r)]
    have e : oAppend (oLock (oStop (up (up S.1 (4 + c) 6 x) (4 + c) 10 f) (4 + c)) 0, up S.2.1 s 12 none, S.2.2) (4 + c) = oAppend (oLock (up (oStop (up (up S.1 (4 + c) 6 x) (4 + c) 10 f) (4 + c)) (4 + c) 5 0) 0, up S.2.1 s 12 none, S.2.2) (4 + c) := by
      unfold oAppend
      dsimp only
      rw [oLock_age (by omega), sStand_age, up_cell (f := oLock _ _) (a' := 65) (by omega)]
    rw [e]
    have hq : up (up (xDone M c) 83 c f) 74 14 (gor (xDone M c 74 14) 1) 74 10 = M 74 10 := by rw [up_slot (by omega), up_cell (by omega), r10]
    refine rel_side (Z0 := up S.2.1 s 12 none) hl hc (fun a b ha => ?_) (fun a b ha g => ?_) ?_ ?_ (by rw [hq]; exact r) ?_
    · unfold up
      split
      · rename_i q; exact Or.inr ⟨rfl, by rw [q.1, q.2]; exact hz⟩
      · exact Or.inl rfl
    · unfold up at g
      split at g
      · cases g
      · rename_i q
        obtain ⟨d, d1, d2, d3, d4, d5⟩ := hZ a b _ ha g
        obtain rfl : d = c := by omega
        exact q (by omega)
    · simp [xDone, up]
    · simp [xDone, up]; omega
    · refine Wf.append ((hl.1).setZ (s := s) (z := 12) (o := none) (fun _ q => nomatch q)) (by omega) (by omega) ?_
      have := hl.2.2.2.1.1
      rw [hq] at this
      dsimp only at this ⊢
      omega
  · rw [if_neg (show ¬ up S.1 (4 + c) 6 x 65 1 < 20 by rw [r65]; exact r), if_neg (show ¬ xDone M c 74 10 < 20 by rw [r10]; exact r)]
    have hl2 := rel_lock hl (k := 1) (b := 2) (Or.inr (Or.inl rfl)) gshl_b.2.1
    dsimp only at hl2
    rw [up_same] at hl2
    rw [oLock_age (by omega), oLock_age (by omega)] at hl2
    exact hl2
theorem clamp_eq {c : Nat} (h : 0 ≤ M 80 c ∧ M 80 c ≤ 20000 ∧ 0 ≤ M 81 c ∧ M 81 c ≤ 20000) : xClamp M c = if sFault (M 80 c) (M 81 c) = 0 then xOk (xDone M c) c else xFail (xDone M c) c (sFault (M 80 c) (M 81 c)) := by
  unfold xClamp
  rw [if_neg (by omega)]
  unfold xJudge
  generalize M 80 c = a at *
  generalize M 81 c = b at *
  have e1 : gsub a b = a - b := gsub_eq (by omega) (by omega)
  have e2 : gsub b a = b - a := gsub_eq (by omega) (by omega)
  have e3 : gsub 0 (a - b) = b - a := by rw [gsub_eq (by omega) (by omega)]; omega
  have m1 : gmul 100 (a - b) = 100 * (a - b) := gmul_eq (by omega) (by omega)
  have m2 : gmul 100 (b - a) = 100 * (b - a) := gmul_eq (by omega) (by omega)
  have m3 : gmul 3 a = 3 * a := gmul_eq (by omega) (by omega)
  have m4 : gmul 3 b = 3 * b := gmul_eq (by omega) (by omega)
  rw [e1, e2, m3, m4, m1, m2]
  by_cases q : b < a
  · rw [if_pos q]
    by_cases c1 : b ≤ 4000
    · have F : sFault a b = 1 := by
        unfold sFault
        by_cases c2 : a ≤ 4000
        · rw [if_pos c2]
        · rw [if_neg c2, if_pos c1]
      rw [if_pos c1, F, if_neg (by decide)]
    · have F : sFault a b = if 100 * (a - b) ≤ 3 * a then 0 else 2 := by
        unfold sFault sAbs
        rw [if_neg (show ¬ a ≤ 4000 by omega), if_neg c1, e1, if_pos (show (0 : Int) ≤ a - b by omega), m1, show max a b = a by omega, m3]
      rw [if_neg c1, F]
      by_cases c3 : 3 * a < 100 * (a - b)
      · rw [if_pos c3, if_neg (show ¬ 100 * (a - b) ≤ 3 * a by omega), if_neg (by decide)]
      · rw [if_neg c3, if_pos (show 100 * (a - b) ≤ 3 * a by omega), if_pos rfl]
  · rw [if_neg q]
    by_cases c1 : a ≤ 4000
    · have F : sFault a b = 1 := by unfold sFault; rw [if_pos c1]
      rw [if_pos c1, F, if_neg (by decide)]
    · have F : sFault a b = if 100 * (b - a) ≤ 3 * b then 0 else 2 := by
        unfold sFault sAbs
        rw [if_neg c1, if_neg (show ¬ b ≤ 4000 by omega), e1, show max a b = b by omega, m4]
        by_cases z : a = b
        · subst z
          rw [if_pos (show (0 : Int) ≤ a - a by omega), m1]
        · rw [if_neg (show ¬ (0 : Int) ≤ a - b by omega), e3, m2]
      rw [if_neg c1, F]
      by_cases c3 : 3 * b < 100 * (b - a)
      · rw [if_pos c3, if_neg (show ¬ 100 * (b - a) ≤ 3 * b by omega), if_neg (by decide)]
      · rw [if_neg c3, if_pos (show 100 * (b - a) ≤ 3 * b by omega), if_pos rfl]
theorem rel_clamp (h : Rel t S M) {c s : Nat} (hc : c < 60) (hs : s < 2) (h1 : M 75 c = 2) (h2 : M 77 c = (s : Int)) (h3 : M 76 c = 12) (h4 : 0 ≤ M 79 c) : Rel t (oClamp S s (4 + c)) (xClamp M c) := by
  have h' := h
  obtain ⟨w, hC, hZ, hS, hD, hW, hU, hK⟩ := h
  have hcc := hC c hc
  obtain ⟨a1, a2, a3, a4, a5, a6, a7, a8, a9, a10, a11, a12⟩ := hcc
  obtain ⟨b0, -, -, b1, b2, b3⟩ := a9 h4
  have eg : gadd (M 79 c) 1 = M 79 c + 1 := gadd_eq (by omega) (by omega)
  unfold oClamp
  rw [b1, b2, a8]
  rcases b3 with ⟨q1, q2⟩ | q
  · rw [if_neg (show ¬ 0 ≤ M 80 c by omega)]
    unfold xClamp
    rw [if_pos (show M 80 c < 0 by omega)]
    by_cases r : gadd (M 79 c) 1 < 40
    · rw [if_pos r, if_pos r]
      refine rel_col h' hc (w.cab (by omega) (by omega) (by omega)) (fun a d e => up_cell e) (fun a d e => up_cell (by omega)) (fun a d e => up_slot e) (up_cell (by omega)) (up_cell (by omega)) (up_cell (by omega)) ?_ (fun _ d hd g1 g2 => hK c d hc hd h4 g1 g2)
      unfold RelC
      simp [up]
      obtain ⟨d1, d2, d3, d4, d5, d6⟩ := a4 h1
      refine ⟨a1, a2, a3, fun _ => ⟨d1, d2, d3, d4, d5, d6⟩, fun q => by omega, fun q => by omega, fun q => absurd h1 q, fun _ => ⟨r, h1, h3, b1, b2, Or.inl ⟨q1, q2⟩⟩, fun q => by omega, a11, a12⟩
    · rw [if_neg r, if_neg r]
      exact rel_fail h' hc hs h1 h2 h3
  · rw [if_pos (show 0 ≤ M 80 c by omega), clamp_eq q]
    by_cases r : sFault (M 80 c) (M 81 c) = 0
    · rw [if_pos r, if_pos r]
      exact rel_leave h' hc hs h1 h2 h3 h4
    · rw [if_neg r, if_neg r]
      exact rel_fail h' hc hs h1 h2 h3
end OPS3
