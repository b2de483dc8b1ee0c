/-! the relation is kept: the rope's way -/
section OPS5
variable {t : Nat} {S : sT} {M : Nat → Nat → Int}
theorem xAdv_cell {k a d : Nat} (h : a ≠ 76) : xAdv M k a d = M a d := by unfold xAdv; rw [if_neg (fun q => h q.1)]
theorem xAdv_on {d : Nat} (hd : d < 60) (h : M 75 d = 3) (h1 : 0 ≤ M 76 d ∧ M 76 d ≤ 5700) : xAdv M 60 76 d = M 76 d + 1 := by
  unfold xAdv; rw [if_pos ⟨rfl, hd⟩, if_pos h, gadd_eq (by omega) (by omega)]
theorem xAdv_off {d : Nat} (hd : d < 60) (h : M 75 d ≠ 3) (h1 : 0 ≤ M 76 d ∧ M 76 d ≤ 5700) : xAdv M 60 76 d = M 76 d := by
  unfold xAdv; rw [if_pos ⟨rfl, hd⟩, if_neg h, gadd_eq (by omega) (by omega)]; omega
theorem sAdv_cell {C : Nat → Nat → Int} {x : Int} {k a b : Nat} (h : a < 4 ∨ 64 ≤ a ∨ b ≠ 4) (hk : k ≤ 60) : sAdv C x k a b = C a b := by
  unfold sAdv; rw [if_neg (by omega)]
theorem sAdv_on {C : Nat → Nat → Int} {x : Int} {c : Nat} (hc : c < 60) (h : C (4 + c) 1 = 3) : sAdv C x 60 (4 + c) 4 = gadd (C (4 + c) 4) x := by
  unfold sAdv; rw [if_pos ⟨by omega, by omega, rfl, h⟩]
theorem sAdv_off {C : Nat → Nat → Int} {x : Int} {c b : Nat} (h : C (4 + c) 1 ≠ 3) : sAdv C x 60 (4 + c) b = C (4 + c) b := by
  unfold sAdv; rw [if_neg (fun q => h q.2.2.2)]
/-- one step of the rope -/
theorem rel_adv (h : Rel t S M) (hm : ∀ c, c < 60 → M 75 c = 3 → M 76 c + 1 ≤ 5700) : Rel t (sAdv S.1 1 60, S.2) (xAdv M 60) := by
  obtain ⟨w, hC, hZ, hS, hD, hW, hU, hK⟩ := h
  have x1 : ∀ a d, a ≠ 76 → xAdv M 60 a d = M a d := fun a d h => xAdv_cell h
  have y1 : ∀ a d, a < 4 ∨ 64 ≤ a → sAdv S.1 1 60 a d = S.1 a d := fun a d h => sAdv_cell (by omega) (by omega)
  refine ⟨w.adv, fun d hd => ?_, ?_, ?_, ?_, ?_, ?_, ?_⟩
  · obtain ⟨a1, a2, a3, a4, a5, a6, a7, a8, a9, a10, a11, a12⟩ := hC d hd
    have y : ∀ k, k ≠ 4 → sAdv S.1 1 60 (4 + d) k = S.1 (4 + d) k := fun k h => sAdv_cell (by omega) (by omega)
    unfold RelC
    dsimp only
    rw [x1 75 d (by omega), x1 77 d (by omega), x1 78 d (by omega), x1 79 d (by omega), x1 80 d (by omega), x1 81 d (by omega), x1 82 d (by omega), x1 83 d (by omega), y 0 (by omega), y 1 (by omega), y 2 (by omega), y 3 (by omega), y 5 (by omega), y 6 (by omega), y 7 (by omega), y 8 (by omega), y 9 (by omega), y 10 (by omega)]
    refine ⟨a1, a2, a3, fun q => ?_, fun q => ?_, a6, a7, a8, fun q => ?_, a10, a11, a12⟩
    · have e := a4 q
      rw [xAdv_off hd (by omega) (by omega)]
      exact e
    · obtain ⟨b1, b2, b3, b4, b5⟩ := a5 q
      rw [xAdv_on hd q ⟨b4, b5⟩, sAdv_on hd (by omega), b2, gadd_eq (by omega) (by omega)]
      have := hm d hd q
      exact ⟨b1, rfl, b3, by omega, by omega⟩
    · have e := a9 q
      rw [xAdv_off hd (by omega) (by omega)]
      exact e
  · intro s z n hs hn
    obtain ⟨d, d1, d2, d3, d4, d5⟩ := hZ s z n hs hn
    refine ⟨d, d1, d2, by rw [x1 75 d (by omega)]; exact d3, by rw [x1 77 d (by omega)]; exact d4, ?_⟩
    obtain ⟨-, -, -, a4, -⟩ := hC d d1
    have e := a4 d3
    rw [xAdv_off d1 (by omega) (by omega)]
    exact d5
  · exact hS.frame (y1 65 1 (by omega)) (x1 74 10 (by omega)) (fun k => x1 84 k (by omega)) (fun _ => rfl) (fun d hd => by rw [x1 75 d (by omega)])
  · exact hD.frame (fun k => y1 1 k (by omega)) (fun k _ => x1 74 k (by omega))
  · exact hW.frame (fun k => y1 67 k (by omega)) (fun k => y1 68 k (by omega)) (x1 74 12 (by omega)) (fun k => x1 85 k (by omega))
  · intro a b ha hb g1 g2 g3 g4
    rw [x1 75 a (by omega)] at g1
    rw [x1 75 b (by omega)] at g2
    rw [x1 77 a (by omega), x1 77 b (by omega)] at g3
    obtain ⟨-, -, -, -, a5, -⟩ := hC a ha
    obtain ⟨-, -, -, -, b5, -⟩ := hC b hb
    rw [xAdv_on ha g1 (a5 g1).2.2.2, xAdv_on hb g2 (b5 g2).2.2.2] at g4
    exact hU a b ha hb g1 g2 g3 (by omega)
  · intro a b ha hb g1 g2 g3
    rw [x1 75 b (by omega)] at g2
    obtain ⟨-, -, -, -, b5, -⟩ := hC b hb
    rw [xAdv_on hb g2 (b5 g2).2.2.2]
    have := (b5 g2).2.2.2
    omega
theorem xGo1_id {k : Nat} (h : ¬ (M 75 k = 3 ∧ M 76 k = 5700)) : xGo1 M k = M := by
  unfold xGo1; rw [if_neg (fun q => h ⟨q.1, q.2.1⟩)]
theorem xGoFrom_id : ∀ (m k : Nat), k + m ≤ 60 → (∀ c, c < 60 → M 75 c = 3 → M 76 c ≠ 5700) → xGoFrom M k m = M
  | 0, _, _, _ => rfl
  | m + 1, k, hk, h => by
    unfold xGoFrom
    rw [xGo1_id (fun q => h k (by omega) q.1 q.2)]
    exact xGoFrom_id m (k + 1) (by omega) h
theorem sAdv_add (h : Rel t S M) {d : Nat} (hd : d ≤ 5700) : sAdv (sAdv S.1 1 60) (d : Int) 60 = sAdv S.1 ((d + 1 : Nat) : Int) 60 := by
  funext a b
  by_cases e : 4 ≤ a ∧ a < 64 ∧ b = 4 ∧ S.1 a 1 = 3
  · obtain ⟨e1, e2, e3, e4⟩ := e
    obtain ⟨c, rfl⟩ : ∃ c, a = 4 + c := ⟨a - 4, by omega⟩
    subst e3
    obtain ⟨-, a2, -, -, a5, -⟩ := h.2.1 c (by omega)
    have := a5 (by omega)
    rw [sAdv_on (by omega) (by rw [sAdv_cell (by omega) (by omega)]; exact e4), sAdv_on (by omega) e4, sAdv_on (by omega) e4, gadd_eq (a := S.1 (4 + c) 4) (by omega) (by omega), gadd_eq (by omega) (by omega), gadd_eq (by omega) (by omega)]
    omega
  · have l : sAdv (sAdv S.1 1 60) (d : Int) 60 a b = sAdv S.1 1 60 a b := by
      show (if 4 ≤ a ∧ a < 4 + 60 ∧ b = 4 ∧ sAdv S.1 1 60 a 1 = 3 then _ else _) = _
      rw [sAdv_cell (b := 1) (by omega) (by omega)]
      exact if_neg (by omega)
    rw [l]
    unfold sAdv
    rw [if_neg (by omega), if_neg (by omega)]
theorem rel_jump {n : Int} : ∀ (d f : Nat) {S : sT} {M : Nat → Nat → Int} (v : Int), Rel t S M → 1 ≤ d → d ≤ 5700 → d ≤ f → v + d ≤ n → (∀ c, c < 60 → M 75 c = 3 → M 76 c + d ≤ 5700) → ∃ N, Rel t (sAdv S.1 (d : Int) 60, S.2) N ∧ xRun n f M v = xRun n (f - d) (xGo N) (v + d)
  | 0, _, _, _, _, _, h, _, _, _, _ => by omega
  | d + 1, 0, _, _, _, _, _, _, h, _, _ => by omega
  | d + 1, f + 1, S, M, v, h, h1, h2, h3, h4, hm => by
    have ho : xOver M = false := by
      cases q : xOver M with
      | false => rfl
      | true =>
        obtain ⟨c, hc, p⟩ := (anyTo_iff 60).mp q
        obtain ⟨p1, p2⟩ := of_decide_eq_true p
        have := hm c hc p1
        omega
    have e1 : xRun n (f + 1) M v = xRun n f (xGo (xAdv M 60)) (v + 1) := by
      rw [xRun, if_neg (by omega), if_neg (by rw [ho]; decide)]
    have r1 := rel_adv h (fun c hc p => by have := hm c hc p; omega)
    cases d with
    | zero => exact ⟨xAdv M 60, r1, e1⟩
    | succ d =>
      have on : ∀ c, c < 60 → M 75 c = 3 → xAdv M 60 76 c = M 76 c + 1 := fun c hc p => by
        obtain ⟨-, -, -, -, a5, -⟩ := h.2.1 c hc
        exact xAdv_on hc p (a5 p).2.2.2
      have e2 : xGo (xAdv M 60) = xAdv M 60 := xGoFrom_id 60 0 (by omega) (fun c hc p => by
        rw [xAdv_cell (by omega)] at p
        rw [on c hc p]
        have := hm c hc p
        omega)
      obtain ⟨N, n1, n2⟩ := rel_jump (n := n) (d + 1) f (v + 1) r1 (by omega) (by omega) (by omega) (by omega) (fun c hc p => by
        rw [xAdv_cell (by omega)] at p
        rw [on c hc p]
        have := hm c hc p
        omega)
      refine ⟨N, ?_, ?_⟩
      · have := sAdv_add h (d := d + 1) (by omega)
        dsimp only at n1
        rw [this] at n1
        exact n1
      · rw [e1, e2, n2, show f + 1 - (d + 1 + 1) = f - (d + 1) by omega, show v + 1 + ((d + 1 : Nat) : Int) = v + ((d + 1 + 1 : Nat) : Int) by omega]
theorem far_max (h : Rel t S M) : (∀ c, c < 60 → M 75 c = 3 → M 76 c ≤ oFar S.1) ∧ (0 ≤ oFar S.1 ∧ oFar S.1 ≤ 5700) ∧ (oFar S.1 = 5700 → xOver M = true) := by
  have hC := h.2.1
  have g : ∀ c, c < 60 → M 75 c = 3 → M 76 c ≤ oFar S.1 := fun c hc p => by
    obtain ⟨-, a2, -, -, a5, -⟩ := hC c hc
    have := maxTo_ge (p := fun j => decide (S.1 (4 + j) 1 = 3)) (f := fun j => S.1 (4 + j) 4) 60 c hc (decide_eq_true (by omega))
    have e := (a5 p).2.1
    unfold oFar
    omega
  refine ⟨g, ?_, fun q => ?_⟩
  · have n := maxTo_nn (p := fun j => decide (S.1 (4 + j) 1 = 3)) (f := fun j => S.1 (4 + j) 4) 60
    have n2 := maxTo_lt (p := fun j => decide (S.1 (4 + j) 1 = 3)) (f := fun j => S.1 (4 + j) 4) (b := 5701) (by omega) 60 (fun c hc p => by
      have p := of_decide_eq_true p
      obtain ⟨-, a2, -, -, a5, -⟩ := hC c hc
      have := a5 (by omega)
      omega)
    unfold oFar
    omega
  · unfold oFar at q
    rcases maxTo_at (p := fun j => decide (S.1 (4 + j) 1 = 3)) (f := fun j => S.1 (4 + j) 4) 60 with e | ⟨c, hc, p, e⟩
    · omega
    · have p := of_decide_eq_true p
      obtain ⟨-, a2, -, -, a5, -⟩ := hC c hc
      have := a5 (by omega)
      exact (anyTo_iff 60).mpr ⟨c, hc, decide_eq_true ⟨by omega, by omega⟩⟩
theorem rel_move {n : Int} (hn : n ≤ 600) : ∀ (f g : Nat) {S : sT} {M : Nat → Nat → Int} (v : Int), Rel t S M → 0 ≤ v → n - v ≤ f → n - v ≤ g → (oMove n f S v).2 = (xRun n g M v).2 ∧ 0 ≤ (xRun n g M v).2 ∧ ((xRun n g M v).2 < n → Rel t (oMove n f S v).1 (up (xRun n g M v).1 74 14 (gor ((xRun n g M v).1 74 14) 8))) ∧ (¬ (xRun n g M v).2 < n → Rel t (oMove n f S v).1 (xRun n g M v).1) := by
  intro f
  induction f with
  | zero =>
    intro g S M v h v0 hf hg
    have e1 : oMove n 0 S v = (S, v) := rfl
    have e2 : xRun n g M v = (M, v) := by
      cases g with
      | zero => rfl
      | succ g => rw [xRun, if_pos (by omega)]
    rw [e1, e2]
    exact ⟨rfl, v0, fun q => absurd q (by dsimp only; omega), fun _ => h⟩
  | succ f ih =>
    intro g S M v h v0 hf hg
    by_cases hv : n ≤ v
    · have e1 : oMove n (f + 1) S v = (S, v) := by rw [oMove, if_pos hv]
      have e2 : xRun n g M v = (M, v) := by
        cases g with
        | zero => rfl
        | succ g => rw [xRun, if_pos (by omega)]
      rw [e1, e2]
      exact ⟨rfl, v0, fun q => absurd q (by dsimp only; omega), fun _ => h⟩
    · obtain ⟨m1, m2, m3⟩ := far_max h
      have eg : gsub 5700 (oFar S.1) = 5700 - oFar S.1 := gsub_eq (by omega) (by omega)
      by_cases q : oFar S.1 = 5700
      · have e1 : oMove n (f + 1) S v = ((oLock S.1 3, S.2), v) := by rw [oMove, if_neg hv, if_pos (by omega)]
        have e2 : xRun n g M v = (M, v) := by
          cases g with
          | zero => rfl
          | succ g => rw [xRun, if_neg hv, if_pos (m3 q)]
        rw [e1, e2]
        exact ⟨rfl, v0, fun _ => rel_lock h (by omega) gshl_b.2.2.2, fun q => absurd q (by dsimp only; omega)⟩
      · obtain ⟨d, hd⟩ : ∃ d : Nat, min (gsub 5700 (oFar S.1)) (n - v) = (d : Int) := ⟨(min (gsub 5700 (oFar S.1)) (n - v)).toNat, by omega⟩
        have e1 : oMove n (f + 1) S v = oMove n f (oGo (sAdv S.1 (d : Int) 60, S.2)) (v + d) := by rw [oMove, if_neg hv, if_neg (by omega), hd]
        obtain ⟨N, n1, n2⟩ := rel_jump (n := n) d g v h (by omega) (by omega) (by omega) (by omega) (fun c hc p => by have := m1 c hc p; omega)
        rw [e1, n2]
        exact ih (g - d) (v + d) (rel_go n1) (by omega) (by omega) (by omega)
theorem rel_pulse (h : Rel t S M) {n : Int} (h1 : 0 ≤ n) (h2 : n ≤ 600) : (oPulse S n).2 = (xPulse M n).2 ∧ Rel t (oPulse S n).1 (xPulse M n).1 := by
  have h0 : Rel t S (up M 74 0 0) := rel_out h (fun a d _ _ => up_cell (by omega)) (fun d e => up_slot e)
  obtain ⟨r1, r2, r3, r4⟩ := rel_move (n := n) h2 n.toNat n.toNat 0 (rel_go h0) (by omega) (by omega) (by omega)
  unfold oPulse xPulse
  dsimp only
  refine ⟨r1, ?_⟩
  rw [r1]
  generalize xRun n n.toNat (xGo (up M 74 0 0)) 0 = Q at *
  generalize oMove n n.toNat (oGo S) 0 = P at *
  by_cases q : Q.2 < n
  · rw [if_pos q]
    have r := r3 q
    obtain ⟨a1, a2, a3, a4, a5, a6, a7, a8, a9, a10⟩ := id r.2.2.2.2.1
    refine rel_dsk r (fun a d e => up_cell e) (fun a d e _ => up_cell (by omega)) (up_slot (by omega)) (up_slot (by omega)) ?_
    unfold RelD
    simp [up] at a1 a2 a3 a4 a5 a6 a7 a8 a9 a10 ⊢
    rw [a10]
    exact ⟨a1, a2, a3, a4, a5, a6, a7, a8, a9, rfl⟩
  · rw [if_neg q]
    have r := r4 q
    obtain ⟨a1, a2, a3, a4, a5, a6, a7, a8, a9, a10⟩ := id r.2.2.2.2.1
    refine rel_dsk r (fun a d e => up_cell e) (fun a d e _ => up_cell (by omega)) (up_slot (by omega)) (up_slot (by omega)) ?_
    unfold RelD
    simp [up] at a1 a2 a3 a4 a5 a6 a7 a8 a9 a10 ⊢
    rw [a10]
    exact ⟨a1, a2, a3, a4, a5, a6, a7, a8, a9, rfl⟩
end OPS5
