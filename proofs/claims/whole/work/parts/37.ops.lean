/-! the relation is kept: single steps -/
section OPS
variable {t : Nat} {S : sT} {M : Nat → Nat → Int}
theorem xEnt_ne {k d a : Nat} {s z : Int} (h : d ≠ k) : xEnt M k s z a d = M a d := by
  unfold xEnt
  rw [up_slot h, up_slot h, up_slot h, up_slot h]
theorem xEnt_at {k a : Nat} {s z : Int} (h : a ≠ 75 ∧ a ≠ 76 ∧ a ≠ 77 ∧ a ≠ 78) {d : Nat} : xEnt M k s z a d = M a d := by
  unfold xEnt
  rw [up_cell (by omega), up_cell (by omega), up_cell (by omega), up_cell (by omega)]
theorem xEnt_75 {k : Nat} {s z : Int} : xEnt M k s z 75 k = 2 := by simp [xEnt, up]
theorem xEnt_76 {k : Nat} {s z : Int} : xEnt M k s z 76 k = z := by simp [xEnt, up]
theorem xEnt_77 {k : Nat} {s z : Int} : xEnt M k s z 77 k = s := by simp [xEnt, up]
theorem xEnt_78 {k : Nat} {s z : Int} : xEnt M k s z 78 k = 0 := by simp [xEnt, up]
theorem sStand_cell {C : Nat → Nat → Int} {n a b : Nat} {p : Int} (h : a ≠ n) : sStand C n p a b = C a b := by
  unfold sStand
  rw [up_cell h, up_cell h, up_cell h, up_cell h]
theorem sAdm_cell {C : Nat → Nat → Int} {n s a b : Nat} {z : Int} (h : a ≠ n) : sAdm C n s z a b = C a b := by
  unfold sAdm
  rw [up_cell h, up_cell h, up_cell h, sStand_cell h]
/-- the fields of a cabin that only standing changes -/
theorem sStand_k {C : Nat → Nat → Int} {n k : Nat} {p : Int} (h : k ≠ 1 ∧ k ≠ 2 ∧ k ≠ 3 ∧ k ≠ 5) : sStand C n p n k = C n k := by
  unfold sStand
  rw [up_slot (by omega), up_slot (by omega), up_slot (by omega), up_slot (by omega)]
theorem sAdm_k {C : Nat → Nat → Int} {n s k : Nat} {z : Int} (h : k ≠ 1 ∧ k ≠ 2 ∧ k ≠ 3 ∧ k ≠ 5) : sAdm C n s z n k = C n k := by
  unfold sAdm
  rw [up_slot (by omega), up_slot (by omega), up_slot (by omega), sStand_k h]
theorem sAdm_1 {C : Nat → Nat → Int} {n s : Nat} {z : Int} : sAdm C n s z n 1 = 2 := by simp [sAdm, sStand, up]
theorem sAdm_2 {C : Nat → Nat → Int} {n s : Nat} {z : Int} : sAdm C n s z n 2 = (s : Int) := by simp [sAdm, up]
theorem sAdm_3 {C : Nat → Nat → Int} {n s : Nat} {z : Int} : sAdm C n s z n 3 = z := by simp [sAdm, up]
theorem sAdm_5 {C : Nat → Nat → Int} {n s : Nat} {z : Int} : sAdm C n s z n 5 = 0 := by simp [sAdm, up]
/-- a cabin comes into a zone -/
theorem relC_adm {Z : Nat → Nat → Option Nat} {R : Nat → Option Nat} {k s z : Nat} (h : RelC S M k) (hs : s < 2) (hz1 : 1 ≤ z) (hz2 : z ≤ 12) (hcl : M 79 k < 0) (hZ : Z s z = some (4 + k)) : RelC (sAdm S.1 (4 + k) s (z : Int), Z, R) (xEnt M k (s : Int) (z : Int)) k := by
  obtain ⟨a1, a2, a3, a4, a5, a6, a7, a8, a9, a10, a11, a12⟩ := h
  unfold RelC
  dsimp only
  rw [xEnt_75, xEnt_76, xEnt_77, xEnt_78, xEnt_at (a := 79) (by omega), xEnt_at (a := 80) (by omega), xEnt_at (a := 81) (by omega), xEnt_at (a := 82) (by omega), xEnt_at (a := 83) (by omega), sAdm_1, sAdm_2, sAdm_3, sAdm_5, sAdm_k (k := 0) (by omega), sAdm_k (k := 6) (by omega), sAdm_k (k := 7) (by omega), sAdm_k (k := 8) (by omega), sAdm_k (k := 9) (by omega), sAdm_k (k := 10) (by omega)]
  refine ⟨a1, rfl, by omega, fun _ => ⟨rfl, rfl, rfl, by omega, by omega, ?_⟩, fun q => by omega, fun q => by omega, fun q => by omega, a8, fun q => by omega, fun q => a10 q, a11, a12⟩
  rw [Int.toNat_natCast, Int.toNat_natCast]
  exact hZ
theorem rel_adm {Z0 : Nat → Nat → Option Nat} {k s z : Nat} (h : Rel t S M) (hk : k < 60) (hs : s < 2) (hz1 : 1 ≤ z) (hz2 : z ≤ 12) (h0 : ∀ a b, a < 2 → Z0 a b = S.2.1 a b ∨ (Z0 a b = none ∧ S.2.1 a b = some (4 + k))) (h1 : ∀ a b, a < 2 → Z0 a b ≠ some (4 + k)) (h2 : Z0 s z = none) (hcl : M 79 k < 0) (hp : M 75 k = 2 ∨ M 75 k = 3)
    (hw : Wf (sAdm S.1 (4 + k) s (z : Int), up Z0 s z (some (4 + k)), S.2.2)) : Rel t (sAdm S.1 (4 + k) s (z : Int), up Z0 s z (some (4 + k)), S.2.2) (xEnt M k (s : Int) (z : Int)) := by
  obtain ⟨w, hC, hZ, hS, hD, hW, hU, hK⟩ := h
  refine ⟨hw, fun c hc => ?_, ?_, ?_, ?_, ?_, ?_, ?_⟩
  · by_cases e : c = k
    · subst e
      exact relC_adm (hC c hc) hs hz1 hz2 hcl up_same
    · refine (hC c hc).frame (fun j => sAdm_cell (by omega)) (fun a _ _ => xEnt_ne e) (fun q => ?_)
      obtain ⟨-, -, -, a4, -⟩ := hC c hc
      obtain ⟨-, -, -, b1, b2, b3⟩ := a4 q
      have b4 : (M 77 c).toNat < 2 := by omega
      show up Z0 s z (some (4 + k)) (M 77 c).toNat (M 76 c).toNat = _
      rcases h0 (M 77 c).toNat (M 76 c).toNat b4 with g | ⟨g, g2⟩
      · unfold up
        rw [if_neg (fun z9 => by rw [z9.1, z9.2, h2] at g; rw [z9.1, z9.2, ← g] at b3; cases b3), g]
      · rw [b3] at g2
        have := Option.some.inj g2
        omega
  · intro a b n ha hn
    have hn : up Z0 s z (some (4 + k)) a b = some n := hn
    unfold up at hn
    split at hn
    · rename_i q
      cases hn
      exact ⟨k, hk, rfl, xEnt_75, by rw [xEnt_77, q.1], by rw [xEnt_76, q.2]⟩
    · rcases h0 a b ha with g | ⟨g, -⟩
      · rw [g] at hn
        obtain ⟨c, c1, c2, c3, c4, c5⟩ := hZ a b n ha hn
        have e : c ≠ k := fun e => h1 a b ha (by rw [g, hn, c2, e])
        exact ⟨c, c1, c2, by rw [xEnt_ne e]; exact c3, by rw [xEnt_ne e]; exact c4, by rw [xEnt_ne e]; exact c5⟩
      · rw [g] at hn; cases hn
  · refine hS.frame (sAdm_cell (by omega)) (xEnt_at (by omega)) (fun j => xEnt_at (by omega)) (fun _ => rfl) (fun c hc => ?_)
    by_cases e : c = k
    · subst e; rw [xEnt_75]; omega
    · rw [xEnt_ne e]
  · exact hD.frame (fun j => sAdm_cell (by omega)) (fun j _ => xEnt_at (by omega))
  · exact hW.frame (fun j => sAdm_cell (by omega)) (fun j => sAdm_cell (by omega)) (xEnt_at (by omega)) (fun j => xEnt_at (by omega))
  · intro c d hc hd g1 g2 g3 g4
    have e1 : c ≠ k := fun e => by rw [e, xEnt_75] at g1; omega
    have e2 : d ≠ k := fun e => by rw [e, xEnt_75] at g2; omega
    rw [xEnt_ne e1] at g1
    rw [xEnt_ne e2] at g2
    rw [xEnt_ne e1, xEnt_ne e2] at g3 g4
    exact hU c d hc hd g1 g2 g3 g4
  · intro c d hc hd g1 g2 g3
    rw [xEnt_at (by omega)] at g1
    have e1 : c ≠ k := fun e => by rw [e] at g1; omega
    have e2 : d ≠ k := fun e => by rw [e, xEnt_75] at g2; omega
    rw [xEnt_ne e2] at g2 ⊢
    rw [xEnt_ne e1, xEnt_ne e2] at g3
    exact hK c d hc hd g1 g2 g3
/-- the rope's end -/
theorem gsub1 {x : Int} (h : x = 0 ∨ x = 1) : gsub 1 x = ((1 - x.toNat : Nat) : Int) := by
  rw [gsub_eq (by omega) (by omega)]
  omega
theorem cl_neg {c : Nat} (h : RelC S M c) (hp : M 75 c ≠ 2) : M 79 c < 0 := by
  obtain ⟨-, -, -, -, -, -, -, -, a9, -⟩ := h
  by_cases q : 0 ≤ M 79 c
  · exact absurd (a9 q).2.1 hp
  · omega
theorem rel_go1 (h : Rel t S M) {k : Nat} (hk : k < 60) : Rel t (oGo1 S k) (xGo1 M k) := by
  have h' := h
  obtain ⟨w, hC, hZ, hS, hD, hW, hU, hK⟩ := h
  have hc := hC k hk
  have hc' := hc
  obtain ⟨a1, a2, a3, a4, a5, a6, a7, a8, a9, a10, a11, a12⟩ := hc
  by_cases p : M 75 k = 3
  · obtain ⟨b1, b2, b3, b4, b5⟩ := a5 p
    have hs : 1 - (M 77 k).toNat < 2 := by omega
    have hx : xIn M (gsub 1 (M 77 k)) 1 < 0 ↔ S.2.1 (1 - (M 77 k).toNat) 1 = none := by
      rw [gsub1 b3]
      cases hz : S.2.1 (1 - (M 77 k).toNat) 1 with
      | none =>
        have := xIn_none hC (z := 1) hz
        constructor
        · intro _; rfl
        · intro _; have e : ((1 : Nat) : Int) = 1 := rfl; rw [← e, this]; decide
      | some n =>
        obtain ⟨c, c1, c2, -⟩ := hZ _ 1 n hs hz
        subst c2
        have := (xIn_some hC hZ (z := 1) hs hz).1
        constructor
        · intro q; have e : ((1 : Nat) : Int) = 1 := rfl; rw [← e, this] at q; omega
        · intro q; cases q
    unfold oGo1 xGo1
    rw [b1]
    by_cases q : M 76 k = 5700 ∧ S.2.1 (1 - (M 77 k).toNat) 1 = none
    · rw [if_pos ⟨by omega, by omega, q.2⟩, if_pos ⟨p, q.1, hx.mpr q.2⟩, gsub1 b3]
      have ww := w.go1 hk
      unfold oGo1 at ww
      rw [b1, if_pos ⟨by omega, by omega, q.2⟩] at ww
      exact rel_adm (Z0 := S.2.1) (z := 1) h' hk hs (by omega) (by omega) (fun _ _ _ => Or.inl rfl) (fun a b ha g => by
        obtain ⟨c, c1, c2, c3, -⟩ := hZ a b _ ha g
        obtain rfl : c = k := by omega
        omega) q.2 (cl_neg hc' (by omega)) (Or.inr p) ww
    · rw [if_neg (fun z => q ⟨by omega, z.2.2⟩), if_neg (fun z => q ⟨z.2.1, hx.mp z.2.2⟩)]
      exact h'
  · unfold oGo1 xGo1
    rw [if_neg (fun z => p (by omega)), if_neg (fun z => p z.1)]
    exact h'
theorem rel_goFrom : ∀ (m k : Nat) {S : sT} {M : Nat → Nat → Int}, k + m ≤ 60 → Rel t S M → Rel t (oGoFrom S k m) (xGoFrom M k m)
  | 0, _, _, _, _, h => h
  | m + 1, k, _, _, hk, h => rel_goFrom m (k + 1) (by omega) (rel_go1 h (by omega))
theorem rel_go (h : Rel t S M) : Rel t (oGo S) (xGo M) := rel_goFrom 60 0 (by omega) h
end OPS
