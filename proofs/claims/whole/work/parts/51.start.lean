/-! the law from its start -/
section START
def i0 (xs : Nat → Int) : Nat → Nat → Int := fun a b => if a = 0 then xs b else 0
def r0 : Nat → Nat → Option Nat := fun _ _ => none
theorem z0 {xs : Nat → Int} : Zr 1 (i0 xs) r0 := fun a b h => ⟨by unfold i0; rw [if_neg (by omega)], rfl⟩
def I9 (xs : Nat → Int) : Nat → Nat → Int := modI0 (dskI (i0 xs)) 60
def R9 : Nat → Nat → Option Nat := modR (dskR r0)
variable {xs : Nat → Int}
theorem zr_dsk {i : Nat → Nat → Int} {r : Nat → Nat → Option Nat} (h : Zr 4 i r) : Zr 74 (dskI i) (dskR r) := fun a b ha => by
  have f := (h.fleet (k := 60)) a b (by omega)
  unfold dskI dskR stI stR wbI wbR sidI sidR
  constructor
  · rw [up_cell (by omega), up_cell (by omega), up_cell (by omega), up_cell (by omega), up_cell (by omega), up_cell (by omega), up_cell (by omega), up_cell (by omega), up_cell (by omega), up_cell (by omega), up_cell (by omega), up_cell (by omega)]
    exact f.1
  · rw [up_cell (by omega), up_cell (by omega), up_cell (by omega), up_cell (by omega), up_cell (by omega), up_cell (by omega), up_cell (by omega), up_cell (by omega), up_cell (by omega), up_cell (by omega), up_cell (by omega)]
    exact f.2
theorem zr_mod {i : Nat → Nat → Int} {r : Nat → Nat → Option Nat} (h : Zr 86 i r) : Zr 86 (modI0 i 60) (modR r) := fun a b ha => by
  have f := h a b ha
  unfold modI0 modR
  constructor
  · rw [if_neg (by omega), up_cell (by omega)]
    exact f.1
  · rw [up_cell (by omega), up_cell (by omega), up_cell (by omega), up_cell (by omega), up_cell (by omega), up_cell (by omega), up_cell (by omega), up_cell (by omega), up_cell (by omega), up_cell (by omega), up_cell (by omega)]
    exact f.2
theorem d_cab {c b : Nat} (hc : c < 60) : I9 xs (4 + c) b = cab0 c b := by
  unfold I9 modI0
  rw [if_neg (by omega), up_cell (by omega)]
  unfold dskI stI wbI sidI
  rw [up_cell (by omega), up_cell (by omega), up_cell (by omega), up_cell (by omega), up_cell (by omega), up_cell (by omega), up_cell (by omega), up_cell (by omega), up_cell (by omega), up_cell (by omega), up_cell (by omega), up_cell (by omega)]
  unfold fleetI
  rw [if_pos (by omega), show 4 + c - 4 = c by omega]
theorem d_79 {b : Nat} (h : b < 60) : I9 xs 79 b = -1 := by
  unfold I9 modI0
  rw [if_pos ⟨rfl, h⟩]
/-- all others -/
theorem d_0 {a b : Nat} (h1 : 64 ≤ a ∨ a = 1) (h2 : a ≠ 79) (h3 : ¬ (a = 74 ∧ b = 15)) (h4 : ¬ (a = 1 ∧ b = 5)) (h5 : ¬ (a = 72 ∧ b = 0)) : I9 xs a b = 0 := by
  unfold I9 modI0 dskI stI wbI sidI up fleetI i0
  rw [if_neg (by omega), if_neg (by omega), if_neg (by omega)]
  rw [if_neg (c := 4 ≤ a ∧ a < 4 + 60) (by omega), if_neg (c := a = 0) (by omega)]
  rw [if_neg (c := a = 1 ∧ b = 5) h4]
  (repeat' split) <;> rfl
theorem d_plan : I9 xs 1 5 = 60 ∧ I9 xs 74 15 = 60 ∧ I9 xs 72 0 = 1 ∧ I9 xs 70 0 = 0 := by
  refine ⟨?_, ?_, ?_, ?_⟩ <;> simp [I9, modI0, dskI, stI, wbI, sidI, up]
abbrev S9 (xs : Nat → Int) : sT := (I9 xs, (fun _ _ => none), (fun _ => none))
theorem rel_9 : Rel 0 (S9 xs) (I9 xs) := by
  obtain ⟨p1, p2, p3, p4⟩ := d_plan (xs := xs)
  have z : ∀ a b, (64 ≤ a ∨ a = 1) → a ≠ 79 → ¬ (a = 74 ∧ b = 15) → ¬ (a = 1 ∧ b = 5) → ¬ (a = 72 ∧ b = 0) → I9 xs a b = 0 := fun a b h1 h2 h3 h4 h5 => d_0 h1 h2 h3 h4 h5
  have z75 : ∀ c, I9 xs 75 c = 0 := fun c => z 75 c (by omega) (by omega) (by omega) (by omega) (by omega)
  refine ⟨⟨fun s hs => ?_, fun a b n h => (nomatch h), fun j n h => (nomatch h), ?_, fun c hc h => ?_⟩, fun c hc => ?_, fun s z9 n hs h => (nomatch h), ?_, ?_, ?_, ?_, ?_⟩
  · show I9 xs (70 + 2 * s) 0 = _
    rcases (by omega : s = 0 ∨ s = 1) with rfl | rfl
    · exact p4
    · exact p3
  · show 0 ≤ I9 xs 65 1 ∧ I9 xs 65 1 ≤ 20
    rw [z 65 1 (by omega) (by omega) (by omega) (by omega) (by omega)]
    omega
  · have h : I9 xs (4 + c) 1 = 3 := h
    rw [d_cab hc] at h
    cases h
  · unfold RelC
    dsimp only
    have q : ∀ b, I9 xs (4 + c) b = cab0 c b := fun b => d_cab hc
    rw [q 0, q 1, q 2, q 3, q 4, q 5, q 6, q 7, q 8, q 9, q 10, z75 c, d_79 hc, z 82 c (by omega) (by omega) (by omega) (by omega) (by omega), z 83 c (by omega) (by omega) (by omega) (by omega) (by omega)]
    exact ⟨rfl, rfl, by omega, fun h => by omega, fun h => by omega, fun _ => rfl, fun _ => ⟨rfl, rfl⟩, rfl, fun h => by omega, fun _ => ⟨rfl, rfl, rfl⟩, rfl, rfl⟩
  · unfold RelS
    dsimp only
    rw [z 65 1 (by omega) (by omega) (by omega) (by omega) (by omega), z 74 10 (by omega) (by omega) (by omega) (by omega) (by omega)]
    exact ⟨rfl, by omega, fun k hk => by omega, fun j k hj => by omega, fun c hc h => by rw [z75] at h; omega⟩
  · unfold RelD
    dsimp only
    rw [p1, p2, z 1 4 (by omega) (by omega) (by omega) (by omega) (by omega), z 1 6 (by omega) (by omega) (by omega) (by omega) (by omega), z 1 7 (by omega) (by omega) (by omega) (by omega) (by omega), z 1 8 (by omega) (by omega) (by omega) (by omega) (by omega), z 1 9 (by omega) (by omega) (by omega) (by omega) (by omega), z 74 14 (by omega) (by omega) (by omega) (by omega) (by omega), z 74 16 (by omega) (by omega) (by omega) (by omega) (by omega), z 74 17 (by omega) (by omega) (by omega) (by omega) (by omega), z 74 18 (by omega) (by omega) (by omega) (by omega) (by omega), z 74 19 (by omega) (by omega) (by omega) (by omega) (by omega)]
    omega
  · have e12 : I9 xs 74 12 = 0 := z 74 12 (by omega) (by omega) (by omega) (by omega) (by omega)
    refine ⟨0, e12, by omega, ?_, fun _ => ?_, fun h => by omega, fun j hj => by omega, ?_⟩
    · exact z 67 2 (by omega) (by omega) (by omega) (by omega) (by omega)
    · exact z 67 3 (by omega) (by omega) (by omega) (by omega) (by omega)
    · have e : I9 xs 67 4 = 0 := z 67 4 (by omega) (by omega) (by omega) (by omega) (by omega)
      have k : xKept (I9 xs) = 0 := by unfold xKept; rw [e12]; rfl
      unfold xMid
      rw [k]
      exact e
  · intro c d _ _ h
    rw [z75] at h
    omega
  · intro c d _ _ _ h
    rw [z75] at h
    omega
theorem r_9 : R9 = rr (fun _ _ => none) (fun _ => none) := by
  funext a b
  unfold rr
  have key : R9 a b = rs a b := by
    unfold R9 modR dskR stR wbR sidR
    by_cases ne3 : a = 3
    · subst ne3
      simp only [up]
      rw [if_neg (by omega), if_neg (by omega), if_neg (by omega), if_neg (by omega), if_neg (by omega), if_neg (by omega), if_neg (by omega), if_neg (by omega), if_neg (by omega), if_neg (by omega), if_neg (by omega), if_neg (by omega), if_neg (by omega), if_neg (by omega), if_neg (by omega), if_neg (by omega), if_neg (by omega), if_neg (by omega), if_neg (by omega), if_neg (by omega), if_neg (by omega), if_neg (by omega)]
      unfold fleetR
      by_cases q : b < 60
      · rw [if_pos ⟨rfl, q⟩]; simp [rs, q]
      · rw [if_neg (fun z => q z.2)]; simp [rs, q, up, r0]
    · unfold rs
      rw [if_neg ne3]
      split
      · simp [up, fleetR, r0]
      · simp [up, fleetR, r0]
      · simp [up, fleetR, r0]
      · simp [up, fleetR, r0]
      · simp [up, fleetR, r0]
      · simp [up, fleetR, r0]
      · simp [up, fleetR, r0]
      · simp [up, fleetR, r0]
      · simp [up, fleetR, r0]
      · simp [up, fleetR, r0]
      · simp [up, fleetR, r0]
      · simp [up, fleetR, r0]
      · simp [up, fleetR, r0]
      · simp [up, fleetR, r0]
      · simp [up, fleetR, r0]
      · simp [up, fleetR, r0]
      · simp [up, fleetR, r0]
      · simp [up, fleetR, r0]
      · simp [up, fleetR, r0]
      · simp [up, fleetR, r0]
      · simp [up, fleetR, r0]
      · simp [up, fleetR, r0]
      · simp [up, fleetR, r0]
      · rename_i h0 h1 h2 h3 h4 h5 h6 h7 h8 h9 h10 h11 h12 h13 h14 h15 h16 h17 h18 h19 h20 h21 h22
        rw [show up _ 74 13 (some 85) a b = _ from if_neg (fun q => h22 q.1 q.2), show up _ 74 11 (some 84) a b = _ from if_neg (fun q => h21 q.1 q.2), show up _ 74 9 (some 83) a b = _ from if_neg (fun q => h20 q.1 q.2), show up _ 74 8 (some 82) a b = _ from if_neg (fun q => h19 q.1 q.2), show up _ 74 7 (some 81) a b = _ from if_neg (fun q => h18 q.1 q.2), show up _ 74 6 (some 80) a b = _ from if_neg (fun q => h17 q.1 q.2), show up _ 74 5 (some 79) a b = _ from if_neg (fun q => h16 q.1 q.2), show up _ 74 4 (some 78) a b = _ from if_neg (fun q => h15 q.1 q.2), show up _ 74 3 (some 77) a b = _ from if_neg (fun q => h14 q.1 q.2), show up _ 74 2 (some 76) a b = _ from if_neg (fun q => h13 q.1 q.2), show up _ 74 1 (some 75) a b = _ from if_neg (fun q => h12 q.1 q.2), show up _ 64 1 (some 72) a b = _ from if_neg (fun q => h6 q.1 q.2), show up _ 72 1 (some 73) a b = _ from if_neg (fun q => h11 q.1 q.2), show up _ 64 0 (some 70) a b = _ from if_neg (fun q => h5 q.1 q.2), show up _ 70 1 (some 71) a b = _ from if_neg (fun q => h10 q.1 q.2), show up _ 1 3 (some 67) a b = _ from if_neg (fun q => h3 q.1 q.2), show up _ 67 1 (some 69) a b = _ from if_neg (fun q => h9 q.1 q.2), show up _ 67 0 (some 68) a b = _ from if_neg (fun q => h8 q.1 q.2), show up _ 1 2 (some 65) a b = _ from if_neg (fun q => h2 q.1 q.2), show up _ 65 0 (some 66) a b = _ from if_neg (fun q => h7 q.1 q.2), show up _ 1 1 (some 64) a b = _ from if_neg (fun q => h1 q.1 q.2), show up _ 1 0 (some 2) a b = _ from if_neg (fun q => h0 q.1 q.2)]
        unfold fleetR
        rw [if_neg (fun q => ne3 q.1)]
        show up r0 2 0 (some 3) a b = none
        unfold up
        rw [if_neg (fun q => h4 q.1 q.2)]
        rfl
  rw [key]
  split
  · rename_i e; rw [e]; simp [rs]
  · split
    · rename_i e; rw [e]; simp [rs]
    · split
      · rename_i e; rw [e]; simp [rs]
      · rfl
theorem h_9 {L : Nat} : gstale (hn L (I9 xs) R9 87) = hS L (S9 xs) (I9 xs) := by
  show (T0 L, I9 xs, R9, 87, false) = (T0 L, ii (I9 xs) (I9 xs), rr (fun _ _ => none) (fun _ => none), 87, false)
  rw [r_9, show ii (I9 xs) (I9 xs) = I9 xs from by funext a b; unfold ii; split <;> rfl]
set_option maxHeartbeats 4000000 in
theorem la_start (l : Launch) {L : Nat} (hL : L ≤ 2048) : G (gπ l) mL_law 0 [gR (some 0), gU, gU, gU, gU, gU, gU] [] (hn L (i0 xs) r0 1) 598 4458 (fun r _ => r = some (some (gI 1))) := by
  have z74 : Zr 74 (dskI (i0 xs)) (dskR r0) := zr_dsk (z0.mono (by omega))
  have z86 : Zr 86 (I9 xs) R9 := zr_mod (z74.mono (by omega))
  refine n_new (π := gπ l) (mc := 597) (ms := 4448) dL_law_0 ⟨rfl, lX5⟩ gTX5 nwL_8 tyX5_k rfl (by omega) z0 ?_
  refine g_dupR dL_law_3 ?_
  refine n_ctor (mc := 525) (ms := 3658) (as := []) dL_law_4 (sL_law_4 l) ⟨rfl, rfl⟩ ⟨by decide, by decide⟩ ⟨rfl, iX5_init⟩ (Nat.le_of_ble_eq_true rfl) (cX5_init l (z0.mono (m := 2) (by omega))) ?_
  refine e_astore_n (loc' := [gR (some 0), gR (some 1), gU, gU, gU, gU, gU]) dL_law_7 rfl (by decide) rfl ?_
  refine n_new (π := gπ l) (mc := 524) (ms := 3638) dL_law_8 ⟨rfl, lX6⟩ gTX6 nwL_54 tyX6_k rfl (by omega) z74 ?_
  refine g_dupR dL_law_11 ?_
  refine n_ctor (mc := 513) (ms := 3073) (as := []) dL_law_12 (sL_law_12 l) ⟨rfl, rfl⟩ ⟨by decide, by decide⟩ ⟨rfl, iX6_init⟩ (Nat.le_of_ble_eq_true rfl) (cX6_init l (z74.mono (m := 75) (by omega))) ?_
  refine e_astore_n (loc' := [gR (some 0), gR (some 1), gR (some 74), gU, gU, gU, gU]) dL_law_15 rfl (by decide) rfl ?_
  refine g_iconst (x := 1) dL_law_16 (by decide) ?_
  refine n_newL (mc := 512) (ms := 3072) (N := 1) dL_law_17 nwL rfl (by omega) rfl (by omega) z86 ?_
  refine e_astore_n (loc' := [gR (some 0), gR (some 1), gR (some 74), gR (some 86), gU, gU, gU]) dL_law_19 rfl (by decide) rfl ?_
  refine g_iconst (x := 0) dL_law_20 (by decide) ?_
  refine e_istore (loc' := [gR (some 0), gR (some 1), gR (some 74), gR (some 86), gI 0, gU, gU]) dL_law_21 (by decide) rfl ?_
  refine g_stale ?_
  show G (gπ l) mL_law 23 [gR (some 0), gR (some 1), gR (some 74), gR (some 86), gI 0, gU, gU] [] (gstale (hn L (I9 xs) R9 87)) 512 (6 * 512) _
  rw [h_9]
  exact la_loop l (by omega) 512 0 0 (S9 xs) (I9 xs) gU gU rel_9 (by omega) (by omega) (by omega)
end START
