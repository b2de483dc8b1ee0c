/-! the desk's state and its steps, as functions -/
section DESK
abbrev sT : Type := (Nat → Nat → Int) × (Nat → Nat → Option Nat) × (Nat → Option Nat)
abbrev hS (L : Nat) (S : sT) (M : Nat → Nat → Int) : gH := hq L S.1 M S.2.1 S.2.2
def oLock (C : Nat → Nat → Int) (k : Int) : Nat → Nat → Int := up C 1 4 (gor (C 1 4) (gshl 1 k))
def oStop (C : Nat → Nat → Int) (n : Nat) : Nat → Nat → Int := up (up (up C n 6 (-1)) n 7 (-1)) n 8 (-1)
def oAppend (S : sT) (n : Nat) : sT := (up (sStand S.1 n 1) 65 1 (S.1 65 1 + 1), S.2.1, up1 S.2.2 (S.1 65 1).toNat (some n))
def oLeave (S : sT) (s n : Nat) : sT := (up (up (up (sStand (oStop S.1 n) n 3) n 2 (s : Int)) n 4 0) n 9 (gadd (S.1 n 9) 1), up S.2.1 s 12 none, S.2.2)
def oFail (S : sT) (s n : Nat) (f : Int) : sT := if S.1 65 1 < 20 then oAppend (oLock (oStop (up S.1 n 10 f) n) 0, up S.2.1 s 12 none, S.2.2) n else (up (oLock (oLock (oStop (up S.1 n 10 f) n) 0) 1) n 5 0, S.2.1, S.2.2)
def oClamp (S : sT) (s n : Nat) : sT :=
  if 0 ≤ S.1 n 7 then (if sFault (S.1 n 7) (S.1 n 8) = 0 then oLeave (up S.1 n 6 (gadd (S.1 n 6) 1), S.2) s n else oFail (up S.1 n 6 (gadd (S.1 n 6) 1), S.2) s n (sFault (S.1 n 7) (S.1 n 8)))
  else if gadd (S.1 n 6) 1 < 40 then (up S.1 n 6 (gadd (S.1 n 6) 1), S.2) else oFail (up S.1 n 6 (gadd (S.1 n 6) 1), S.2) s n 3
/-- how far the next must be -/
def oSpc (S : sT) (s : Nat) : Int := if cntTo (fun j => decide (S.2.1 s (j + 1) ≠ none)) 12 < 6 then max (gdiv 12000 (max (S.1 1 5) 1)) 90 else 90
def oNear (C : Nat → Nat → Int) (s d : Int) : Bool := anyTo (fun j => decide (C (4 + j) 1 = 3 ∧ C (4 + j) 2 = s ∧ C (4 + j) 4 < d)) 60
/-- a zone's work at a tick -/
def oZone (S : sT) (s z : Nat) : sT := match S.2.1 s z with
  | none => S
  | some n =>
    if z < 12 then (if 15 ≤ gadd (S.1 n 5) 1 ∧ S.2.1 s (z + 1) = none then (sAdm (up S.1 n 5 (gadd (S.1 n 5) 1)) n s ((z + 1 : Nat) : Int), up (up S.2.1 s z none) s (z + 1) (some n), S.2.2) else (up S.1 n 5 (gadd (S.1 n 5) 1), S.2))
    else if 0 ≤ S.1 n 6 then oClamp (up S.1 n 5 (gadd (S.1 n 5) 1), S.2) s n
    else if 15 ≤ gadd (S.1 n 5) 1 ∧ S.1 1 4 = 0 ∧ oNear S.1 (s : Int) (oSpc S s) = false then (up (up S.1 n 5 (gadd (S.1 n 5) 1)) n 6 0, S.2)
    else (up S.1 n 5 (gadd (S.1 n 5) 1), S.2)
/-- zones z, z - 1 .. 1 -/
def oZones (S : sT) (s : Nat) : Nat → sT
  | 0 => S
  | z + 1 => oZones (oZone S s (z + 1)) s z
def oHeld (S : sT) : Bool := (decide (S.2.1 0 1 ≠ none) && anyTo (fun j => decide (S.1 (4 + j) 1 = 3 ∧ S.1 (4 + j) 2 = 1 ∧ 5640 ≤ S.1 (4 + j) 4)) 60) || (decide (S.2.1 1 1 ≠ none) && anyTo (fun j => decide (S.1 (4 + j) 1 = 3 ∧ S.1 (4 + j) 2 = 0 ∧ 5640 ≤ S.1 (4 + j) 4)) 60)
def oTarget (S : sT) : Int := if S.1 1 4 ≠ 0 then 0 else if oHeld S = true then 0 else if S.1 67 4 ≤ 180 then S.1 1 6 else min (S.1 1 6) 2
def oSpeed (v t : Int) : Int := if v < t then gadd v 1 else if t < v then gsub v 1 else v
def oEnd (S : sT) : sT := (up (up S.1 1 7 (oSpeed (S.1 1 7) (oTarget S))) 1 8 (gadd (S.1 1 8) 1), S.2)
def oWind (S : sT) : sT := if S.1 67 4 ≤ 250 then S else (oLock S.1 2, S.2)
def oTick (S : sT) : sT := oEnd (oZones (oZones (oWind S) 0 12) 1 12)
def oTicks (S : sT) : Nat → sT
  | 0 => S
  | k + 1 => oTicks (oTick S) k
/-- the cabin k, let go at the end of the rope -/
def oGo1 (S : sT) (k : Nat) : sT := if S.1 (4 + k) 1 = 3 ∧ 5700 ≤ S.1 (4 + k) 4 ∧ S.2.1 (1 - (S.1 (4 + k) 2).toNat) 1 = none then (sAdm S.1 (4 + k) (1 - (S.1 (4 + k) 2).toNat) 1, up S.2.1 (1 - (S.1 (4 + k) 2).toNat) 1 (some (4 + k)), S.2.2) else S
def oGoFrom (S : sT) (k : Nat) : Nat → sT
  | 0 => S
  | m + 1 => oGoFrom (oGo1 S k) (k + 1) m
def oGo (S : sT) : sT := oGoFrom S 0 60
def oFar (C : Nat → Nat → Int) : Int := maxTo (fun j => decide (C (4 + j) 1 = 3)) (fun j => C (4 + j) 4) 60
/-- well formed -/
def Wf (S : sT) : Prop := (∀ s, s < 2 → S.1 (70 + 2 * s) 0 = (s : Int)) ∧ (∀ a b n, S.2.1 a b = some n → 4 ≤ n ∧ n < 64) ∧ (∀ j n, S.2.2 j = some n → 4 ≤ n ∧ n < 64) ∧ (0 ≤ S.1 65 1 ∧ S.1 65 1 ≤ 20) ∧ ∀ c, c < 60 → S.1 (4 + c) 1 = 3 → S.1 (4 + c) 2 = 0 ∨ S.1 (4 + c) 2 = 1
theorem Wf.toC {S : sT} {C : Nat → Nat → Int} (h : Wf S) (h1 : ∀ s, s < 2 → C (70 + 2 * s) 0 = S.1 (70 + 2 * s) 0) (h2 : C 65 1 = S.1 65 1) (h3 : ∀ c, c < 60 → C (4 + c) 1 = 3 → C (4 + c) 2 = 0 ∨ C (4 + c) 2 = 1) : Wf (C, S.2) :=
  ⟨fun s hs => (h1 s hs).trans (h.1 s hs), h.2.1, h.2.2.1, by show 0 ≤ C 65 1 ∧ C 65 1 ≤ 20; rw [h2]; exact h.2.2.2.1, h3⟩
/-- a cabin's field that is neither place nor station -/
theorem Wf.cab {S : sT} (h : Wf S) {n k : Nat} {x : Int} (h1 : 4 ≤ n) (h2 : n < 64) (hk : k ≠ 1 ∧ k ≠ 2) : Wf (up S.1 n k x, S.2) := by
  refine h.toC (fun s hs => up_cell (by omega)) (up_cell (by omega)) (fun c hc hp => ?_)
  rw [up_slot (by omega)] at hp
  rw [up_slot (by omega)]
  exact h.2.2.2.2 c hc hp
/-- a field of the desk -/
theorem Wf.desk {S : sT} (h : Wf S) {k : Nat} {x : Int} : Wf (up S.1 1 k x, S.2) := by
  refine h.toC (fun s hs => up_cell (by omega)) (up_cell (by omega)) (fun c hc hp => ?_)
  rw [up_cell (by omega)] at hp
  rw [up_cell (by omega)]
  exact h.2.2.2.2 c hc hp
theorem Wf.lock {S : sT} (h : Wf S) {k : Int} : Wf (oLock S.1 k, S.2) := h.desk
theorem Wf.setZ {S : sT} (h : Wf S) {s z : Nat} {o : Option Nat} (ho : ∀ n, o = some n → 4 ≤ n ∧ n < 64) : Wf (S.1, up S.2.1 s z o, S.2.2) := by
  refine ⟨h.1, fun a b n hn => ?_, h.2.2⟩
  have hn : up S.2.1 s z o a b = some n := hn
  unfold up at hn
  split at hn
  · exact ho n hn
  · exact h.2.1 a b n hn
/-- a cabin stands at a place other than the rope -/
theorem Wf.stand {S : sT} (h : Wf S) {n : Nat} {p : Int} (h1 : 4 ≤ n) (h2 : n < 64) (hp : p ≠ 3) : Wf (sStand S.1 n p, S.2) := by
  unfold sStand
  refine h.toC (fun s hs => ?_) ?_ (fun c hc hq => ?_)
  · rw [up_cell (by omega), up_cell (by omega), up_cell (by omega), up_cell (by omega)]
  · rw [up_cell (by omega), up_cell (by omega), up_cell (by omega), up_cell (by omega)]
  · rw [up_slot (by omega), up_slot (by omega), up_slot (by omega)] at hq
    by_cases e : 4 + c = n
    · rw [e, up_same] at hq
      exact absurd hq hp
    · rw [up_cell e] at hq
      rw [up_cell e, up_cell e, up_cell e, up_cell e]
      exact h.2.2.2.2 c hc hq
theorem Wf.adm {S : sT} (h : Wf S) {n s : Nat} {z : Int} (h1 : 4 ≤ n) (h2 : n < 64) : Wf (sAdm S.1 n s z, S.2) := by
  unfold sAdm
  have w := h.stand (n := n) (p := 2) h1 h2 (by decide)
  refine w.toC (fun q hq => ?_) ?_ (fun c hc hq => ?_)
  · rw [up_cell (by omega), up_cell (by omega), up_cell (by omega)]
  · rw [up_cell (by omega), up_cell (by omega), up_cell (by omega)]
  · rw [up_slot (by omega), up_slot (by omega), up_slot (by omega)] at hq
    by_cases e : 4 + c = n
    · rw [e] at hq
      unfold sStand at hq
      rw [up_slot (by omega), up_slot (by omega), up_slot (by omega), up_same] at hq
      exact absurd hq (by decide)
    · rw [up_cell e, up_cell e, up_cell e]
      exact w.2.2.2.2 c hc hq
theorem Wf.stop {S : sT} (h : Wf S) {n : Nat} (h1 : 4 ≤ n) (h2 : n < 64) : Wf (oStop S.1 n, S.2) := ((h.cab (k := 6) h1 h2 (by omega)).cab (k := 7) h1 h2 (by omega)).cab (k := 8) h1 h2 (by omega)
theorem Wf.append {S : sT} (h : Wf S) {n : Nat} (h1 : 4 ≤ n) (h2 : n < 64) (h3 : S.1 65 1 < 20) : Wf (oAppend S n) := by
  have w := h.stand (n := n) (p := 1) h1 h2 (by decide)
  unfold oAppend
  refine ⟨fun s hs => ?_, w.2.1, fun j q hq => ?_, ?_, fun c hc hq => ?_⟩
  · show up (sStand S.1 n 1) 65 1 (S.1 65 1 + 1) (70 + 2 * s) 0 = _
    rw [up_cell (by omega)]
    exact w.1 s hs
  · have hq : up1 S.2.2 (S.1 65 1).toNat (some n) j = some q := hq
    unfold up1 at hq
    split at hq
    · cases hq; exact ⟨h1, h2⟩
    · exact h.2.2.1 j q hq
  · show 0 ≤ up (sStand S.1 n 1) 65 1 (S.1 65 1 + 1) 65 1 ∧ up (sStand S.1 n 1) 65 1 (S.1 65 1 + 1) 65 1 ≤ 20
    rw [up_same]
    have := h.2.2.2.1
    omega
  · have hq : up (sStand S.1 n 1) 65 1 (S.1 65 1 + 1) (4 + c) 1 = 3 := hq
    show up (sStand S.1 n 1) 65 1 (S.1 65 1 + 1) (4 + c) 2 = 0 ∨ up (sStand S.1 n 1) 65 1 (S.1 65 1 + 1) (4 + c) 2 = 1
    rw [up_cell (by omega)] at hq ⊢
    exact w.2.2.2.2 c hc hq
theorem Wf.leave {S : sT} (h : Wf S) {s n : Nat} (hs : s < 2) (h1 : 4 ≤ n) (h2 : n < 64) : Wf (oLeave S s n) := by
  have w0 := (h.stop h1 h2).setZ (s := s) (z := 12) (o := none) (fun _ z => nomatch z)
  unfold oLeave
  refine w0.toC (fun q hq => ?_) ?_ (fun c hc hq => ?_)
  · unfold sStand
    rw [up_cell (by omega), up_cell (by omega), up_cell (by omega), up_cell (by omega), up_cell (by omega), up_cell (by omega), up_cell (by omega)]
  · unfold sStand
    rw [up_cell (by omega), up_cell (by omega), up_cell (by omega), up_cell (by omega), up_cell (by omega), up_cell (by omega), up_cell (by omega)]
  · rw [up_slot (by omega), up_slot (by omega)]
    by_cases e : 4 + c = n
    · rw [e, up_same]
      omega
    · rw [up_cell e]
      unfold sStand at hq ⊢
      rw [up_cell e, up_cell e, up_cell e, up_cell e, up_cell e, up_cell e, up_cell e] at hq
      rw [up_cell e, up_cell e, up_cell e, up_cell e]
      exact w0.2.2.2.2 c hc hq
theorem Wf.fail {S : sT} (h : Wf S) {s n : Nat} {f : Int} (h1 : 4 ≤ n) (h2 : n < 64) : Wf (oFail S s n f) := by
  have w := ((h.cab (k := 10) (x := f) h1 h2 (by omega)).stop h1 h2).lock (k := 0)
  unfold oFail
  split
  · rename_i c
    refine (w.setZ (s := s) (z := 12) (o := none) (fun _ z => nomatch z)).append h1 h2 ?_
    show oLock (oStop (up S.1 n 10 f) n) 0 65 1 < 20
    unfold oLock oStop
    rw [up_cell (by omega), up_cell (by omega), up_cell (by omega), up_cell (by omega), up_cell (by omega)]
    exact c
  · exact (w.lock (k := 1)).cab (k := 5) h1 h2 (by omega)
theorem Wf.clamp {S : sT} (h : Wf S) {s n : Nat} (hs : s < 2) (h1 : 4 ≤ n) (h2 : n < 64) : Wf (oClamp S s n) := by
  have w := h.cab (n := n) (k := 6) (x := gadd (S.1 n 6) 1) h1 h2 (by omega)
  unfold oClamp
  split
  · split
    · exact w.leave hs h1 h2
    · exact w.fail h1 h2
  · split
    · exact w
    · exact w.fail h1 h2
theorem Wf.zone {S : sT} (h : Wf S) {s z : Nat} (hs : s < 2) : Wf (oZone S s z) := by
  unfold oZone
  split
  · exact h
  · rename_i n hn
    obtain ⟨h1, h2⟩ := h.2.1 s z n hn
    have w := h.cab (n := n) (k := 5) (x := gadd (S.1 n 5) 1) h1 h2 (by omega)
    split
    · split
      · exact (((w.adm h1 h2).setZ (s := s) (z := z) (o := none) (fun _ q => nomatch q))).setZ (fun q hq => by cases hq; exact ⟨h1, h2⟩)
      · exact w
    · split
      · exact w.clamp hs h1 h2
      · split
        · exact w.cab h1 h2 (by omega)
        · exact w
theorem Wf.zones {s : Nat} (hs : s < 2) : ∀ (z : Nat) {S : sT}, Wf S → Wf (oZones S s z)
  | 0, _, h => h
  | z + 1, _, h => Wf.zones hs z (h.zone hs)
theorem Wf.wind {S : sT} (h : Wf S) : Wf (oWind S) := by
  unfold oWind
  split
  · exact h
  · exact h.lock
theorem Wf.tick {S : sT} (h : Wf S) : Wf (oTick S) := by
  have w := Wf.zones (s := 1) (by omega) 12 (Wf.zones (s := 0) (by omega) 12 h.wind)
  unfold oTick oEnd
  exact w.desk.desk
theorem Wf.go1 {S : sT} (h : Wf S) {k : Nat} (hk : k < 60) : Wf (oGo1 S k) := by
  unfold oGo1
  split
  · exact (h.adm (by omega) (by omega)).setZ (fun q hq => by cases hq; omega)
  · exact h
theorem Wf.goFrom : ∀ (m k : Nat) {S : sT}, k + m ≤ 60 → Wf S → Wf (oGoFrom S k m)
  | 0, _, _, _, h => h
  | m + 1, k, _, hk, h => Wf.goFrom m (k + 1) (by omega) (h.go1 (by omega))
theorem Wf.go {S : sT} (h : Wf S) : Wf (oGo S) := Wf.goFrom 60 0 (by omega) h
theorem Wf.adv {S : sT} (h : Wf S) {step : Int} {k : Nat} : Wf (sAdv S.1 step k, S.2) := by
  refine h.toC (fun s hs => ?_) ?_ (fun c hc hp => ?_)
  · unfold sAdv; rw [if_neg (by omega)]
  · unfold sAdv; rw [if_neg (by omega)]
  · unfold sAdv at hp ⊢
    rw [if_neg (by omega)] at hp ⊢
    exact h.2.2.2.2 c hc hp
end DESK
