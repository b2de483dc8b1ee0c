/-! what the steps leave: the script, the harness's answer -/
section KEEP
def K0 (C D : Nat → Nat → Int) : Prop := ∀ j, D 0 j = C 0 j
theorem K0.rfl {C : Nat → Nat → Int} : K0 C C := fun _ => Eq.refl _
theorem K0.tr {C D E : Nat → Nat → Int} (h1 : K0 C D) (h2 : K0 D E) : K0 C E := fun j => (h2 j).trans (h1 j)
theorem K0.put {C D : Nat → Nat → Int} (h : K0 C D) {n k : Nat} {x : Int} (hn : n ≠ 0) : K0 C (up D n k x) := fun j => by rw [up_cell (by omega)]; exact h j
theorem K0.stand {C D : Nat → Nat → Int} (h : K0 C D) {n : Nat} {x : Int} (hn : n ≠ 0) : K0 C (sStand D n x) := fun j => by rw [sStand_cell (by omega)]; exact h j
theorem K0.adm {C D : Nat → Nat → Int} (h : K0 C D) {n s : Nat} {x : Int} (hn : n ≠ 0) : K0 C (sAdm D n s x) := fun j => by rw [sAdm_cell (by omega)]; exact h j
theorem K0.lock {C D : Nat → Nat → Int} (h : K0 C D) {k : Int} : K0 C (oLock D k) := h.put (by omega)
theorem K0.stop {C D : Nat → Nat → Int} (h : K0 C D) {n : Nat} (hn : n ≠ 0) : K0 C (oStop D n) := ((h.put hn).put hn).put hn
theorem K0.append {C : Nat → Nat → Int} {S : sT} (h : K0 C S.1) {n : Nat} (hn : n ≠ 0) : K0 C (oAppend S n).1 := (h.stand hn).put (by omega)
theorem K0.leave {C : Nat → Nat → Int} {S : sT} (h : K0 C S.1) {s n : Nat} (hn : n ≠ 0) : K0 C (oLeave S s n).1 := ((((h.stop hn).stand hn).put hn).put hn).put hn
theorem K0.fail {C : Nat → Nat → Int} {S : sT} (h : K0 C S.1) {s n : Nat} {f : Int} (hn : n ≠ 0) : K0 C (oFail S s n f).1 := by
  unfold oFail
  split
  · exact K0.append (S := (_, _, _)) ((h.put hn).stop hn).lock hn
  · exact (((h.put hn).stop hn).lock.lock).put hn
theorem K0.clamp {C : Nat → Nat → Int} {S : sT} (h : K0 C S.1) {s n : Nat} (hn : n ≠ 0) : K0 C (oClamp S s n).1 := by
  have w : K0 C (up S.1 n 6 (gadd (S.1 n 6) 1)) := h.put hn
  unfold oClamp
  split
  · split
    · exact K0.leave (S := (_, _)) w hn
    · exact K0.fail (S := (_, _)) w hn
  · split
    · exact w
    · exact K0.fail (S := (_, _)) w hn
theorem K0.zone {C : Nat → Nat → Int} {S : sT} (h : K0 C S.1) (hw : Wf S) {s z : Nat} : K0 C (oZone S s z).1 := by
  unfold oZone
  split
  · exact h
  · rename_i n hn
    have h1 : n ≠ 0 := by have := hw.2.1 s z n hn; omega
    have w : K0 C (up S.1 n 5 (gadd (S.1 n 5) 1)) := h.put h1
    split
    · split
      · exact w.adm h1
      · exact w
    · split
      · exact K0.clamp (S := (_, _)) w h1
      · split
        · exact w.put h1
        · exact w
theorem K0.zones {C : Nat → Nat → Int} {s : Nat} (hs : s < 2) : ∀ (z : Nat) {S : sT}, K0 C S.1 → Wf S → K0 C (oZones S s z).1
  | 0, _, h, _ => h
  | z + 1, _, h, hw => K0.zones hs z (h.zone hw) (hw.zone hs)
theorem K0.tick {C : Nat → Nat → Int} {S : sT} (h : K0 C S.1) (hw : Wf S) : K0 C (oTick S).1 := by
  have w0 : K0 C (oWind S).1 := by
    unfold oWind
    split
    · exact h
    · exact h.lock
  have w := K0.zones (s := 1) (by omega) 12 (K0.zones (s := 0) (by omega) 12 w0 hw.wind) (Wf.zones (s := 0) (by omega) 12 hw.wind)
  unfold oTick oEnd
  exact (w.put (by omega)).put (by omega)
theorem K0.ticks {C : Nat → Nat → Int} : ∀ (k : Nat) {S : sT}, K0 C S.1 → Wf S → K0 C (oTicks S k).1
  | 0, _, h, _ => h
  | k + 1, _, h, hw => K0.ticks k (h.tick hw) hw.tick
theorem K0.go1 {C : Nat → Nat → Int} {S : sT} (h : K0 C S.1) {k : Nat} : K0 C (oGo1 S k).1 := by
  unfold oGo1
  split
  · exact h.adm (by omega)
  · exact h
theorem K0.goFrom {C : Nat → Nat → Int} : ∀ (m k : Nat) {S : sT}, K0 C S.1 → K0 C (oGoFrom S k m).1
  | 0, _, _, h => h
  | m + 1, k, _, h => K0.goFrom m (k + 1) h.go1
theorem K0.go {C : Nat → Nat → Int} {S : sT} (h : K0 C S.1) : K0 C (oGo S).1 := K0.goFrom 60 0 h
theorem K0.adv {C D : Nat → Nat → Int} (h : K0 C D) {x : Int} : K0 C (sAdv D x 60) := fun j => by rw [sAdv_cell (by omega) (by omega)]; exact h j
theorem K0.move {C : Nat → Nat → Int} {n : Int} : ∀ (f : Nat) {S : sT} (v : Int), K0 C S.1 → K0 C (oMove n f S v).1.1
  | 0, _, _, h => h
  | f + 1, S, v, h => by
    unfold oMove
    split
    · exact h
    · split
      · exact h.lock
      · exact K0.move f _ (K0.go (S := (_, _)) h.adv)
theorem K0.pulse {C : Nat → Nat → Int} {S : sT} (h : K0 C S.1) {n : Int} : K0 C (oPulse S n).1.1 := by
  unfold oPulse
  exact (K0.move n.toNat 0 h.go).put (by omega)
/-- cell 86 -/
def K8 (M N : Nat → Nat → Int) : Prop := ∀ j, N 86 j = M 86 j
theorem K8.rfl {M : Nat → Nat → Int} : K8 M M := fun _ => Eq.refl _
theorem K8.tr {M N O : Nat → Nat → Int} (h1 : K8 M N) (h2 : K8 N O) : K8 M O := fun j => (h2 j).trans (h1 j)
theorem K8.put {M N : Nat → Nat → Int} (h : K8 M N) {n k : Nat} {x : Int} (hn : n ≠ 86) : K8 M (up N n k x) := fun j => by rw [up_cell (by omega)]; exact h j
theorem K8.ent {M N : Nat → Nat → Int} (h : K8 M N) {c : Nat} {s z : Int} : K8 M (xEnt N c s z) := fun j => by rw [xEnt_at (by omega)]; exact h j
theorem K8.go1 {M N : Nat → Nat → Int} (h : K8 M N) {k : Nat} : K8 M (xGo1 N k) := by
  unfold xGo1
  split
  · exact h.ent
  · exact h
theorem K8.goFrom {M : Nat → Nat → Int} : ∀ (m k : Nat) {N : Nat → Nat → Int}, K8 M N → K8 M (xGoFrom N k m)
  | 0, _, _, h => h
  | m + 1, k, _, h => K8.goFrom m (k + 1) h.go1
theorem K8.go {M N : Nat → Nat → Int} (h : K8 M N) : K8 M (xGo N) := K8.goFrom 60 0 h
theorem K8.adv {M N : Nat → Nat → Int} (h : K8 M N) {k : Nat} : K8 M (xAdv N k) := fun j => by rw [xAdv_cell (by omega)]; exact h j
theorem K8.run {M : Nat → Nat → Int} {n : Int} : ∀ (f : Nat) {N : Nat → Nat → Int} (v : Int), K8 M N → K8 M (xRun n f N v).1
  | 0, _, _, h => h
  | f + 1, N, v, h => by
    unfold xRun
    split
    · exact h
    · split
      · exact h
      · exact K8.run f _ h.adv.go
theorem K8.pulse {M : Nat → Nat → Int} {n : Int} : K8 M (xPulse M n).1 := by
  have w : K8 M (xRun n n.toNat (xGo (up M 74 0 0)) 0).1 := K8.run n.toNat 0 (K8.go (K8.rfl.put (by omega)))
  unfold xPulse
  dsimp only
  split
  · exact (w.put (by omega)).put (by omega)
  · exact w.put (by omega)
theorem K8.side {M N : Nat → Nat → Int} (h : K8 M N) {c : Nat} : K8 M (xSide N c) := ((h.put (by omega)).put (by omega)).put (by omega)
theorem K8.fail {M N : Nat → Nat → Int} (h : K8 M N) {c : Nat} {f : Int} : K8 M (xFail N c f) := by
  unfold xFail
  split
  · exact ((h.put (by omega)).put (by omega)).side
  · exact ((h.put (by omega)).put (by omega)).put (by omega)
theorem K8.ok {M N : Nat → Nat → Int} (h : K8 M N) {c : Nat} : K8 M (xOk N c) := ((h.put (by omega)).put (by omega)).put (by omega)
theorem K8.done {M N : Nat → Nat → Int} (h : K8 M N) {c : Nat} : K8 M (xDone N c) := ((h.put (by omega)).put (by omega)).put (by omega)
theorem K8.judge {M N : Nat → Nat → Int} (h : K8 M N) {c : Nat} {g w : Int} : K8 M (xJudge N c g w) := by
  unfold xJudge
  (repeat' split) <;> first | exact h.done.fail | exact h.done.ok
theorem K8.clamp {M N : Nat → Nat → Int} (h : K8 M N) {c : Nat} : K8 M (xClamp N c) := by
  unfold xClamp
  (repeat' split) <;> first | exact h.put (by omega) | exact h.done.fail | exact h.judge
theorem K8.age {M N : Nat → Nat → Int} (h : K8 M N) {c : Nat} : K8 M (xAge N c) := h.put (by omega)
theorem K8.work {M N : Nat → Nat → Int} (h : K8 M N) {s : Int} {z : Nat} : K8 M (xWork N s z) := by
  unfold xWork
  (repeat' split) <;> first | exact h | exact h.age.ent | exact h.age | exact h.age.clamp | exact ((h.age.put (by omega)).put (by omega)).put (by omega)
theorem K8.zones {M : Nat → Nat → Int} {s : Int} : ∀ (z : Nat) {N : Nat → Nat → Int}, K8 M N → K8 M (xZones N s z)
  | 0, _, h => h
  | z + 1, _, h => K8.zones z h.work
theorem K8.tick {M N : Nat → Nat → Int} (h : K8 M N) : K8 M (xTick N) := by
  have w0 : K8 M (xWind N) := by
    unfold xWind
    split
    · exact h
    · exact h.put (by omega)
  have w := K8.zones (s := 1) 12 (K8.zones (s := 0) 12 w0)
  unfold xTick xEnd
  exact (w.put (by omega)).put (by omega)
theorem K8.ticks {M : Nat → Nat → Int} : ∀ (k : Nat) {N : Nat → Nat → Int}, K8 M N → K8 M (xTicks N k)
  | 0, _, h => h
  | k + 1, _, h => K8.ticks k h.tick
/-- the reference's own error stays -/
def Ke (M : Nat → Nat → Int) : Prop := M 74 0 = 0
theorem Ke.put {M : Nat → Nat → Int} (h : Ke M) {n k : Nat} {x : Int} (hn : n ≠ 74 ∨ k ≠ 0) : Ke (up M n k x) := by
  unfold Ke up
  rw [if_neg (by omega)]
  exact h
theorem Ke.ent {M : Nat → Nat → Int} (h : Ke M) {c : Nat} {s z : Int} : Ke (xEnt M c s z) := by unfold Ke; rw [xEnt_at (by omega)]; exact h
theorem Ke.go1 {M : Nat → Nat → Int} (h : Ke M) {k : Nat} : Ke (xGo1 M k) := by
  unfold xGo1
  split
  · exact h.ent
  · exact h
theorem Ke.goFrom : ∀ (m k : Nat) {M : Nat → Nat → Int}, Ke M → Ke (xGoFrom M k m)
  | 0, _, _, h => h
  | m + 1, k, _, h => Ke.goFrom m (k + 1) h.go1
theorem Ke.go {M : Nat → Nat → Int} (h : Ke M) : Ke (xGo M) := Ke.goFrom 60 0 h
theorem Ke.adv {M : Nat → Nat → Int} (h : Ke M) {k : Nat} : Ke (xAdv M k) := by unfold Ke; rw [xAdv_cell (by omega)]; exact h
theorem Ke.run {n : Int} : ∀ (f : Nat) {M : Nat → Nat → Int} (v : Int), Ke M → Ke (xRun n f M v).1
  | 0, _, _, h => h
  | f + 1, N, v, h => by
    unfold xRun
    split
    · exact h
    · split
      · exact h
      · exact Ke.run f _ h.adv.go
theorem Ke.pulse {M : Nat → Nat → Int} {n : Int} : Ke (xPulse M n).1 := by
  have w : Ke (xRun n n.toNat (xGo (up M 74 0 0)) 0).1 := Ke.run n.toNat 0 (Ke.go (up_same))
  unfold xPulse
  dsimp only
  split
  · exact (w.put (by omega)).put (by omega)
  · exact w.put (by omega)
theorem Ke.side {M : Nat → Nat → Int} (h : Ke M) {c : Nat} : Ke (xSide M c) := ((h.put (by omega)).put (by omega)).put (by omega)
theorem Ke.fail {M : Nat → Nat → Int} (h : Ke M) {c : Nat} {f : Int} : Ke (xFail M c f) := by
  unfold xFail
  split
  · exact ((h.put (by omega)).put (by omega)).side
  · exact ((h.put (by omega)).put (by omega)).put (by omega)
theorem Ke.ok {M : Nat → Nat → Int} (h : Ke M) {c : Nat} : Ke (xOk M c) := ((h.put (by omega)).put (by omega)).put (by omega)
theorem Ke.done {M : Nat → Nat → Int} (h : Ke M) {c : Nat} : Ke (xDone M c) := ((h.put (by omega)).put (by omega)).put (by omega)
theorem Ke.judge {M : Nat → Nat → Int} (h : Ke M) {c : Nat} {g w : Int} : Ke (xJudge M c g w) := by
  unfold xJudge
  (repeat' split) <;> first | exact h.done.fail | exact h.done.ok
theorem Ke.clamp {M : Nat → Nat → Int} (h : Ke M) {c : Nat} : Ke (xClamp M c) := by
  unfold xClamp
  (repeat' split) <;> first | exact h.put (by omega) | exact h.done.fail | exact h.judge
theorem Ke.age {M : Nat → Nat → Int} (h : Ke M) {c : Nat} : Ke (xAge M c) := h.put (by omega)
theorem Ke.work {M : Nat → Nat → Int} (h : Ke M) {s : Int} {z : Nat} : Ke (xWork M s z) := by
  unfold xWork
  (repeat' split) <;> first | exact h | exact h.age.ent | exact h.age | exact h.age.clamp | exact ((h.age.put (by omega)).put (by omega)).put (by omega)
theorem Ke.zones {s : Int} : ∀ (z : Nat) {M : Nat → Nat → Int}, Ke M → Ke (xZones M s z)
  | 0, _, h => h
  | z + 1, _, h => Ke.zones z h.work
theorem Ke.tick {M : Nat → Nat → Int} (h : Ke M) : Ke (xTick M) := by
  have w0 : Ke (xWind M) := by
    unfold xWind
    split
    · exact h
    · exact h.put (by omega)
  have w := Ke.zones (s := 1) 12 (Ke.zones (s := 0) 12 w0)
  unfold xTick xEnd
  exact (w.put (by omega)).put (by omega)
theorem Ke.ticks : ∀ (k : Nat) {M : Nat → Nat → Int}, Ke M → Ke (xTicks M k)
  | 0, _, h => h
  | k + 1, _, h => Ke.ticks k h.tick
end KEEP
