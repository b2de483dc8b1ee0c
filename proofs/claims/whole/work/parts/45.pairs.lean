/-! each call of the class beside the reference's -/
section PAIRS
variable {t : Nat} {S : sT} {M : Nat → Nat → Int}
/-- both answer x -/
def P1 (l : Launch) (L t : Nat) (S : sT) (b : Bool) (m5 : gM) (y5 : MethodName) (m6 : gM) (y6 : MethodName) (as : List gV) : Prop :=
  ∃ (S' : sT) (x : Int), (∀ M, gMi (gπ l) m5 y5 (gR (some 1) :: as) (hS L S M) x (hS L S' M)) ∧ K0 S.1 S'.1 ∧ (b = true → x = 0 ∨ x = 1) ∧
    ∀ M, Rel t S M → ∃ M', gMi (gπ l) m6 y6 (gR (some 74) :: as) (hS L S' M) x (hS L S' M') ∧ Rel (t + 1) S' M' ∧ Ke M' ∧ K8 M M'
/-- the one throws, the other notes it -/
def PX (l : Launch) (L : Nat) (S : sT) (m5 : gM) (y5 : MethodName) (m6 : gM) (y6 : MethodName) (as : List gV) : Prop :=
  (∀ M, gMx (gπ l) m5 y5 (gR (some 1) :: as) (hS L S M) (hS L S M)) ∧ ∀ M, gMi (gπ l) m6 y6 (gR (some 74) :: as) (hS L S M) 0 (hS L S (up M 74 0 1))
def PV (l : Launch) (L t : Nat) (S : sT) (m5 : gM) (y5 : MethodName) (m6 : gM) (y6 : MethodName) (as : List gV) : Prop :=
  ∃ (S' : sT), (∀ M, gMv (gπ l) m5 y5 (gR (some 1) :: as) (hS L S M) (hS L S' M)) ∧ K0 S.1 S'.1 ∧
    ∀ M, Rel t S M → ∃ M', gMv (gπ l) m6 y6 (gR (some 74) :: as) (hS L S' M) (hS L S' M') ∧ Rel (t + 1) S' M' ∧ Ke M' ∧ K8 M M'
def PXV (l : Launch) (L : Nat) (S : sT) (m5 : gM) (y5 : MethodName) (m6 : gM) (y6 : MethodName) (as : List gV) : Prop :=
  (∀ M, gMx (gπ l) m5 y5 (gR (some 1) :: as) (hS L S M) (hS L S M)) ∧ ∀ M, gMv (gπ l) m6 y6 (gR (some 74) :: as) (hS L S M) (hS L S (up M 74 0 1))
theorem Rel.zero (h : Rel t S M) : Rel t S (up M 74 0 0) := rel_out h (fun a d _ _ => up_cell (by omega)) (fun d e => up_slot e)
theorem K8.zero {x : Int} : K8 M (up M 74 0 x) := fun j => up_cell (by omega)
theorem Ke.zero : Ke (up M 74 0 0) := up_same
theorem q_pulse (l : Launch) {L : Nat} (h : Rel t S M) {v : Int} : P1 l L t S false mX5_pulse yX5_pulse mX6_pulse yX6_pulse [gI v] ∨ PX l L S mX5_pulse yX5_pulse mX6_pulse yX6_pulse [gI v] := by
  by_cases q : 0 ≤ v ∧ v ≤ 600
  · refine Or.inl ⟨(oPulse S v).1, (oPulse S v).2, fun M => cX5_pulse l h.1 q.1 q.2, K0.rfl.pulse, fun z => (nomatch z), fun M hM => ⟨(xPulse M v).1, ?_, (rel_pulse hM q.1 q.2).2.mono, Ke.pulse, K8.pulse⟩⟩
    rw [(rel_pulse hM q.1 q.2).1]
    exact cX6_pulse l rfl q.1 q.2
  · exact Or.inr ⟨fun M => cX5_pulse_x l q, fun M => cX6_pulse_x l rfl q⟩
theorem q_tick (l : Launch) {L : Nat} (h : Rel t S M) (ht : t ≤ 1000) {v : Int} : P1 l L t S false mX5_tick yX5_tick mX6_tick yX6_tick [gI v] ∨ PX l L S mX5_tick yX5_tick mX6_tick yX6_tick [gI v] := by
  by_cases q : 1 ≤ v ∧ v ≤ 100
  · obtain ⟨n, rfl⟩ : ∃ n : Nat, v = (n : Int) := ⟨v.toNat, by omega⟩
    refine Or.inl ⟨oTicks S n, (oTicks S n).1 1 7, fun M => cX5_tick l h.1 (by omega) (by omega), K0.ticks n K0.rfl h.1, fun z => (nomatch z), fun M hM => ⟨xTicks (up M 74 0 0) n, ?_, (rel_ticks n hM.zero).mono, Ke.ticks n Ke.zero, K8.ticks n K8.zero⟩⟩
    rw [(rel_ticks n hM.zero).2.2.2.2.1.2.2.2.2.2.2.1]
    exact cX6_tick l rfl (hM.zero.wm ht) (by omega) (by omega)
  · exact Or.inr ⟨fun M => cX5_tick_x l q, fun M => cX6_tick_x l rfl q⟩
theorem q_gauge (l : Launch) {L : Nat} (h : Rel t S M) {s a b : Int} : P1 l L t S true mX5_gauge yX5_gauge mX6_gauge yX6_gauge [gI s, gI a, gI b] ∨ PX l L S mX5_gauge yX5_gauge mX6_gauge yX6_gauge [gI s, gI a, gI b] := by
  by_cases qs : 0 ≤ s ∧ s < 2
  · by_cases q : 0 ≤ a ∧ a ≤ 20000 ∧ 0 ≤ b ∧ b ≤ 20000
    · obtain ⟨n, rfl⟩ : ∃ n : Nat, s = (n : Int) := ⟨s.toNat, by omega⟩
      have hn : n < 2 := by omega
      refine Or.inl ⟨(oGauge S n a b).1, (oGauge S n a b).2, fun M => cX5_gauge l h.1 hn q.1 q.2.1 q.2.2.1 q.2.2.2, ?_, fun _ => ?_, fun M hM => ⟨(xGauge (up M 74 0 0) (n : Int) a b).1, ?_, (rel_gauge hM.zero hn ⟨q.1, q.2.1⟩ q.2.2).2.mono, ?_, ?_⟩⟩
      · unfold oGauge
        split
        · exact K0.rfl
        · rename_i k hk
          have := h.1.2.1 n 12 k hk
          split
          · exact (K0.rfl.put (by omega)).put (by omega)
          · exact K0.rfl
      · unfold oGauge
        split
        · exact Or.inl rfl
        · split
          · exact Or.inr rfl
          · exact Or.inl rfl
      · rw [(rel_gauge hM.zero hn ⟨q.1, q.2.1⟩ q.2.2).1]
        exact cX6_gauge l rfl (by omega) ⟨q.1, q.2.1⟩ q.2.2
      · unfold xGauge
        (repeat' split) <;> first | exact Ke.zero | exact (Ke.zero.put (by omega)).put (by omega)
      · unfold xGauge
        (repeat' split) <;> first | exact K8.zero | exact (K8.zero.put (by omega)).put (by omega)
    · exact Or.inr ⟨fun M => cX5_gauge_x2 l qs q, fun M => cX6_gauge_x l rfl (fun z => q ⟨z.2.1.1, z.2.1.2, z.2.2⟩)⟩
  · exact Or.inr ⟨fun M => cX5_gauge_x1 l qs, fun M => cX6_gauge_x l rfl (by omega)⟩
theorem q_wind (l : Launch) {L : Nat} (h : Rel t S M) (ht : t ≤ 1000) {v : Int} : PV l L t S mX5_wind yX5_wind mX6_wind yX6_wind [gI v] ∨ PXV l L S mX5_wind yX5_wind mX6_wind yX6_wind [gI v] := by
  by_cases q : 0 ≤ v ∧ v ≤ 1000
  · obtain ⟨rp, a1, a2, a3, a4, a5, a6, a7⟩ := h.2.2.2.2.2.1
    by_cases q5 : rp < 5
    · refine Or.inl ⟨(oRepA S.1 rp v, S.2), fun M => cX5_wind_a l (kp := rp) (od := 0) (by rw [a3, show min rp 5 = rp by omega]) (a4 q5) q.1 q.2 q5, ?_, fun M hM => ?_⟩
      · exact fun j => by
          show oRepA S.1 rp v 0 j = _
          unfold oRepA
          rw [up_cell (by omega), sSort_ne (by omega), up_cell (by omega), up_cell (by omega)]
      · obtain ⟨rq, b1, b2, b3, -⟩ := hM.2.2.2.2.2.1
        have e : M 74 12 = (rp : Int) := by rw [b1]; rw [a3] at b3; omega
        exact ⟨_, cX6_wind l rfl q (rp := rp) (by rw [up_slot (by omega)]; exact e) (by omega), rel_repA hM.zero (by rw [up_slot (by omega)]; exact e) q5, (Ke.zero.put (by omega)).put (by omega), (K8.zero.put (by omega)).put (by omega)⟩
    · have r5 := a5 (by omega)
      refine Or.inl ⟨(oRepB S.1 (rp % 5) v, S.2), fun M => cX5_wind_b l (kp := 5) (od := rp % 5) (by rw [a3, show min rp 5 = 5 by omega]) r5 q.1 q.2 rfl (by omega), ?_, fun M hM => ?_⟩
      · exact fun j => by
          show oRepB S.1 (rp % 5) v 0 j = _
          unfold oRepB
          rw [up_cell (by omega), sSort_ne (by omega), up_cell (by omega), up_cell (by omega)]
      · obtain ⟨rq, b1, b2, b3, b4, b5, -⟩ := hM.2.2.2.2.2.1
        have q6 : 5 ≤ rq := by rw [a3] at b3; omega
        have b6 := b5 q6
        rw [r5] at b6
        have e : rq % 5 = rp % 5 := by omega
        have k := rel_repB (v := v) hM.zero (rp := rq) (by rw [up_slot (by omega)]; exact b1) q6
        rw [e] at k
        have k2 := cX6_wind l (L := L) (S := (oRepB S.1 (rp % 5) v, S.2)) (M := M) rfl q (rp := rq) (by rw [up_slot (by omega)]; exact b1) (by omega)
        rw [e] at k2
        exact ⟨_, k2, k, (Ke.zero.put (by omega)).put (by omega), (K8.zero.put (by omega)).put (by omega)⟩
  · exact Or.inr ⟨fun M => cX5_wind_x l q, fun M => cX6_wind_x l rfl q⟩
theorem q_drive (l : Launch) {L : Nat} (h : Rel t S M) {v : Int} : P1 l L t S true mX5_drive yX5_drive mX6_drive yX6_drive [gI v] ∨ PX l L S mX5_drive yX5_drive mX6_drive yX6_drive [gI v] := by
  by_cases q : 0 ≤ v ∧ v ≤ 5
  · by_cases z : S.1 1 4 = 0
    · exact Or.inl ⟨(up S.1 1 6 v, S.2), 1, fun M => cX5_drive_1 l q.1 q.2 z, K0.rfl.put (by omega), fun _ => Or.inr rfl, fun M hM => ⟨_, cX6_drive_1 l rfl q (by rw [← hM.zero.2.2.2.2.1.1]; exact z), (rel_drive hM.zero q).mono, Ke.zero.put (by omega), K8.zero.put (by omega)⟩⟩
    · exact Or.inl ⟨S, 0, fun M => cX5_drive_0 l q.1 q.2 z, K0.rfl, fun _ => Or.inl rfl, fun M hM => ⟨_, cX6_drive_0 l rfl q (by rw [← hM.zero.2.2.2.2.1.1]; exact z), hM.zero.mono, Ke.zero, K8.zero⟩⟩
  · exact Or.inr ⟨fun M => cX5_drive_x l q, fun M => cX6_drive_x l rfl q⟩
theorem q_bring (l : Launch) {L : Nat} (h : Rel t S M) (ht : t ≤ 1000) {v : Int} : P1 l L t S true mX5_bring yX5_bring mX6_bring yX6_bring [gI v] ∨ PX l L S mX5_bring yX5_bring mX6_bring yX6_bring [gI v] := by
  by_cases q : 0 ≤ v ∧ v < 60
  · obtain ⟨c, rfl⟩ : ∃ c : Nat, v = (c : Int) := ⟨v.toNat, by omega⟩
    have hc : c < 60 := by omega
    by_cases z : S.1 (4 + c) 1 = 0 ∧ S.1 65 1 < 20
    · refine Or.inl ⟨oAppend S (4 + c), 1, fun M => cX5_bring_1 l h.1 hc z.1 z.2, K0.rfl.append (by omega), fun _ => Or.inr rfl, fun M hM => ?_⟩
      have e1 : up M 74 0 0 75 c = 0 := by rw [← (hM.zero.2.1 c hc).2.1]; exact z.1
      have e2 : up M 74 0 0 74 10 < 20 := by rw [← hM.zero.2.2.2.1.1]; exact z.2
      exact ⟨_, cX6_bring_1 l rfl (hM.zero.wm ht) hc e1 e2, (rel_bring hM.zero hc e1 e2).mono, Ke.zero.side, K8.zero.side⟩
    · refine Or.inl ⟨S, 0, fun M => cX5_bring_0 l hc z, K0.rfl, fun _ => Or.inl rfl, fun M hM => ⟨_, cX6_bring_0 l rfl hc (fun w => z ?_), hM.zero.mono, Ke.zero, K8.zero⟩⟩
      have s := hM.zero.2.2.2.1
      have s1 := s.1
      have s2 := s.2.1
      have a2 := (hM.zero.2.1 c hc).2.1
      omega
  · exact Or.inr ⟨fun M => cX5_bring_x l q, fun M => cX6_bring_x l rfl (by omega)⟩
theorem q_putOn (l : Launch) {L : Nat} (h : Rel t S M) {s v : Int} : P1 l L t S true mX5_putOn yX5_putOn mX6_putOn yX6_putOn [gI s, gI v] ∨ PX l L S mX5_putOn yX5_putOn mX6_putOn yX6_putOn [gI s, gI v] := by
  by_cases qs : 0 ≤ s ∧ s < 2
  · by_cases q : 0 ≤ v ∧ v < 60
    · obtain ⟨c, rfl⟩ : ∃ c : Nat, v = (c : Int) := ⟨v.toNat, by omega⟩
      obtain ⟨n, rfl⟩ : ∃ n : Nat, s = (n : Int) := ⟨s.toNat, by omega⟩
      have hc : c < 60 := by omega
      have hn : n < 2 := by omega
      have g : ∀ M, Rel t S M → ((S.1 (4 + c) 1 = 1 ∧ anyTo (fun j => decide (S.2.1 n (j + 1) ≠ none)) 5 = false ∧ cntTo (fun j => decide (S.1 (4 + j) 1 = 2)) 60 + cntTo (fun j => decide (S.1 (4 + j) 1 = 3)) 60 < S.1 1 5) ↔ (up M 74 0 0 75 c = 1 ∧ anyTo (fun j => decide (0 ≤ xIn (up M 74 0 0) (n : Int) ((j + 1 : Nat) : Int))) 5 = false ∧ cntTo (fun c => decide (up M 74 0 0 75 c = 2)) 60 + cntTo (fun c => decide (up M 74 0 0 75 c = 3)) 60 < up M 74 0 0 74 15)) := fun M hM => by
        have r := hM.zero
        rw [(r.2.1 c hc).2.1, put_zones r hn, cnt_place r, cnt_place r, r.2.2.2.2.1.2.2.1]
      by_cases z : S.1 (4 + c) 1 = 1 ∧ anyTo (fun j => decide (S.2.1 n (j + 1) ≠ none)) 5 = false ∧ cntTo (fun j => decide (S.1 (4 + j) 1 = 2)) 60 + cntTo (fun j => decide (S.1 (4 + j) 1 = 3)) 60 < S.1 1 5
      · obtain ⟨p, sz, i1, i2, i3, i4, i5, i6, i7, i8⟩ := sid_at h hc (by rw [← (h.2.1 c hc).2.1]; exact z.1)
        have hz5 : S.2.1 n 5 = none := by
          cases e : S.2.1 n 5 with
          | none => rfl
          | some k =>
            have := (anyTo_iff (p := fun j => decide (S.2.1 n (j + 1) ≠ none)) 5).mpr ⟨4, by omega, decide_eq_true (by rw [e]; intro w; cases w)⟩
            rw [z.2.1] at this; cases this
        refine Or.inl ⟨oPut S n (4 + c) p sz, 1, fun M => cX5_putOn_1 l h.1 hn hc z.1 z.2.1 z.2.2 i2 i3 i4 i7 i8, ?_, fun _ => Or.inr rfl, fun M hM => ?_⟩
        · exact K0.adm (K0.rfl.put (by omega)) (by omega)
        · obtain ⟨g1, g2, g3⟩ := (g M hM).mp z
          have r := hM.zero
          obtain ⟨p', sz', j1, j2, j3, j4, j5, j6, j7, j8⟩ := sid_at r hc g1
          have e1 : sz' = sz := by omega
          have e2 : p' = p := by
            rcases Nat.lt_trichotomy p' p with w | w | w
            · exact absurd j7 (i8 p' w)
            · exact w
            · exact absurd i7 (j8 p w)
          subst e1
          subst e2
          refine ⟨_, cX6_putOn_1 l rfl (by omega) hc g1 g2 g3 j1 j3 j4 j5 j6, (rel_put r hc hn g1 hz5 j1 j4 j5).mono, ?_, ?_⟩
          · refine Ke.ent ?_
            unfold Ke xUns xShift
            rw [if_neg (by omega), up_slot (by omega), up_same]
          · refine K8.ent (fun j => ?_)
            unfold xUns xShift
            rw [if_neg (by omega), up_cell (by omega), up_cell (by omega)]
      · exact Or.inl ⟨S, 0, fun M => cX5_putOn_0 l hn hc z, K0.rfl, fun _ => Or.inl rfl, fun M hM => ⟨_, cX6_putOn_0 l rfl (by omega) hc (fun w => z ((g M hM).mpr w)), hM.zero.mono, Ke.zero, K8.zero⟩⟩
    · exact Or.inr ⟨fun M => cX5_putOn_x2 l qs q, fun M => cX6_putOn_x l rfl (by omega)⟩
  · exact Or.inr ⟨fun M => cX5_putOn_x1 l qs, fun M => cX6_putOn_x l rfl (by omega)⟩
theorem q_takeOff (l : Launch) {L : Nat} (h : Rel t S M) (ht : t ≤ 1000) {s v : Int} : P1 l L t S true mX5_takeOff yX5_takeOff mX6_takeOff yX6_takeOff [gI s, gI v] ∨ PX l L S mX5_takeOff yX5_takeOff mX6_takeOff yX6_takeOff [gI s, gI v] := by
  by_cases qs : 0 ≤ s ∧ s < 2
  · by_cases q : 0 ≤ v ∧ v < 60
    · obtain ⟨c, rfl⟩ : ∃ c : Nat, v = (c : Int) := ⟨v.toNat, by omega⟩
      obtain ⟨n, rfl⟩ : ∃ n : Nat, s = (n : Int) := ⟨s.toNat, by omega⟩
      have hc : c < 60 := by omega
      have hn : n < 2 := by omega
      by_cases z : S.1 (4 + c) 1 = 2 ∧ S.1 (4 + c) 2 = (n : Int) ∧ 5 ≤ S.1 (4 + c) 3 ∧ S.1 (4 + c) 3 ≤ 8 ∧ S.1 65 1 < 20
      · obtain ⟨k, hk⟩ : ∃ k : Nat, S.1 (4 + c) 3 = (k : Int) := ⟨(S.1 (4 + c) 3).toNat, by omega⟩
        refine Or.inl ⟨oAppend (S.1, up S.2.1 n k none, S.2.2) (4 + c), 1, fun M => cX5_takeOff_1 l h.1 hn hc z.1 z.2.1 hk (by omega) (by omega) z.2.2.2.2, K0.append (S := (_, _, _)) K0.rfl (by omega), fun _ => Or.inr rfl, fun M hM => ?_⟩
        have r := hM.zero
        obtain ⟨a1, a2, a3, a4, -⟩ := r.2.1 c hc
        have p2 : up M 74 0 0 75 c = 2 := by omega
        obtain ⟨b1, b2, -⟩ := a4 p2
        have s1 := r.2.2.2.1.1
        refine ⟨_, cX6_takeOff_1 l rfl (r.wm ht) (by omega) hc p2 (by omega) (by omega) (by omega), (rel_take r hc hn p2 (by omega) (by omega) (by omega) (by omega)).mono, Ke.zero.side, K8.zero.side⟩
      · refine Or.inl ⟨S, 0, fun M => cX5_takeOff_0 l hn hc z, K0.rfl, fun _ => Or.inl rfl, fun M hM => ⟨_, cX6_takeOff_0 l rfl (by omega) hc (fun w => z ?_), hM.zero.mono, Ke.zero, K8.zero⟩⟩
        have r := hM.zero
        obtain ⟨a1, a2, a3, a4, -⟩ := r.2.1 c hc
        obtain ⟨b1, b2, -⟩ := a4 w.1
        have s1 := r.2.2.2.1.1
        have s2 := r.2.2.2.1.2.1
        omega
    · exact Or.inr ⟨fun M => cX5_takeOff_x2 l qs q, fun M => cX6_takeOff_x l rfl (by omega)⟩
  · exact Or.inr ⟨fun M => cX5_takeOff_x1 l qs, fun M => cX6_takeOff_x l rfl (by omega)⟩
theorem q_plan (l : Launch) {L : Nat} (h : Rel t S M) {v : Int} : P1 l L t S false mX5_plan yX5_plan mX6_plan yX6_plan [gI v] ∨ PX l L S mX5_plan yX5_plan mX6_plan yX6_plan [gI v] := by
  by_cases q : 1 ≤ v ∧ v ≤ 900
  · exact Or.inl ⟨(up S.1 1 5 ((v + 14) / 15), S.2), (v + 14) / 15, fun M => cX5_plan l q.1 q.2, K0.rfl.put (by omega), fun z => (nomatch z), fun M hM => ⟨_, cX6_plan l rfl q, (rel_plan hM.zero q).mono, Ke.zero.put (by omega), K8.zero.put (by omega)⟩⟩
  · exact Or.inr ⟨fun M => cX5_plan_x l q, fun M => cX6_plan_x l rfl q⟩
theorem q_release (l : Launch) {L : Nat} (h : Rel t S M) (ht : t ≤ 1000) {v : Int} : P1 l L t S true mX5_release yX5_release mX6_release yX6_release [gI v] ∨ PX l L S mX5_release yX5_release mX6_release yX6_release [gI v] := by
  by_cases q : 0 ≤ v ∧ v ≤ 3
  · have g : ∀ M, Rel t S M → ((gand (S.1 1 4) (gshl 1 v) ≠ 0 ∧ oCause S v = 0) ↔ (gand (gshr (up M 74 0 0 74 14) v) 1 ≠ 0 ∧ xCause (up M 74 0 0) v = false)) := fun M hM => by
      have r := hM.zero
      rw [cause_iff r q, r.2.2.2.2.1.1, (bits r.2.2.2.2.1.2.1 q).1]
    by_cases z : gand (S.1 1 4) (gshl 1 v) ≠ 0 ∧ oCause S v = 0
    · exact Or.inl ⟨(up S.1 1 4 (gand (S.1 1 4) (gxor (gshl 1 v) (-1))), S.2), 1, fun M => cX5_release_1 l q.1 q.2 z.1 z.2, K0.rfl.put (by omega), fun _ => Or.inr rfl, fun M hM => ⟨_, cX6_release_1 l rfl (hM.zero.wm ht) q ((g M hM).mp z).1 ((g M hM).mp z).2, (rel_release hM.zero q).mono, Ke.zero.put (by omega), K8.zero.put (by omega)⟩⟩
    · exact Or.inl ⟨S, 0, fun M => cX5_release_0 l q.1 q.2 z, K0.rfl, fun _ => Or.inl rfl, fun M hM => ⟨_, cX6_release_0 l rfl (hM.zero.wm ht) q (fun w => z ((g M hM).mpr w)), hM.zero.mono, Ke.zero, K8.zero⟩⟩
  · exact Or.inr ⟨fun M => cX5_release_x l q, fun M => cX6_release_x l rfl q⟩
theorem q_locks (l : Launch) {L : Nat} (h : Rel t S M) : P1 l L t S false mX5_locks yX5_locks mX6_locks yX6_locks [] := by
  refine ⟨S, S.1 1 4, fun M => cX5_locks l, K0.rfl, fun z => (nomatch z), fun M hM => ⟨_, ?_, hM.zero.mono, Ke.zero, K8.zero⟩⟩
  rw [hM.zero.2.2.2.2.1.1]
  exact cX6_locks l rfl
theorem q_where (l : Launch) {L : Nat} (h : Rel t S M) {v w : Int} : P1 l L t S false mX5_where yX5_where mX6_where yX6_where [gI v, gI w] ∨ PX l L S mX5_where yX5_where mX6_where yX6_where [gI v, gI w] := by
  by_cases q : 0 ≤ v ∧ v < 60
  · obtain ⟨c, rfl⟩ : ∃ c : Nat, v = (c : Int) := ⟨v.toNat, by omega⟩
    have hc : c < 60 := by omega
    have mk : ∀ sp : Int, (∀ M, gMi (gπ l) mX5_spotOf yX5_spotOf [gR (some 1), gR (some (4 + c))] (hS L S M) sp (hS L S M)) → (S.1 (4 + c) 1 = 0 → sp = -1) → (S.1 (4 + c) 1 = 2 → sp = S.1 (4 + c) 3) → (S.1 (4 + c) 1 = 3 → sp = S.1 (4 + c) 4) → (∀ M, Rel t S M → M 75 c = 1 → gMi (gπ l) mX6_placeOf yX6_placeOf [gR (some 74), gI (c : Int)] (hS L S M) sp (hS L S M)) → P1 l L t S false mX5_where yX5_where mX6_where yX6_where [gI (c : Int), gI w] := by
      intro sp h1 h2 h3 h4 h5
      refine ⟨S, oWhere S (4 + c) sp w, fun M => cX5_where l hc (h1 M), K0.rfl, fun z => (nomatch z), fun M hM => ⟨_, ?_, hM.zero.mono, Ke.zero, K8.zero⟩⟩
      have r := hM.zero
      have a2 := (r.2.1 c hc).2.1
      rw [where_eq r hc (fun z => h2 (by omega)) (fun z => h3 (by omega)) (fun z => h4 (by omega))]
      exact cX6_where l rfl hc (fun z => h5 _ r z)
    have a2 := (h.2.1 c hc).2.1
    have a3 := (h.2.1 c hc).2.2.1
    rcases (by omega : S.1 (4 + c) 1 = 0 ∨ S.1 (4 + c) 1 = 1 ∨ S.1 (4 + c) 1 = 2 ∨ S.1 (4 + c) 1 = 3) with p | p | p | p
    · exact Or.inl (mk (-1) (fun M => cX5_spotOf_0 l (by omega) (by omega) p) (fun _ => rfl) (fun z => by omega) (fun z => by omega) (fun M hM z => by have := (hM.2.1 c hc).2.1; omega))
    · obtain ⟨p9, sz, i1, i2, i3, i4, i5, i6, i7, i8⟩ := sid_at h hc (by omega)
      refine Or.inl (mk (p9 : Int) (fun M => cX5_spotOf_1 l (by omega) (by omega) p i2 i3 i4 i7 i8) (fun z => by omega) (fun z => by omega) (fun z => by omega) (fun M hM z => ?_))
      obtain ⟨p', sz', j1, j2, j3, j4, j5, j6, j7, j8⟩ := sid_at hM hc z
      have e2 : p' = p9 := by
        rcases Nat.lt_trichotomy p' p9 with w | w | w
        · exact absurd j7 (i8 p' w)
        · exact w
        · exact absurd i7 (j8 p9 w)
      subst e2
      exact cX6_placeOf l hc j1 j3 j4 j5 j6
    · exact Or.inl (mk (S.1 (4 + c) 3) (fun M => cX5_spotOf_2 l (by omega) (by omega) p) (fun z => by omega) (fun _ => rfl) (fun z => by omega) (fun M hM z => by have := (hM.2.1 c hc).2.1; omega))
    · exact Or.inl (mk (S.1 (4 + c) 4) (fun M => cX5_spotOf_3 l (by omega) (by omega) p) (fun z => by omega) (fun z => by omega) (fun _ => rfl) (fun M hM z => by have := (hM.2.1 c hc).2.1; omega))
  · exact Or.inr ⟨fun M => cX5_where_x l q, fun M => cX6_where_x l rfl (by omega)⟩
theorem q_gap (l : Launch) {L : Nat} (h : Rel t S M) {v : Int} : P1 l L t S false mX5_gap yX5_gap mX6_gap yX6_gap [gI v] ∨ PX l L S mX5_gap yX5_gap mX6_gap yX6_gap [gI v] := by
  by_cases q : 0 ≤ v ∧ v < 60
  · obtain ⟨c, rfl⟩ : ∃ c : Nat, v = (c : Int) := ⟨v.toNat, by omega⟩
    have hc : c < 60 := by omega
    have a2 := (h.2.1 c hc).2.1
    by_cases z : S.1 (4 + c) 1 = 3
    · refine Or.inl ⟨S, sWay S.1 (4 + c) 60, fun M => cX5_gap_1 l hc z (fun j hj g => ?_), K0.rfl, fun z => (nomatch z), fun M hM => ⟨_, ?_, hM.zero.mono, Ke.zero, K8.zero⟩⟩
      · have b2 := (h.2.1 j hj).2.1
        obtain ⟨e1, e2, e3⟩ := spot_eq h hc (by omega)
        obtain ⟨f1, f2, f3⟩ := spot_eq h hj (by omega)
        rw [e1, f1, gsub_eq (by omega) (by omega)]
        omega
      · have r := hM.zero
        have b2 := (r.2.1 c hc).2.1
        rw [gap_eq r hc (by omega) 60 (by omega)]
        exact cX6_gap_1 l rfl hc (by omega)
    · refine Or.inl ⟨S, -1, fun M => cX5_gap_0 l hc z, K0.rfl, fun z => (nomatch z), fun M hM => ⟨_, cX6_gap_0 l rfl hc ?_, hM.zero.mono, Ke.zero, K8.zero⟩⟩
      have b2 := (hM.zero.2.1 c hc).2.1
      omega
  · exact Or.inr ⟨fun M => cX5_gap_x l q, fun M => cX6_gap_x l rfl (by omega)⟩
theorem q_sided (l : Launch) {L : Nat} (h : Rel t S M) {v : Int} : P1 l L t S false mX5_sided yX5_sided mX6_sided yX6_sided [gI v] := by
  obtain ⟨s1, s2, s3, -⟩ := h.2.2.2.1
  obtain ⟨sz, hsz⟩ : ∃ sz : Nat, S.1 65 1 = (sz : Int) := ⟨(S.1 65 1).toNat, by omega⟩
  by_cases q : 0 ≤ v ∧ v < (sz : Int)
  · obtain ⟨c, c1, c2, c3, c4⟩ := s3 v.toNat (by omega)
    refine ⟨S, S.1 (4 + c) 0, fun M => cX5_sided_1 l hsz (by omega) q c3 (by omega) (by omega), K0.rfl, fun z => (nomatch z), fun M hM => ⟨_, ?_, hM.zero.mono, Ke.zero, K8.zero⟩⟩
    have r := hM.zero
    obtain ⟨r1, r2, r3, -⟩ := r.2.2.2.1
    obtain ⟨d, d1, d2, d3, d4⟩ := r3 v.toNat (by omega)
    have e : d = c := by rw [d3] at c3; have := Option.some.inj c3; omega
    rw [(r.2.1 c c1).1, ← e, ← d2]
    exact cX6_sided_1 l rfl (sz := sz) (by omega) (by omega) q
  · refine ⟨S, -1, fun M => cX5_sided_0 l hsz (by omega) q, K0.rfl, fun z => (nomatch z), fun M hM => ⟨_, ?_, hM.zero.mono, Ke.zero, K8.zero⟩⟩
    have r1 := hM.zero.2.2.2.1.1
    exact cX6_sided_0 l rfl (sz := sz) (by omega) (by omega) q
theorem q_state (l : Launch) {L : Nat} (h : Rel t S M) (ht : t ≤ 1000) {v : Int} : P1 l L t S false mX5_state yX5_state mX6_state yX6_state [gI v] := by
  refine ⟨S, oState S v, fun M => cX5_state l, K0.rfl, fun z => (nomatch z), fun M hM => ⟨_, ?_, hM.zero.mono, Ke.zero, K8.zero⟩⟩
  rw [state_eq hM.zero]
  exact cX6_state l rfl (hM.zero.wm ht).2.2.1
end PAIRS
