/-! contracts: the fleet -/
set_option maxHeartbeats 1000000 in
theorem cX1_hasLeft (l : Launch) {L : Nat} {C M : Nat → Nat → Int} {Z : Nat → Nat → Option Nat} {R : Nat → Option Nat} {n : Nat} (h1 : 4 ≤ n) (h2 : n < 64) {s : Int} : gMi (gπ l) mX1_hasLeft yX1_hasLeft [gR (some n), gI s] (hq L C M Z R) (if C n 1 = 3 then (if C n 2 = s then 1 else 0) else 0) (hq L C M Z R) := by
  refine gMet_of pnX1 rfl rfl rfl (Nat.le_of_ble_eq_true rfl) (gAr (gAi gAn)) ?_
  show G (gπ l) mX1_hasLeft 0 [gR (some n), gI s] [] (hq L C M Z R) 0 0 _
  refine g_aload_n dX1_hasLeft_0 rfl rfl ?_
  refine c_getI (x := C n 1) dX1_hasLeft_1 (fX1_20 l) rfl (T0_cab (by omega) (by omega)) (by omega) rfl ?_
  refine g_iconst (x := 3) dX1_hasLeft_4 (by decide) ?_
  refine g_icmp_ne (tgt := 20) dX1_hasLeft_5 (by decide) (fun c5 => ?_) (fun c5 => ?_)
  · refine g_iconst (x := 0) dX1_hasLeft_20 (by decide) ?_
    exact g_iret dX1_hasLeft_21 (Or.inr ⟨rfl, Or.inl rfl⟩) ⟨congrArg gK1 (by (repeat' split) <;> omega), rfl⟩
  · refine g_aload_n dX1_hasLeft_8 rfl rfl ?_
    refine c_getI (x := C n 2) dX1_hasLeft_9 (fX1_50 l) rfl (T0_cab (by omega) (by omega)) (by omega) rfl ?_
    refine g_iload_n dX1_hasLeft_12 rfl rfl ?_
    refine g_icmp_ne (tgt := 20) dX1_hasLeft_13 (by decide) (fun c13 => ?_) (fun c13 => ?_)
    · refine g_iconst (x := 0) dX1_hasLeft_20 (by decide) ?_
      exact g_iret dX1_hasLeft_21 (Or.inr ⟨rfl, Or.inl rfl⟩) ⟨congrArg gK1 (by (repeat' split) <;> omega), rfl⟩
    · refine g_iconst (x := 1) dX1_hasLeft_16 (by decide) ?_
      refine g_goto (tgt := 21) dX1_hasLeft_17 (by decide) ?_
      exact g_iret dX1_hasLeft_21 (Or.inr ⟨rfl, Or.inr rfl⟩) ⟨congrArg gK1 (by (repeat' split) <;> omega), rfl⟩
set_option maxHeartbeats 1000000 in
theorem cX1_spot (l : Launch) {L : Nat} {C M : Nat → Nat → Int} {Z : Nat → Nat → Option Nat} {R : Nat → Option Nat} {n : Nat} (h1 : 4 ≤ n) (h2 : n < 64) : gMi (gπ l) mX1_spot yX1_spot [gR (some n)] (hq L C M Z R) (gadd (gmul 6000 (C n 2)) (C n 4)) (hq L C M Z R) := by
  refine gMet_of pnX1 rfl rfl rfl (Nat.le_of_ble_eq_true rfl) (gAr gAn) ?_
  show G (gπ l) mX1_spot 0 [gR (some n)] [] (hq L C M Z R) 0 0 _
  refine g_sipush (x := 6000) dX1_spot_0 (by decide) ?_
  refine g_aload_n dX1_spot_3 rfl rfl ?_
  refine c_getI (x := C n 2) dX1_spot_4 (fX1_50 l) rfl (T0_cab (by omega) (by omega)) (by omega) rfl ?_
  refine e_imul (v := gmul 6000 (C n 2)) dX1_spot_7 rfl ?_
  refine g_aload_n dX1_spot_8 rfl rfl ?_
  refine c_getI (x := C n 4) dX1_spot_9 (fX1_27 l) rfl (T0_cab (by omega) (by omega)) (by omega) rfl ?_
  refine e_iadd (v := gadd (gmul 6000 (C n 2)) (C n 4)) dX1_spot_12 rfl ?_
  exact g_iret dX1_spot_13 (Or.inl rfl) ⟨rfl, rfl⟩
set_option maxHeartbeats 1000000 in
theorem cX1_countAt (l : Launch) {L : Nat} {C M : Nat → Nat → Int} {Z : Nat → Nat → Option Nat} {R : Nat → Option Nat} {p : Int} : gMi (gπ l) mX1_countAt yX1_countAt [gR (some 2), gI p] (hq L C M Z R) (cntTo (fun j => decide (C (4 + j) 1 = p)) 60) (hq L C M Z R) := by
  refine gMet_of pnX1 rfl rfl rfl (Nat.le_of_ble_eq_true rfl) (gAr (gAi gAn)) ?_
  show G (gπ l) mX1_countAt 0 [gR (some 2), gI p, gU, gU] [] (hq L C M Z R) 0 0 _
  have loop : ∀ (m k : Nat), k + m = 60 → G (gπ l) mX1_countAt 4 [gR (some 2), gI p, gI (cntTo (fun j => decide (C (4 + j) 1 = p)) k), gI (k : Int)] [] (hq L C M Z R) 0 0 (fun r k => r = some (some (gI (cntTo (fun j => decide (C (4 + j) 1 = p)) 60))) ∧ k = (hq L C M Z R)) := by
    intro m
    induction m with
    | zero =>
      intro k hk 
      refine g_iload_n dX1_countAt_4 rfl rfl ?_
      refine g_bipush (x := 60) dX1_countAt_5 (by decide) ?_
      refine g_icmp_ge (tgt := 32) dX1_countAt_7 (by decide) (fun c7 => ?_) (fun c7 => absurd c7 (by omega))
      refine g_iload_n dX1_countAt_32 rfl rfl ?_
      exact g_iret dX1_countAt_33 (Or.inl rfl) ⟨by rw [show k = 60 by omega], rfl⟩
    | succ m ih =>
      intro k hk 
      refine g_iload_n dX1_countAt_4 rfl rfl ?_
      refine g_bipush (x := 60) dX1_countAt_5 (by decide) ?_
      refine g_icmp_ge (tgt := 32) dX1_countAt_7 (by decide) (fun c7 => absurd c7 (by omega)) (fun c7 => ?_)
      refine g_aload_n dX1_countAt_10 rfl rfl ?_
      refine p_getR (o := some 3) dX1_countAt_11 (fX1_11 l) (by decide) rfl (by omega) rfl ?_
      refine g_iload_n dX1_countAt_14 rfl rfl ?_
      refine p_aald (ci := 0) (len := 60) (o := some (4 + k)) (kc0 l) dX1_countAt_15 rfl (by omega) (by omega) (by omega) (rr_cab (by omega)) ?_
      refine c_getI (x := C (4 + k) 1) dX1_countAt_16 (fX1_20 l) rfl (T0_cab (by omega) (by omega)) (by omega) rfl ?_
      refine g_iload_n dX1_countAt_19 rfl rfl ?_
      refine g_icmp_ne (tgt := 26) dX1_countAt_20 (by decide) (fun c20 => ?_) (fun c20 => ?_)
      · refine e_iinc (v := ((k + 1 : Nat) : Int)) (loc' := [gR (some 2), gI p, gI (cntTo (fun j => decide (C (4 + j) 1 = p)) k), gI (((k + 1 : Nat) : Int))]) dX1_countAt_26 (by decide) rfl (gadd_nat (by omega)) rfl ?_
        refine g_goto (tgt := 4) dX1_countAt_29 (by decide) ?_
        refine g_eq (loc' := [gR (some 2), gI p, gI (cntTo (fun j => decide (C (4 + j) 1 = p)) (k + 1)), gI ((k + 1 : Nat) : Int)]) ?_ rfl (ih (k + 1) (by omega))
        simp [cntTo, c20]
      · refine e_iinc (v := cntTo (fun j => decide (C (4 + j) 1 = p)) k + 1) (loc' := [gR (some 2), gI p, gI (cntTo (fun j => decide (C (4 + j) 1 = p)) k + 1), gI (k : Int)]) dX1_countAt_23 (by decide) rfl (gadd_eq (by have := cntTo_nn (p := (fun j => decide (C (4 + j) 1 = p))) k; omega) (by have := cntTo_nn (p := (fun j => decide (C (4 + j) 1 = p))) k; omega)) rfl ?_
        refine e_iinc (v := ((k + 1 : Nat) : Int)) (loc' := [gR (some 2), gI p, gI (cntTo (fun j => decide (C (4 + j) 1 = p)) k + 1), gI (((k + 1 : Nat) : Int))]) dX1_countAt_26 (by decide) rfl (gadd_nat (by omega)) rfl ?_
        refine g_goto (tgt := 4) dX1_countAt_29 (by decide) ?_
        refine g_eq (loc' := [gR (some 2), gI p, gI (cntTo (fun j => decide (C (4 + j) 1 = p)) (k + 1)), gI ((k + 1 : Nat) : Int)]) ?_ rfl (ih (k + 1) (by omega))
        simp [cntTo, c20]
  refine g_iconst (x := 0) dX1_countAt_0 (by decide) ?_
  refine e_istore_n (loc' := [gR (some 2), gI p, gI 0, gU]) dX1_countAt_1 rfl (by decide) rfl ?_
  refine g_iconst (x := 0) dX1_countAt_2 (by decide) ?_
  refine e_istore_n (loc' := [gR (some 2), gI p, gI 0, gI 0]) dX1_countAt_3 rfl (by decide) rfl ?_
  exact loop 60 0 (by omega)
set_option maxHeartbeats 1000000 in
theorem cX1_tripsOfAll (l : Launch) {L : Nat} {C M : Nat → Nat → Int} {Z : Nat → Nat → Option Nat} {R : Nat → Option Nat}  : gMi (gπ l) mX1_tripsOfAll yX1_tripsOfAll [gR (some 2)] (hq L C M Z R) (sumTo (fun j => C (4 + j) 9) 60) (hq L C M Z R) := by
  refine gMet_of pnX1 rfl rfl rfl (Nat.le_of_ble_eq_true rfl) (gAr gAn) ?_
  show G (gπ l) mX1_tripsOfAll 0 [gR (some 2), gU, gU] [] (hq L C M Z R) 0 0 _
  have loop : ∀ (m k : Nat), k + m = 60 → G (gπ l) mX1_tripsOfAll 4 [gR (some 2), gI (sumTo (fun j => C (4 + j) 9) k), gI (k : Int)] [] (hq L C M Z R) 0 0 (fun r k => r = some (some (gI (sumTo (fun j => C (4 + j) 9) 60))) ∧ k = (hq L C M Z R)) := by
    intro m
    induction m with
    | zero =>
      intro k hk 
      refine g_iload_n dX1_tripsOfAll_4 rfl rfl ?_
      refine g_bipush (x := 60) dX1_tripsOfAll_5 (by decide) ?_
      refine g_icmp_ge (tgt := 28) dX1_tripsOfAll_7 (by decide) (fun c7 => ?_) (fun c7 => absurd c7 (by omega))
      refine g_iload_n dX1_tripsOfAll_28 rfl rfl ?_
      exact g_iret dX1_tripsOfAll_29 (Or.inl rfl) ⟨by rw [show k = 60 by omega], rfl⟩
    | succ m ih =>
      intro k hk 
      refine g_iload_n dX1_tripsOfAll_4 rfl rfl ?_
      refine g_bipush (x := 60) dX1_tripsOfAll_5 (by decide) ?_
      refine g_icmp_ge (tgt := 28) dX1_tripsOfAll_7 (by decide) (fun c7 => absurd c7 (by omega)) (fun c7 => ?_)
      refine g_iload_n dX1_tripsOfAll_10 rfl rfl ?_
      refine g_aload_n dX1_tripsOfAll_11 rfl rfl ?_
      refine p_getR (o := some 3) dX1_tripsOfAll_12 (fX1_11 l) (by decide) rfl (by omega) rfl ?_
      refine g_iload_n dX1_tripsOfAll_15 rfl rfl ?_
      refine p_aald (ci := 0) (len := 60) (o := some (4 + k)) (kc0 l) dX1_tripsOfAll_16 rfl (by omega) (by omega) (by omega) (rr_cab (by omega)) ?_
      refine c_getI (x := C (4 + k) 9) dX1_tripsOfAll_17 (fX1_24 l) rfl (T0_cab (by omega) (by omega)) (by omega) rfl ?_
      refine e_iadd (v := sumTo (fun j => C (4 + j) 9) (k + 1)) dX1_tripsOfAll_20 rfl ?_
      refine e_istore_n (loc' := [gR (some 2), gI (sumTo (fun j => C (4 + j) 9) (k + 1)), gI (k : Int)]) dX1_tripsOfAll_21 rfl (by decide) rfl ?_
      refine e_iinc (v := ((k + 1 : Nat) : Int)) (loc' := [gR (some 2), gI (sumTo (fun j => C (4 + j) 9) (k + 1)), gI (((k + 1 : Nat) : Int))]) dX1_tripsOfAll_22 (by decide) rfl (gadd_nat (by omega)) rfl ?_
      refine g_goto (tgt := 4) dX1_tripsOfAll_25 (by decide) ?_
      exact ih (k + 1) (by omega)
  refine g_iconst (x := 0) dX1_tripsOfAll_0 (by decide) ?_
  refine e_istore_n (loc' := [gR (some 2), gI 0, gU]) dX1_tripsOfAll_1 rfl (by decide) rfl ?_
  refine g_iconst (x := 0) dX1_tripsOfAll_2 (by decide) ?_
  refine e_istore_n (loc' := [gR (some 2), gI 0, gI 0]) dX1_tripsOfAll_3 rfl (by decide) rfl ?_
  exact loop 60 0 (by omega)
set_option maxHeartbeats 1000000 in
theorem cX1_farthest (l : Launch) {L : Nat} {C M : Nat → Nat → Int} {Z : Nat → Nat → Option Nat} {R : Nat → Option Nat}  : gMi (gπ l) mX1_farthest yX1_farthest [gR (some 2)] (hq L C M Z R) (maxTo (fun j => decide (C (4 + j) 1 = 3)) (fun j => C (4 + j) 4) 60) (hq L C M Z R) := by
  refine gMet_of pnX1 rfl rfl rfl (Nat.le_of_ble_eq_true rfl) (gAr gAn) ?_
  show G (gπ l) mX1_farthest 0 [gR (some 2), gU, gU] [] (hq L C M Z R) 0 0 _
  have loop : ∀ (m k : Nat), k + m = 60 → G (gπ l) mX1_farthest 4 [gR (some 2), gI (maxTo (fun j => decide (C (4 + j) 1 = 3)) (fun j => C (4 + j) 4) k), gI (k : Int)] [] (hq L C M Z R) 0 0 (fun r k => r = some (some (gI (maxTo (fun j => decide (C (4 + j) 1 = 3)) (fun j => C (4 + j) 4) 60))) ∧ k = (hq L C M Z R)) := by
    intro m
    induction m with
    | zero =>
      intro k hk 
      refine g_iload_n dX1_farthest_4 rfl rfl ?_
      refine g_bipush (x := 60) dX1_farthest_5 (by decide) ?_
      refine g_icmp_ge (tgt := 43) dX1_farthest_7 (by decide) (fun c7 => ?_) (fun c7 => absurd c7 (by omega))
      refine g_iload_n dX1_farthest_43 rfl rfl ?_
      exact g_iret dX1_farthest_44 (Or.inl rfl) ⟨by rw [show k = 60 by omega], rfl⟩
    | succ m ih =>
      intro k hk 
      refine g_iload_n dX1_farthest_4 rfl rfl ?_
      refine g_bipush (x := 60) dX1_farthest_5 (by decide) ?_
      refine g_icmp_ge (tgt := 43) dX1_farthest_7 (by decide) (fun c7 => absurd c7 (by omega)) (fun c7 => ?_)
      refine g_aload_n dX1_farthest_10 rfl rfl ?_
      refine p_getR (o := some 3) dX1_farthest_11 (fX1_11 l) (by decide) rfl (by omega) rfl ?_
      refine g_iload_n dX1_farthest_14 rfl rfl ?_
      refine p_aald (ci := 0) (len := 60) (o := some (4 + k)) (kc0 l) dX1_farthest_15 rfl (by omega) (by omega) (by omega) (rr_cab (by omega)) ?_
      refine c_getI (x := C (4 + k) 1) dX1_farthest_16 (fX1_20 l) rfl (T0_cab (by omega) (by omega)) (by omega) rfl ?_
      refine g_iconst (x := 3) dX1_farthest_19 (by decide) ?_
      refine g_icmp_ne (tgt := 37) dX1_farthest_20 (by decide) (fun c20 => ?_) (fun c20 => ?_)
      · refine e_iinc (v := ((k + 1 : Nat) : Int)) (loc' := [gR (some 2), gI (maxTo (fun j => decide (C (4 + j) 1 = 3)) (fun j => C (4 + j) 4) k), gI (((k + 1 : Nat) : Int))]) dX1_farthest_37 (by decide) rfl (gadd_nat (by omega)) rfl ?_
        refine g_goto (tgt := 4) dX1_farthest_40 (by decide) ?_
        refine g_eq (loc' := [gR (some 2), gI (maxTo (fun j => decide (C (4 + j) 1 = 3)) (fun j => C (4 + j) 4) (k + 1)), gI ((k + 1 : Nat) : Int)]) ?_ rfl (ih (k + 1) (by omega))
        simp [maxTo, c20]
      · refine g_iload_n dX1_farthest_23 rfl rfl ?_
        refine g_aload_n dX1_farthest_24 rfl rfl ?_
        refine p_getR (o := some 3) dX1_farthest_25 (fX1_11 l) (by decide) rfl (by omega) rfl ?_
        refine g_iload_n dX1_farthest_28 rfl rfl ?_
        refine p_aald (ci := 0) (len := 60) (o := some (4 + k)) (kc0 l) dX1_farthest_29 rfl (by omega) (by omega) (by omega) (rr_cab (by omega)) ?_
        refine c_getI (x := C (4 + k) 4) dX1_farthest_30 (fX1_27 l) rfl (T0_cab (by omega) (by omega)) (by omega) rfl ?_
        refine g_max dX1_farthest_33 aX1_30 ⟨by decide, Nat.le_of_ble_eq_true rfl⟩ ?_
        refine e_istore_n (loc' := [gR (some 2), gI (max (maxTo (fun j => decide (C (4 + j) 1 = 3)) (fun j => C (4 + j) 4) k) (C (4 + k) 4)), gI (k : Int)]) dX1_farthest_36 rfl (by decide) rfl ?_
        refine e_iinc (v := ((k + 1 : Nat) : Int)) (loc' := [gR (some 2), gI (max (maxTo (fun j => decide (C (4 + j) 1 = 3)) (fun j => C (4 + j) 4) k) (C (4 + k) 4)), gI (((k + 1 : Nat) : Int))]) dX1_farthest_37 (by decide) rfl (gadd_nat (by omega)) rfl ?_
        refine g_goto (tgt := 4) dX1_farthest_40 (by decide) ?_
        refine g_eq (loc' := [gR (some 2), gI (maxTo (fun j => decide (C (4 + j) 1 = 3)) (fun j => C (4 + j) 4) (k + 1)), gI ((k + 1 : Nat) : Int)]) ?_ rfl (ih (k + 1) (by omega))
        simp [maxTo, c20]
  refine g_iconst (x := 0) dX1_farthest_0 (by decide) ?_
  refine e_istore_n (loc' := [gR (some 2), gI 0, gU]) dX1_farthest_1 rfl (by decide) rfl ?_
  refine g_iconst (x := 0) dX1_farthest_2 (by decide) ?_
  refine e_istore_n (loc' := [gR (some 2), gI 0, gI 0]) dX1_farthest_3 rfl (by decide) rfl ?_
  exact loop 60 0 (by omega)
def sAdv (C : Nat → Nat → Int) (step : Int) (k : Nat) : Nat → Nat → Int := fun a b => if 4 ≤ a ∧ a < 4 + k ∧ b = 4 ∧ C a 1 = 3 then gadd (C a 4) step else C a b
theorem sAdv_0 {C : Nat → Nat → Int} {step : Int} : sAdv C step 0 = C := by
  funext a b
  unfold sAdv
  rw [if_neg (by omega)]
theorem sAdv_at {C : Nat → Nat → Int} {step : Int} {k : Nat} {b : Nat} : sAdv C step k (4 + k) b = C (4 + k) b := by
  unfold sAdv
  rw [if_neg (by omega)]
theorem sAdv_skip {C : Nat → Nat → Int} {step : Int} {k : Nat} (h : C (4 + k) 1 ≠ 3) : sAdv C step k = sAdv C step (k + 1) := by
  funext a b
  unfold sAdv
  by_cases e : a = 4 + k
  · subst e
    rw [if_neg (by omega), if_neg (fun z => h z.2.2.2)]
  · by_cases c : 4 ≤ a ∧ a < 4 + k ∧ b = 4 ∧ C a 1 = 3
    · rw [if_pos c, if_pos ⟨c.1, by omega, c.2.2⟩]
    · rw [if_neg c, if_neg (fun z => c ⟨z.1, by omega, z.2.2⟩)]
theorem sAdv_put {C : Nat → Nat → Int} {step : Int} {k : Nat} (h : C (4 + k) 1 = 3) : up (sAdv C step k) (4 + k) 4 (gadd (C (4 + k) 4) step) = sAdv C step (k + 1) := by
  funext a b
  unfold up
  by_cases e : a = 4 + k ∧ b = 4
  · obtain ⟨rfl, rfl⟩ := e
    rw [if_pos ⟨rfl, rfl⟩]
    unfold sAdv
    rw [if_pos ⟨by omega, by omega, rfl, h⟩]
  · rw [if_neg e]
    unfold sAdv
    by_cases c : 4 ≤ a ∧ a < 4 + k ∧ b = 4 ∧ C a 1 = 3
    · rw [if_pos c, if_pos ⟨c.1, by omega, c.2.2⟩]
    · rw [if_neg c, if_neg (fun z => c ⟨z.1, by have := z.2.1; have : ¬ (a = 4 + k) := fun q => e ⟨q, z.2.2.1⟩; omega, z.2.2⟩)]
set_option maxHeartbeats 1000000 in
theorem cX1_advance (l : Launch) {L : Nat} {C M : Nat → Nat → Int} {Z : Nat → Nat → Option Nat} {R : Nat → Option Nat} {step : Int} : gMv (gπ l) mX1_advance yX1_advance [gR (some 2), gI step] (hq L C M Z R) (hq L (sAdv C step 60) M Z R) := by
  refine gMet_of pnX1 rfl rfl rfl (Nat.le_of_ble_eq_true rfl) (gAr (gAi gAn)) ?_
  show G (gπ l) mX1_advance 0 [gR (some 2), gI step, gU] [] (hq L C M Z R) 0 0 _
  have loop : ∀ (m k : Nat), k + m = 60 → G (gπ l) mX1_advance 2 [gR (some 2), gI step, gI (k : Int)] [] (hq L (sAdv C step k) M Z R) 0 0 (fun r k => r = some none ∧ k = (hq L (sAdv C step 60) M Z R)) := by
    intro m
    induction m with
    | zero =>
      intro k hk 
      refine g_iload_n dX1_advance_2 rfl rfl ?_
      refine g_bipush (x := 60) dX1_advance_3 (by decide) ?_
      refine g_icmp_ge (tgt := 42) dX1_advance_5 (by decide) (fun c5 => ?_) (fun c5 => absurd c5 (by omega))
      exact g_vret dX1_advance_42 rfl ⟨rfl, by rw [show k = 60 by omega]⟩
    | succ m ih =>
      intro k hk 
      refine g_iload_n dX1_advance_2 rfl rfl ?_
      refine g_bipush (x := 60) dX1_advance_3 (by decide) ?_
      refine g_icmp_ge (tgt := 42) dX1_advance_5 (by decide) (fun c5 => absurd c5 (by omega)) (fun c5 => ?_)
      refine g_aload_n dX1_advance_8 rfl rfl ?_
      refine p_getR (o := some 3) dX1_advance_9 (fX1_11 l) (by decide) rfl (by omega) rfl ?_
      refine g_iload_n dX1_advance_12 rfl rfl ?_
      refine p_aald (ci := 0) (len := 60) (o := some (4 + k)) (kc0 l) dX1_advance_13 rfl (by omega) (by omega) (by omega) (rr_cab (by omega)) ?_
      refine c_getI (x := C (4 + k) 1) dX1_advance_14 (fX1_20 l) rfl (T0_cab (by omega) (by omega)) (by omega) sAdv_at ?_
      refine g_iconst (x := 3) dX1_advance_17 (by decide) ?_
      refine g_icmp_ne (tgt := 36) dX1_advance_18 (by decide) (fun c18 => ?_) (fun c18 => ?_)
      · refine e_iinc (v := ((k + 1 : Nat) : Int)) (loc' := [gR (some 2), gI step, gI (((k + 1 : Nat) : Int))]) dX1_advance_36 (by decide) rfl (gadd_nat (by omega)) rfl ?_
        refine g_goto (tgt := 2) dX1_advance_39 (by decide) ?_
        refine g_eq rfl (by rw [sAdv_skip c18]) (ih (k + 1) (by omega))
      · refine g_aload_n dX1_advance_21 rfl rfl ?_
        refine p_getR (o := some 3) dX1_advance_22 (fX1_11 l) (by decide) rfl (by omega) rfl ?_
        refine g_iload_n dX1_advance_25 rfl rfl ?_
        refine p_aald (ci := 0) (len := 60) (o := some (4 + k)) (kc0 l) dX1_advance_26 rfl (by omega) (by omega) (by omega) (rr_cab (by omega)) ?_
        refine g_dupR dX1_advance_27 ?_
        refine c_getI (x := C (4 + k) 4) dX1_advance_28 (fX1_27 l) rfl (T0_cab (by omega) (by omega)) (by omega) sAdv_at ?_
        refine g_iload_n dX1_advance_31 rfl rfl ?_
        refine e_iadd (v := gadd (C (4 + k) 4) step) dX1_advance_32 rfl ?_
        refine c_putI dX1_advance_33 (fX1_27 l) gTX0 ⟨rfl, rfl⟩ rfl (T0_cab (by omega) (by omega)) (by omega) (by omega) ?_
        refine e_iinc (v := ((k + 1 : Nat) : Int)) (loc' := [gR (some 2), gI step, gI (((k + 1 : Nat) : Int))]) dX1_advance_36 (by decide) rfl (gadd_nat (by omega)) rfl ?_
        refine g_goto (tgt := 2) dX1_advance_39 (by decide) ?_
        refine g_eq rfl (by rw [← sAdv_put c18]) (ih (k + 1) (by omega))
  refine g_iconst (x := 0) dX1_advance_0 (by decide) ?_
  refine e_istore_n (loc' := [gR (some 2), gI step, gI 0]) dX1_advance_1 rfl (by decide) rfl ?_
  exact g_eq rfl (by rw [sAdv_0]) (loop 60 0 (by omega))
set_option maxHeartbeats 1000000 in
theorem cX1_isClear (l : Launch) {L : Nat} {C M : Nat → Nat → Int} {Z : Nat → Nat → Option Nat} {R : Nat → Option Nat} {s d : Int} : gMi (gπ l) mX1_isClear yX1_isClear [gR (some 2), gI s, gI d] (hq L C M Z R) (if anyTo (fun j => decide (C (4 + j) 1 = 3 ∧ C (4 + j) 2 = s ∧ C (4 + j) 4 < d)) 60 = true then 0 else 1) (hq L C M Z R) := by
  refine gMet_of pnX1 rfl rfl rfl (Nat.le_of_ble_eq_true rfl) (gAr (gAi (gAi gAn))) ?_
  show G (gπ l) mX1_isClear 0 [gR (some 2), gI s, gI d, gU] [] (hq L C M Z R) 0 0 _
  have loop : ∀ (m k : Nat), k + m = 60 → anyTo (fun j => decide (C (4 + j) 1 = 3 ∧ C (4 + j) 2 = s ∧ C (4 + j) 4 < d)) k = false → G (gπ l) mX1_isClear 2 [gR (some 2), gI s, gI d, gI (k : Int)] [] (hq L C M Z R) 0 0 (fun r k => r = some (some (gI (if anyTo (fun j => decide (C (4 + j) 1 = 3 ∧ C (4 + j) 2 = s ∧ C (4 + j) 4 < d)) 60 = true then 0 else 1))) ∧ k = (hq L C M Z R)) := by
    intro m
    induction m with
    | zero =>
      intro k hk hno
      refine g_iload_n dX1_isClear_2 rfl rfl ?_
      refine g_bipush (x := 60) dX1_isClear_3 (by decide) ?_
      refine g_icmp_ge (tgt := 42) dX1_isClear_5 (by decide) (fun c5 => ?_) (fun c5 => absurd c5 (by omega))
      refine g_iconst (x := 1) dX1_isClear_42 (by decide) ?_
      exact g_iret dX1_isClear_43 (Or.inr ⟨rfl, Or.inr rfl⟩) ⟨congrArg gK1 (by rw [show k = 60 by omega] at hno; rw [hno]; rfl), rfl⟩
    | succ m ih =>
      intro k hk hno
      refine g_iload_n dX1_isClear_2 rfl rfl ?_
      refine g_bipush (x := 60) dX1_isClear_3 (by decide) ?_
      refine g_icmp_ge (tgt := 42) dX1_isClear_5 (by decide) (fun c5 => absurd c5 (by omega)) (fun c5 => ?_)
      refine g_aload_n dX1_isClear_8 rfl rfl ?_
      refine p_getR (o := some 3) dX1_isClear_9 (fX1_11 l) (by decide) rfl (by omega) rfl ?_
      refine g_iload_n dX1_isClear_12 rfl rfl ?_
      refine p_aald (ci := 0) (len := 60) (o := some (4 + k)) (kc0 l) dX1_isClear_13 rfl (by omega) (by omega) (by omega) (rr_cab (by omega)) ?_
      refine g_iload_n dX1_isClear_14 rfl rfl ?_
      refine g_Si2 dX1_isClear_15 (sX1_isClear_15 l) (Nat.le_of_ble_eq_true rfl) (cX1_hasLeft l (by omega) (by omega)) ?_
      refine g_if_eq (tgt := 36) dX1_isClear_18 (by decide) (fun c18 => ?_) (fun c18 => ?_)
      · refine e_iinc (v := ((k + 1 : Nat) : Int)) (loc' := [gR (some 2), gI s, gI d, gI (((k + 1 : Nat) : Int))]) dX1_isClear_36 (by decide) rfl (gadd_nat (by omega)) rfl ?_
        refine g_goto (tgt := 2) dX1_isClear_39 (by decide) ?_
        refine ih (k + 1) (by omega) ?_
        unfold anyTo
        rw [hno, Bool.false_or]
        refine decide_eq_false (fun z => ?_)
        first | (rw [if_pos z.1, if_pos z.2.1] at c18; omega) | omega
      · refine g_aload_n dX1_isClear_21 rfl rfl ?_
        refine p_getR (o := some 3) dX1_isClear_22 (fX1_11 l) (by decide) rfl (by omega) rfl ?_
        refine g_iload_n dX1_isClear_25 rfl rfl ?_
        refine p_aald (ci := 0) (len := 60) (o := some (4 + k)) (kc0 l) dX1_isClear_26 rfl (by omega) (by omega) (by omega) (rr_cab (by omega)) ?_
        refine c_getI (x := C (4 + k) 4) dX1_isClear_27 (fX1_27 l) rfl (T0_cab (by omega) (by omega)) (by omega) rfl ?_
        refine g_iload_n dX1_isClear_30 rfl rfl ?_
        refine g_icmp_ge (tgt := 36) dX1_isClear_31 (by decide) (fun c31 => ?_) (fun c31 => ?_)
        · refine e_iinc (v := ((k + 1 : Nat) : Int)) (loc' := [gR (some 2), gI s, gI d, gI (((k + 1 : Nat) : Int))]) dX1_isClear_36 (by decide) rfl (gadd_nat (by omega)) rfl ?_
          refine g_goto (tgt := 2) dX1_isClear_39 (by decide) ?_
          refine ih (k + 1) (by omega) ?_
          unfold anyTo
          rw [hno, Bool.false_or]
          refine decide_eq_false (fun z => ?_)
          first | (rw [if_pos z.1, if_pos z.2.1] at c18; omega) | omega
        · refine g_iconst (x := 0) dX1_isClear_34 (by decide) ?_
          exact g_iret dX1_isClear_35 (Or.inr ⟨rfl, Or.inl rfl⟩) ⟨congrArg gK1 (by rw [if_pos ((anyTo_iff 60).mpr ⟨k, by omega, decide_eq_true (by split at c18; (split at c18; exact ⟨‹_›, ‹_›, by omega⟩; omega); omega)⟩)]), rfl⟩
  refine g_iconst (x := 0) dX1_isClear_0 (by decide) ?_
  refine e_istore_n (loc' := [gR (some 2), gI s, gI d, gI 0]) dX1_isClear_1 rfl (by decide) rfl ?_
  exact loop 60 0 (by omega) rfl
set_option maxHeartbeats 1000000 in
theorem cX1_hasNearEnd (l : Launch) {L : Nat} {C M : Nat → Nat → Int} {Z : Nat → Nat → Option Nat} {R : Nat → Option Nat} {s : Int} : gMi (gπ l) mX1_hasNearEnd yX1_hasNearEnd [gR (some 2), gI s] (hq L C M Z R) (if anyTo (fun j => decide (C (4 + j) 1 = 3 ∧ C (4 + j) 2 = s ∧ 5640 ≤ C (4 + j) 4)) 60 = true then 1 else 0) (hq L C M Z R) := by
  refine gMet_of pnX1 rfl rfl rfl (Nat.le_of_ble_eq_true rfl) (gAr (gAi gAn)) ?_
  show G (gπ l) mX1_hasNearEnd 0 [gR (some 2), gI s, gU] [] (hq L C M Z R) 0 0 _
  have loop : ∀ (m k : Nat), k + m = 60 → anyTo (fun j => decide (C (4 + j) 1 = 3 ∧ C (4 + j) 2 = s ∧ 5640 ≤ C (4 + j) 4)) k = false → G (gπ l) mX1_hasNearEnd 2 [gR (some 2), gI s, gI (k : Int)] [] (hq L C M Z R) 0 0 (fun r k => r = some (some (gI (if anyTo (fun j => decide (C (4 + j) 1 = 3 ∧ C (4 + j) 2 = s ∧ 5640 ≤ C (4 + j) 4)) 60 = true then 1 else 0))) ∧ k = (hq L C M Z R)) := by
    intro m
    induction m with
    | zero =>
      intro k hk hno
      refine g_iload_n dX1_hasNearEnd_2 rfl rfl ?_
      refine g_bipush (x := 60) dX1_hasNearEnd_3 (by decide) ?_
      refine g_icmp_ge (tgt := 44) dX1_hasNearEnd_5 (by decide) (fun c5 => ?_) (fun c5 => absurd c5 (by omega))
      refine g_iconst (x := 0) dX1_hasNearEnd_44 (by decide) ?_
      exact g_iret dX1_hasNearEnd_45 (Or.inr ⟨rfl, Or.inl rfl⟩) ⟨congrArg gK1 (by rw [show k = 60 by omega] at hno; rw [hno]; rfl), rfl⟩
    | succ m ih =>
      intro k hk hno
      refine g_iload_n dX1_hasNearEnd_2 rfl rfl ?_
      refine g_bipush (x := 60) dX1_hasNearEnd_3 (by decide) ?_
      refine g_icmp_ge (tgt := 44) dX1_hasNearEnd_5 (by decide) (fun c5 => absurd c5 (by omega)) (fun c5 => ?_)
      refine g_aload_n dX1_hasNearEnd_8 rfl rfl ?_
      refine p_getR (o := some 3) dX1_hasNearEnd_9 (fX1_11 l) (by decide) rfl (by omega) rfl ?_
      refine g_iload_n dX1_hasNearEnd_12 rfl rfl ?_
      refine p_aald (ci := 0) (len := 60) (o := some (4 + k)) (kc0 l) dX1_hasNearEnd_13 rfl (by omega) (by omega) (by omega) (rr_cab (by omega)) ?_
      refine g_iload_n dX1_hasNearEnd_14 rfl rfl ?_
      refine g_Si2 dX1_hasNearEnd_15 (sX1_hasNearEnd_15 l) (Nat.le_of_ble_eq_true rfl) (cX1_hasLeft l (by omega) (by omega)) ?_
      refine g_if_eq (tgt := 38) dX1_hasNearEnd_18 (by decide) (fun c18 => ?_) (fun c18 => ?_)
      · refine e_iinc (v := ((k + 1 : Nat) : Int)) (loc' := [gR (some 2), gI s, gI (((k + 1 : Nat) : Int))]) dX1_hasNearEnd_38 (by decide) rfl (gadd_nat (by omega)) rfl ?_
        refine g_goto (tgt := 2) dX1_hasNearEnd_41 (by decide) ?_
        refine ih (k + 1) (by omega) ?_
        unfold anyTo
        rw [hno, Bool.false_or]
        refine decide_eq_false (fun z => ?_)
        first | (rw [if_pos z.1, if_pos z.2.1] at c18; omega) | omega
      · refine g_aload_n dX1_hasNearEnd_21 rfl rfl ?_
        refine p_getR (o := some 3) dX1_hasNearEnd_22 (fX1_11 l) (by decide) rfl (by omega) rfl ?_
        refine g_iload_n dX1_hasNearEnd_25 rfl rfl ?_
        refine p_aald (ci := 0) (len := 60) (o := some (4 + k)) (kc0 l) dX1_hasNearEnd_26 rfl (by omega) (by omega) (by omega) (rr_cab (by omega)) ?_
        refine c_getI (x := C (4 + k) 4) dX1_hasNearEnd_27 (fX1_27 l) rfl (T0_cab (by omega) (by omega)) (by omega) rfl ?_
        refine g_sipush (x := 5640) dX1_hasNearEnd_30 (by decide) ?_
        refine g_icmp_lt (tgt := 38) dX1_hasNearEnd_33 (by decide) (fun c33 => ?_) (fun c33 => ?_)
        · refine e_iinc (v := ((k + 1 : Nat) : Int)) (loc' := [gR (some 2), gI s, gI (((k + 1 : Nat) : Int))]) dX1_hasNearEnd_38 (by decide) rfl (gadd_nat (by omega)) rfl ?_
          refine g_goto (tgt := 2) dX1_hasNearEnd_41 (by decide) ?_
          refine ih (k + 1) (by omega) ?_
          unfold anyTo
          rw [hno, Bool.false_or]
          refine decide_eq_false (fun z => ?_)
          first | (rw [if_pos z.1, if_pos z.2.1] at c18; omega) | omega
        · refine g_iconst (x := 1) dX1_hasNearEnd_36 (by decide) ?_
          exact g_iret dX1_hasNearEnd_37 (Or.inr ⟨rfl, Or.inr rfl⟩) ⟨congrArg gK1 (by rw [if_pos ((anyTo_iff 60).mpr ⟨k, by omega, decide_eq_true (by split at c18; (split at c18; exact ⟨‹_›, ‹_›, by omega⟩; omega); omega)⟩)]), rfl⟩
  refine g_iconst (x := 0) dX1_hasNearEnd_0 (by decide) ?_
  refine e_istore_n (loc' := [gR (some 2), gI s, gI 0]) dX1_hasNearEnd_1 rfl (by decide) rfl ?_
  exact loop 60 0 (by omega) rfl
