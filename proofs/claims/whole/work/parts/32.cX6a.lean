/-! contracts: the reference, first half -/
set_option maxHeartbeats 1000000 in
theorem cX6_thrown (l : Launch) {L : Nat} {S : sT} {M : Nat → Nat → Int}  : gMi (gπ l) mX6_thrown yX6_thrown [gR (some 74)] (hS L S M) (M 74 0) (hS L S M) := by
  refine gMet_of pnX6 rfl rfl rfl (Nat.le_of_ble_eq_true rfl) (gAr gAn) ?_
  show G (gπ l) mX6_thrown 0 [gR (some 74)] [] (hS L S M) 0 0 _
  refine g_aload_n dX6_thrown_0 rfl rfl ?_
  refine m_getI (x := M 74 0) dX6_thrown_1 (fX6_47 l) rfl rfl ⟨by omega, by omega⟩ rfl ?_
  exact g_iret dX6_thrown_4 (Or.inl rfl) ⟨rfl, rfl⟩
set_option maxHeartbeats 1000000 in
theorem cX6_fails (l : Launch) {L : Nat} {S : sT} {M : Nat → Nat → Int} {b : Int} (hb : b = 0 ∨ b = 1) : gMi (gπ l) mX6_fails yX6_fails [gR (some 74), gI b] (hS L S M) (b) (hS L S (up M 74 0 b)) := by
  refine gMet_of pnX6 rfl rfl rfl (Nat.le_of_ble_eq_true rfl) (gAr (gAi gAn)) ?_
  show G (gπ l) mX6_fails 0 [gR (some 74), gI b] [] (hS L S M) 0 0 _
  refine g_aload_n dX6_fails_0 rfl rfl ?_
  refine g_iload_n dX6_fails_1 rfl rfl ?_
  refine g_if_eq (tgt := 9) dX6_fails_2 (by decide) (fun c2 => ?_) (fun c2 => ?_)
  · refine g_iconst (x := 0) dX6_fails_9 (by decide) ?_
    refine m_putI dX6_fails_10 (fX6_47 l) gTX6 ⟨rfl, rfl⟩ rfl rfl ⟨by omega, by omega⟩ ?_
    refine g_iload_n dX6_fails_13 rfl rfl ?_
    exact g_iret dX6_fails_14 (Or.inr ⟨rfl, hb⟩) ⟨rfl, by rw [show b = 0 by omega]⟩
  · refine g_iconst (x := 1) dX6_fails_5 (by decide) ?_
    refine g_goto (tgt := 10) dX6_fails_6 (by decide) ?_
    refine m_putI dX6_fails_10 (fX6_47 l) gTX6 ⟨rfl, rfl⟩ rfl rfl ⟨by omega, by omega⟩ ?_
    refine g_iload_n dX6_fails_13 rfl rfl ?_
    exact g_iret dX6_fails_14 (Or.inr ⟨rfl, hb⟩) ⟨rfl, by rw [show b = 1 by omega]⟩
set_option maxHeartbeats 1000000 in
theorem cX6_isIn (l : Launch) {L : Nat} {S : sT} {M : Nat → Nat → Int} {v a b : Int} : gMi (gπ l) mX6_isIn yX6_isIn [gI v, gI a, gI b] (hS L S M) (if a ≤ v ∧ v ≤ b then 1 else 0) (hS L S M) := by
  refine gMet_of pnX6 rfl rfl rfl (Nat.le_of_ble_eq_true rfl) (gAi (gAi (gAi gAn))) ?_
  show G (gπ l) mX6_isIn 0 [gI v, gI a, gI b] [] (hS L S M) 0 0 _
  refine g_iload_n dX6_isIn_0 rfl rfl ?_
  refine g_iload_n dX6_isIn_1 rfl rfl ?_
  refine g_icmp_lt (tgt := 14) dX6_isIn_2 (by decide) (fun c2 => ?_) (fun c2 => ?_)
  · refine g_iconst (x := 0) dX6_isIn_14 (by decide) ?_
    exact g_iret dX6_isIn_15 (Or.inr ⟨rfl, Or.inl rfl⟩) ⟨congrArg gK1 (by first | rw [if_pos ⟨by omega, by omega⟩] | rw [if_neg (by omega)]), rfl⟩
  · refine g_iload_n dX6_isIn_5 rfl rfl ?_
    refine g_iload_n dX6_isIn_6 rfl rfl ?_
    refine g_icmp_gt (tgt := 14) dX6_isIn_7 (by decide) (fun c7 => ?_) (fun c7 => ?_)
    · refine g_iconst (x := 0) dX6_isIn_14 (by decide) ?_
      exact g_iret dX6_isIn_15 (Or.inr ⟨rfl, Or.inl rfl⟩) ⟨congrArg gK1 (by first | rw [if_pos ⟨by omega, by omega⟩] | rw [if_neg (by omega)]), rfl⟩
    · refine g_iconst (x := 1) dX6_isIn_10 (by decide) ?_
      refine g_goto (tgt := 15) dX6_isIn_11 (by decide) ?_
      exact g_iret dX6_isIn_15 (Or.inr ⟨rfl, Or.inr rfl⟩) ⟨congrArg gK1 (by first | rw [if_pos ⟨by omega, by omega⟩] | rw [if_neg (by omega)]), rfl⟩
theorem ite01 {p : Prop} {_ : Decidable p} : (if p then (1 : Int) else 0) = 0 ∨ (if p then (1 : Int) else 0) = 1 := by split <;> simp
set_option maxHeartbeats 1000000 in
theorem cX6_isCabin (l : Launch) {L : Nat} {S : sT} {M : Nat → Nat → Int} {v : Int} : gMi (gπ l) mX6_isCabin yX6_isCabin [gI v] (hS L S M) (if 0 ≤ v ∧ v ≤ 59 then 1 else 0) (hS L S M) := by
  refine gMet_of pnX6 rfl rfl rfl (Nat.le_of_ble_eq_true rfl) (gAi gAn) ?_
  show G (gπ l) mX6_isCabin 0 [gI v] [] (hS L S M) 0 0 _
  refine g_iload_n dX6_isCabin_0 rfl rfl ?_
  refine g_iconst (x := 0) dX6_isCabin_1 (by decide) ?_
  refine g_bipush (x := 59) dX6_isCabin_2 (by decide) ?_
  refine g_Si3 dX6_isCabin_4 (sX6_isCabin_4 l) (Nat.le_of_ble_eq_true rfl) (cX6_isIn l) ?_
  exact g_iret dX6_isCabin_7 (Or.inr ⟨rfl, ite01⟩) ⟨rfl, rfl⟩
set_option maxHeartbeats 1000000 in
theorem cX6_isStation (l : Launch) {L : Nat} {S : sT} {M : Nat → Nat → Int} {v : Int} : gMi (gπ l) mX6_isStation yX6_isStation [gI v] (hS L S M) (if 0 ≤ v ∧ v ≤ 1 then 1 else 0) (hS L S M) := by
  refine gMet_of pnX6 rfl rfl rfl (Nat.le_of_ble_eq_true rfl) (gAi gAn) ?_
  show G (gπ l) mX6_isStation 0 [gI v] [] (hS L S M) 0 0 _
  refine g_iload_n dX6_isStation_0 rfl rfl ?_
  refine g_iconst (x := 0) dX6_isStation_1 (by decide) ?_
  refine g_iconst (x := 1) dX6_isStation_2 (by decide) ?_
  refine g_Si3 dX6_isStation_3 (sX6_isStation_3 l) (Nat.le_of_ble_eq_true rfl) (cX6_isIn l) ?_
  exact g_iret dX6_isStation_6 (Or.inr ⟨rfl, ite01⟩) ⟨rfl, rfl⟩
set_option maxHeartbeats 1000000 in
theorem cX6_in (l : Launch) {L : Nat} {S : sT} {M : Nat → Nat → Int} {s z : Int} : gMi (gπ l) mX6_in yX6_in [gR (some 74), gI s, gI z] (hS L S M) (xIn M s z) (hS L S M) := by
  refine gMet_of pnX6 rfl rfl rfl (Nat.le_of_ble_eq_true rfl) (gAr (gAi (gAi gAn))) ?_
  show G (gπ l) mX6_in 0 [gR (some 74), gI s, gI z, gU] [] (hS L S M) 0 0 _
  have loop : ∀ (m k : Nat), k + m = 60 → G (gπ l) mX6_in 2 [gR (some 74), gI s, gI z, gI (k : Int)] [] (hS L S M) 0 0 (fun r k9 => r = some (some (gI (fstFrom (fun c => decide (M 75 c = 2 ∧ M 77 c = s ∧ M 76 c = z)) m k))) ∧ k9 = (hS L S M)) := by
    intro m
    induction m with
    | zero =>
      intro k hk 
      refine g_iload_n dX6_in_2 rfl rfl ?_
      refine g_bipush (x := 60) dX6_in_3 (by decide) ?_
      refine g_icmp_ge (tgt := 46) dX6_in_5 (by decide) (fun c5 => ?_) (fun c5 => absurd c5 (by omega))
      refine g_iconst (x := -1) dX6_in_46 (by decide) ?_
      exact g_iret dX6_in_47 (Or.inl rfl) ⟨rfl, rfl⟩
    | succ m ih =>
      intro k hk 
      refine g_iload_n dX6_in_2 rfl rfl ?_
      refine g_bipush (x := 60) dX6_in_3 (by decide) ?_
      refine g_icmp_ge (tgt := 46) dX6_in_5 (by decide) (fun c5 => absurd c5 (by omega)) (fun c5 => ?_)
      refine g_aload_n dX6_in_8 rfl rfl ?_
      refine p_getR (o := some 75) dX6_in_9 (fX6_7 l) (by decide) rfl (by omega) rfl ?_
      refine g_iload_n dX6_in_12 rfl rfl ?_
      refine m_iald (len := 60) (x := M 75 k) dX6_in_13 rfl ⟨by omega, by omega⟩ (by omega) (by omega) rfl ?_
      refine g_iconst (x := 2) dX6_in_14 (by decide) ?_
      refine g_icmp_ne (tgt := 40) dX6_in_15 (by decide) (fun c15 => ?_) (fun c15 => ?_)
      · refine e_iinc (v := ((k + 1 : Nat) : Int)) (loc' := [gR (some 74), gI s, gI z, gI (((k + 1 : Nat) : Int))]) dX6_in_40 (by decide) rfl (gadd_nat (by omega)) rfl ?_
        refine g_goto (tgt := 2) dX6_in_43 (by decide) ?_
        rw [show fstFrom (fun c => decide (M 75 c = 2 ∧ M 77 c = s ∧ M 76 c = z)) (m + 1) k = fstFrom (fun c => decide (M 75 c = 2 ∧ M 77 c = s ∧ M 76 c = z)) m (k + 1) from by rw [fstFrom, if_neg (by simp only [decide_eq_true_eq]; omega)]]
        exact ih (k + 1) (by omega)
      · refine g_aload_n dX6_in_18 rfl rfl ?_
        refine p_getR (o := some 77) dX6_in_19 (fX6_16 l) (by decide) rfl (by omega) rfl ?_
        refine g_iload_n dX6_in_22 rfl rfl ?_
        refine m_iald (len := 60) (x := M 77 k) dX6_in_23 rfl ⟨by omega, by omega⟩ (by omega) (by omega) rfl ?_
        refine g_iload_n dX6_in_24 rfl rfl ?_
        refine g_icmp_ne (tgt := 40) dX6_in_25 (by decide) (fun c25 => ?_) (fun c25 => ?_)
        · refine e_iinc (v := ((k + 1 : Nat) : Int)) (loc' := [gR (some 74), gI s, gI z, gI (((k + 1 : Nat) : Int))]) dX6_in_40 (by decide) rfl (gadd_nat (by omega)) rfl ?_
          refine g_goto (tgt := 2) dX6_in_43 (by decide) ?_
          rw [show fstFrom (fun c => decide (M 75 c = 2 ∧ M 77 c = s ∧ M 76 c = z)) (m + 1) k = fstFrom (fun c => decide (M 75 c = 2 ∧ M 77 c = s ∧ M 76 c = z)) m (k + 1) from by rw [fstFrom, if_neg (by simp only [decide_eq_true_eq]; omega)]]
          exact ih (k + 1) (by omega)
        · refine g_aload_n dX6_in_28 rfl rfl ?_
          refine p_getR (o := some 76) dX6_in_29 (fX6_13 l) (by decide) rfl (by omega) rfl ?_
          refine g_iload_n dX6_in_32 rfl rfl ?_
          refine m_iald (len := 60) (x := M 76 k) dX6_in_33 rfl ⟨by omega, by omega⟩ (by omega) (by omega) rfl ?_
          refine g_iload_n dX6_in_34 rfl rfl ?_
          refine g_icmp_ne (tgt := 40) dX6_in_35 (by decide) (fun c35 => ?_) (fun c35 => ?_)
          · refine e_iinc (v := ((k + 1 : Nat) : Int)) (loc' := [gR (some 74), gI s, gI z, gI (((k + 1 : Nat) : Int))]) dX6_in_40 (by decide) rfl (gadd_nat (by omega)) rfl ?_
            refine g_goto (tgt := 2) dX6_in_43 (by decide) ?_
            rw [show fstFrom (fun c => decide (M 75 c = 2 ∧ M 77 c = s ∧ M 76 c = z)) (m + 1) k = fstFrom (fun c => decide (M 75 c = 2 ∧ M 77 c = s ∧ M 76 c = z)) m (k + 1) from by rw [fstFrom, if_neg (by simp only [decide_eq_true_eq]; omega)]]
            exact ih (k + 1) (by omega)
          · refine g_iload_n dX6_in_38 rfl rfl ?_
            exact g_iret dX6_in_39 (Or.inl rfl) ⟨congrArg gK1 (by rw [fstFrom, if_pos (by simp only [decide_eq_true_eq]; omega)]), rfl⟩
  refine g_iconst (x := 0) dX6_in_0 (by decide) ?_
  refine e_istore_n (loc' := [gR (some 74), gI s, gI z, gI 0]) dX6_in_1 rfl (by decide) rfl ?_
  exact loop 60 0 (by omega)
set_option maxHeartbeats 1000000 in
theorem cX6_many (l : Launch) {L : Nat} {S : sT} {M : Nat → Nat → Int} {p : Int} : gMi (gπ l) mX6_many yX6_many [gR (some 74), gI p] (hS L S M) (cntTo (fun c => decide (M 75 c = p)) 60) (hS L S M) := by
  refine gMet_of pnX6 rfl rfl rfl (Nat.le_of_ble_eq_true rfl) (gAr (gAi gAn)) ?_
  show G (gπ l) mX6_many 0 [gR (some 74), gI p, gU, gU] [] (hS L S M) 0 0 _
  have loop : ∀ (m k : Nat), k + m = 60 → G (gπ l) mX6_many 4 [gR (some 74), gI p, gI (cntTo (fun c => decide (M 75 c = p)) k), gI (k : Int)] [] (hS L S M) 0 0 (fun r k => r = some (some (gI (cntTo (fun c => decide (M 75 c = p)) 60))) ∧ k = (hS L S M)) := by
    intro m
    induction m with
    | zero =>
      intro k hk 
      refine g_iload_n dX6_many_4 rfl rfl ?_
      refine g_bipush (x := 60) dX6_many_5 (by decide) ?_
      refine g_icmp_ge (tgt := 34) dX6_many_7 (by decide) (fun c7 => ?_) (fun c7 => absurd c7 (by omega))
      refine g_iload_n dX6_many_34 rfl rfl ?_
      exact g_iret dX6_many_35 (Or.inl rfl) ⟨by rw [show k = 60 by omega], rfl⟩
    | succ m ih =>
      intro k hk 
      refine g_iload_n dX6_many_4 rfl rfl ?_
      refine g_bipush (x := 60) dX6_many_5 (by decide) ?_
      refine g_icmp_ge (tgt := 34) dX6_many_7 (by decide) (fun c7 => absurd c7 (by omega)) (fun c7 => ?_)
      refine g_iload_n dX6_many_10 rfl rfl ?_
      refine g_aload_n dX6_many_11 rfl rfl ?_
      refine p_getR (o := some 75) dX6_many_12 (fX6_7 l) (by decide) rfl (by omega) rfl ?_
      refine g_iload_n dX6_many_15 rfl rfl ?_
      refine m_iald (len := 60) (x := M 75 k) dX6_many_16 rfl ⟨by omega, by omega⟩ (by omega) (by omega) rfl ?_
      refine g_iload_n dX6_many_17 rfl rfl ?_
      refine g_icmp_ne (tgt := 25) dX6_many_18 (by decide) (fun c18 => ?_) (fun c18 => ?_)
      · refine g_iconst (x := 0) dX6_many_25 (by decide) ?_
        refine e_iadd (v := cntTo (fun c => decide (M 75 c = p)) k + 0) dX6_many_26 (gadd_eq (by have := cntTo_nn (p := (fun c => decide (M 75 c = p))) k; omega) (by have := cntTo_nn (p := (fun c => decide (M 75 c = p))) k; omega)) ?_
        refine e_istore_n (loc' := [gR (some 74), gI p, gI (cntTo (fun c => decide (M 75 c = p)) k + 0), gI (k : Int)]) dX6_many_27 rfl (by decide) rfl ?_
        refine e_iinc (v := ((k + 1 : Nat) : Int)) (loc' := [gR (some 74), gI p, gI (cntTo (fun c => decide (M 75 c = p)) k + 0), gI (((k + 1 : Nat) : Int))]) dX6_many_28 (by decide) rfl (gadd_nat (by omega)) rfl ?_
        refine g_goto (tgt := 4) dX6_many_31 (by decide) ?_
        refine g_eq (loc' := [gR (some 74), gI p, gI (cntTo (fun c => decide (M 75 c = p)) (k + 1)), gI ((k + 1 : Nat) : Int)]) ?_ rfl (ih (k + 1) (by omega))
        first | simp [cntTo, c18]
      · refine g_iconst (x := 1) dX6_many_21 (by decide) ?_
        refine g_goto (tgt := 26) dX6_many_22 (by decide) ?_
        refine e_iadd (v := cntTo (fun c => decide (M 75 c = p)) k + 1) dX6_many_26 (gadd_eq (by have := cntTo_nn (p := (fun c => decide (M 75 c = p))) k; omega) (by have := cntTo_nn (p := (fun c => decide (M 75 c = p))) k; omega)) ?_
        refine e_istore_n (loc' := [gR (some 74), gI p, gI (cntTo (fun c => decide (M 75 c = p)) k + 1), gI (k : Int)]) dX6_many_27 rfl (by decide) rfl ?_
        refine e_iinc (v := ((k + 1 : Nat) : Int)) (loc' := [gR (some 74), gI p, gI (cntTo (fun c => decide (M 75 c = p)) k + 1), gI (((k + 1 : Nat) : Int))]) dX6_many_28 (by decide) rfl (gadd_nat (by omega)) rfl ?_
        refine g_goto (tgt := 4) dX6_many_31 (by decide) ?_
        refine g_eq (loc' := [gR (some 74), gI p, gI (cntTo (fun c => decide (M 75 c = p)) (k + 1)), gI ((k + 1 : Nat) : Int)]) ?_ rfl (ih (k + 1) (by omega))
        first | simp [cntTo, c18]
  refine g_iconst (x := 0) dX6_many_0 (by decide) ?_
  refine e_istore_n (loc' := [gR (some 74), gI p, gI 0, gU]) dX6_many_1 rfl (by decide) rfl ?_
  refine g_iconst (x := 0) dX6_many_2 (by decide) ?_
  refine e_istore_n (loc' := [gR (some 74), gI p, gI 0, gI 0]) dX6_many_3 rfl (by decide) rfl ?_
  exact loop 60 0 (by omega)
set_option maxHeartbeats 1000000 in
theorem cX6_inZones (l : Launch) {L : Nat} {S : sT} {M : Nat → Nat → Int} {s : Int} : gMi (gπ l) mX6_inZones yX6_inZones [gR (some 74), gI s] (hS L S M) (xCnt M s) (hS L S M) := by
  refine gMet_of pnX6 rfl rfl rfl (Nat.le_of_ble_eq_true rfl) (gAr (gAi gAn)) ?_
  show G (gπ l) mX6_inZones 0 [gR (some 74), gI s, gU, gU] [] (hS L S M) 0 0 _
  have loop : ∀ (m k : Nat), k + m = 60 → G (gπ l) mX6_inZones 4 [gR (some 74), gI s, gI (cntTo (fun c => decide (M 75 c = 2 ∧ M 77 c = s)) k), gI (k : Int)] [] (hS L S M) 0 0 (fun r k => r = some (some (gI (cntTo (fun c => decide (M 75 c = 2 ∧ M 77 c = s)) 60))) ∧ k = (hS L S M)) := by
    intro m
    induction m with
    | zero =>
      intro k hk 
      refine g_iload_n dX6_inZones_4 rfl rfl ?_
      refine g_bipush (x := 60) dX6_inZones_5 (by decide) ?_
      refine g_icmp_ge (tgt := 44) dX6_inZones_7 (by decide) (fun c7 => ?_) (fun c7 => absurd c7 (by omega))
      refine g_iload_n dX6_inZones_44 rfl rfl ?_
      exact g_iret dX6_inZones_45 (Or.inl rfl) ⟨by rw [show k = 60 by omega], rfl⟩
    | succ m ih =>
      intro k hk 
      refine g_iload_n dX6_inZones_4 rfl rfl ?_
      refine g_bipush (x := 60) dX6_inZones_5 (by decide) ?_
      refine g_icmp_ge (tgt := 44) dX6_inZones_7 (by decide) (fun c7 => absurd c7 (by omega)) (fun c7 => ?_)
      refine g_iload_n dX6_inZones_10 rfl rfl ?_
      refine g_aload_n dX6_inZones_11 rfl rfl ?_
      refine p_getR (o := some 75) dX6_inZones_12 (fX6_7 l) (by decide) rfl (by omega) rfl ?_
      refine g_iload_n dX6_inZones_15 rfl rfl ?_
      refine m_iald (len := 60) (x := M 75 k) dX6_inZones_16 rfl ⟨by omega, by omega⟩ (by omega) (by omega) rfl ?_
      refine g_iconst (x := 2) dX6_inZones_17 (by decide) ?_
      refine g_icmp_ne (tgt := 35) dX6_inZones_18 (by decide) (fun c18 => ?_) (fun c18 => ?_)
      · refine g_iconst (x := 0) dX6_inZones_35 (by decide) ?_
        refine e_iadd (v := cntTo (fun c => decide (M 75 c = 2 ∧ M 77 c = s)) k + 0) dX6_inZones_36 (gadd_eq (by have := cntTo_nn (p := (fun c => decide (M 75 c = 2 ∧ M 77 c = s))) k; omega) (by have := cntTo_nn (p := (fun c => decide (M 75 c = 2 ∧ M 77 c = s))) k; omega)) ?_
        refine e_istore_n (loc' := [gR (some 74), gI s, gI (cntTo (fun c => decide (M 75 c = 2 ∧ M 77 c = s)) k + 0), gI (k : Int)]) dX6_inZones_37 rfl (by decide) rfl ?_
        refine e_iinc (v := ((k + 1 : Nat) : Int)) (loc' := [gR (some 74), gI s, gI (cntTo (fun c => decide (M 75 c = 2 ∧ M 77 c = s)) k + 0), gI (((k + 1 : Nat) : Int))]) dX6_inZones_38 (by decide) rfl (gadd_nat (by omega)) rfl ?_
        refine g_goto (tgt := 4) dX6_inZones_41 (by decide) ?_
        refine g_eq (loc' := [gR (some 74), gI s, gI (cntTo (fun c => decide (M 75 c = 2 ∧ M 77 c = s)) (k + 1)), gI ((k + 1 : Nat) : Int)]) ?_ rfl (ih (k + 1) (by omega))
        first | simp [cntTo, c18, c28] | simp [cntTo, c18]
      · refine g_aload_n dX6_inZones_21 rfl rfl ?_
        refine p_getR (o := some 77) dX6_inZones_22 (fX6_16 l) (by decide) rfl (by omega) rfl ?_
        refine g_iload_n dX6_inZones_25 rfl rfl ?_
        refine m_iald (len := 60) (x := M 77 k) dX6_inZones_26 rfl ⟨by omega, by omega⟩ (by omega) (by omega) rfl ?_
        refine g_iload_n dX6_inZones_27 rfl rfl ?_
        refine g_icmp_ne (tgt := 35) dX6_inZones_28 (by decide) (fun c28 => ?_) (fun c28 => ?_)
        · refine g_iconst (x := 0) dX6_inZones_35 (by decide) ?_
          refine e_iadd (v := cntTo (fun c => decide (M 75 c = 2 ∧ M 77 c = s)) k + 0) dX6_inZones_36 (gadd_eq (by have := cntTo_nn (p := (fun c => decide (M 75 c = 2 ∧ M 77 c = s))) k; omega) (by have := cntTo_nn (p := (fun c => decide (M 75 c = 2 ∧ M 77 c = s))) k; omega)) ?_
          refine e_istore_n (loc' := [gR (some 74), gI s, gI (cntTo (fun c => decide (M 75 c = 2 ∧ M 77 c = s)) k + 0), gI (k : Int)]) dX6_inZones_37 rfl (by decide) rfl ?_
          refine e_iinc (v := ((k + 1 : Nat) : Int)) (loc' := [gR (some 74), gI s, gI (cntTo (fun c => decide (M 75 c = 2 ∧ M 77 c = s)) k + 0), gI (((k + 1 : Nat) : Int))]) dX6_inZones_38 (by decide) rfl (gadd_nat (by omega)) rfl ?_
          refine g_goto (tgt := 4) dX6_inZones_41 (by decide) ?_
          refine g_eq (loc' := [gR (some 74), gI s, gI (cntTo (fun c => decide (M 75 c = 2 ∧ M 77 c = s)) (k + 1)), gI ((k + 1 : Nat) : Int)]) ?_ rfl (ih (k + 1) (by omega))
          first | simp [cntTo, c18, c28] | simp [cntTo, c18]
        · refine g_iconst (x := 1) dX6_inZones_31 (by decide) ?_
          refine g_goto (tgt := 36) dX6_inZones_32 (by decide) ?_
          refine e_iadd (v := cntTo (fun c => decide (M 75 c = 2 ∧ M 77 c = s)) k + 1) dX6_inZones_36 (gadd_eq (by have := cntTo_nn (p := (fun c => decide (M 75 c = 2 ∧ M 77 c = s))) k; omega) (by have := cntTo_nn (p := (fun c => decide (M 75 c = 2 ∧ M 77 c = s))) k; omega)) ?_
          refine e_istore_n (loc' := [gR (some 74), gI s, gI (cntTo (fun c => decide (M 75 c = 2 ∧ M 77 c = s)) k + 1), gI (k : Int)]) dX6_inZones_37 rfl (by decide) rfl ?_
          refine e_iinc (v := ((k + 1 : Nat) : Int)) (loc' := [gR (some 74), gI s, gI (cntTo (fun c => decide (M 75 c = 2 ∧ M 77 c = s)) k + 1), gI (((k + 1 : Nat) : Int))]) dX6_inZones_38 (by decide) rfl (gadd_nat (by omega)) rfl ?_
          refine g_goto (tgt := 4) dX6_inZones_41 (by decide) ?_
          refine g_eq (loc' := [gR (some 74), gI s, gI (cntTo (fun c => decide (M 75 c = 2 ∧ M 77 c = s)) (k + 1)), gI ((k + 1 : Nat) : Int)]) ?_ rfl (ih (k + 1) (by omega))
          first | simp [cntTo, c18, c28] | simp [cntTo, c18]
  refine g_iconst (x := 0) dX6_inZones_0 (by decide) ?_
  refine e_istore_n (loc' := [gR (some 74), gI s, gI 0, gU]) dX6_inZones_1 rfl (by decide) rfl ?_
  refine g_iconst (x := 0) dX6_inZones_2 (by decide) ?_
  refine e_istore_n (loc' := [gR (some 74), gI s, gI 0, gI 0]) dX6_inZones_3 rfl (by decide) rfl ?_
  exact loop 60 0 (by omega)
set_option maxHeartbeats 1000000 in
theorem cX6_enter (l : Launch) {L : Nat} {S : sT} {M : Nat → Nat → Int} {c : Nat} (hc : c < 60) {s z : Int} : gMv (gπ l) mX6_enter yX6_enter [gR (some 74), gI (c : Int), gI s, gI z] (hS L S M) (hS L S (xEnt M c s z)) := by
  refine gMet_of pnX6 rfl rfl rfl (Nat.le_of_ble_eq_true rfl) (gAr (gAi (gAi (gAi gAn)))) ?_
  show G (gπ l) mX6_enter 0 [gR (some 74), gI (c : Int), gI s, gI z] [] (hS L S M) 0 0 _
  refine g_aload_n dX6_enter_0 rfl rfl ?_
  refine p_getR (o := some 75) dX6_enter_1 (fX6_7 l) (by decide) rfl (by omega) rfl ?_
  refine g_iload_n dX6_enter_4 rfl rfl ?_
  refine g_iconst (x := 2) dX6_enter_5 (by decide) ?_
  refine m_iast (len := 60) dX6_enter_6 rfl ⟨by omega, by omega⟩ (by omega) (by omega) ?_
  refine g_aload_n dX6_enter_7 rfl rfl ?_
  refine p_getR (o := some 77) dX6_enter_8 (fX6_16 l) (by decide) rfl (by omega) rfl ?_
  refine g_iload_n dX6_enter_11 rfl rfl ?_
  refine g_iload_n dX6_enter_12 rfl rfl ?_
  refine m_iast (len := 60) dX6_enter_13 rfl ⟨by omega, by omega⟩ (by omega) (by omega) ?_
  refine g_aload_n dX6_enter_14 rfl rfl ?_
  refine p_getR (o := some 76) dX6_enter_15 (fX6_13 l) (by decide) rfl (by omega) rfl ?_
  refine g_iload_n dX6_enter_18 rfl rfl ?_
  refine g_iload_n dX6_enter_19 rfl rfl ?_
  refine m_iast (len := 60) dX6_enter_20 rfl ⟨by omega, by omega⟩ (by omega) (by omega) ?_
  refine g_aload_n dX6_enter_21 rfl rfl ?_
  refine p_getR (o := some 78) dX6_enter_22 (fX6_19 l) (by decide) rfl (by omega) rfl ?_
  refine g_iload_n dX6_enter_25 rfl rfl ?_
  refine g_iconst (x := 0) dX6_enter_26 (by decide) ?_
  refine m_iast (len := 60) dX6_enter_27 rfl ⟨by omega, by omega⟩ (by omega) (by omega) ?_
  exact g_vret dX6_enter_28 rfl ⟨rfl, rfl⟩
set_option maxHeartbeats 1000000 in
theorem cX6_letGo (l : Launch) {L : Nat} {S : sT} {M : Nat → Nat → Int}  : gMv (gπ l) mX6_letGo yX6_letGo [gR (some 74)] (hS L S M) (hS L S (xGo M)) := by
  refine gMet_of pnX6 rfl rfl rfl (Nat.le_of_ble_eq_true rfl) (gAr gAn) ?_
  show G (gπ l) mX6_letGo 0 [gR (some 74), gU] [] (hS L S M) 0 0 _
  have loop : ∀ (m k : Nat) (M : Nat → Nat → Int), k + m = 60 → G (gπ l) mX6_letGo 2 [gR (some 74), gI (k : Int)] [] (hS L S M) 0 0 (fun r k9 => r = some none ∧ k9 = hS L S (xGoFrom M k m)) := by
    intro m
    induction m with
    | zero =>
      intro k M hk
      refine g_iload_n dX6_letGo_2 rfl rfl ?_
      refine g_bipush (x := 60) dX6_letGo_3 (by decide) ?_
      refine g_icmp_ge (tgt := 69) dX6_letGo_5 (by decide) (fun c5 => ?_) (fun c5 => absurd c5 (by omega))
      exact g_vret dX6_letGo_69 rfl ⟨rfl, rfl⟩
    | succ m ih =>
      intro k M hk
      refine g_iload_n dX6_letGo_2 rfl rfl ?_
      refine g_bipush (x := 60) dX6_letGo_3 (by decide) ?_
      refine g_icmp_ge (tgt := 69) dX6_letGo_5 (by decide) (fun c5 => absurd c5 (by omega)) (fun c5 => ?_)
      refine g_aload_n dX6_letGo_8 rfl rfl ?_
      refine p_getR (o := some 75) dX6_letGo_9 (fX6_7 l) (by decide) rfl (by omega) rfl ?_
      refine g_iload_n dX6_letGo_12 rfl rfl ?_
      refine m_iald (len := 60) (x := M 75 k) dX6_letGo_13 rfl ⟨by omega, by omega⟩ (by omega) (by omega) rfl ?_
      refine g_iconst (x := 3) dX6_letGo_14 (by decide) ?_
      refine g_icmp_ne (tgt := 63) dX6_letGo_15 (by decide) (fun c15 => ?_) (fun c15 => ?_)
      · refine e_iinc (v := ((k + 1 : Nat) : Int)) (loc' := [gR (some 74), gI (((k + 1 : Nat) : Int))]) dX6_letGo_63 (by decide) rfl (gadd_nat (by omega)) rfl ?_
        refine g_goto (tgt := 2) dX6_letGo_66 (by decide) ?_
        have e : xGo1 M k = M := by unfold xGo1; rw [if_neg (by rintro ⟨a1, a2, a3⟩; omega)]
        rw [show xGoFrom M k (m + 1) = xGoFrom (xGo1 M k) (k + 1) m from rfl, e]
        exact ih (k + 1) M (by omega)
      · refine g_aload_n dX6_letGo_18 rfl rfl ?_
        refine p_getR (o := some 76) dX6_letGo_19 (fX6_13 l) (by decide) rfl (by omega) rfl ?_
        refine g_iload_n dX6_letGo_22 rfl rfl ?_
        refine m_iald (len := 60) (x := M 76 k) dX6_letGo_23 rfl ⟨by omega, by omega⟩ (by omega) (by omega) rfl ?_
        refine g_sipush (x := 5700) dX6_letGo_24 (by decide) ?_
        refine g_icmp_ne (tgt := 63) dX6_letGo_27 (by decide) (fun c27 => ?_) (fun c27 => ?_)
        · refine e_iinc (v := ((k + 1 : Nat) : Int)) (loc' := [gR (some 74), gI (((k + 1 : Nat) : Int))]) dX6_letGo_63 (by decide) rfl (gadd_nat (by omega)) rfl ?_
          refine g_goto (tgt := 2) dX6_letGo_66 (by decide) ?_
          have e : xGo1 M k = M := by unfold xGo1; rw [if_neg (by rintro ⟨a1, a2, a3⟩; omega)]
          rw [show xGoFrom M k (m + 1) = xGoFrom (xGo1 M k) (k + 1) m from rfl, e]
          exact ih (k + 1) M (by omega)
        · refine g_aload_n dX6_letGo_30 rfl rfl ?_
          refine g_iconst (x := 1) dX6_letGo_31 (by decide) ?_
          refine g_aload_n dX6_letGo_32 rfl rfl ?_
          refine p_getR (o := some 77) dX6_letGo_33 (fX6_16 l) (by decide) rfl (by omega) rfl ?_
          refine g_iload_n dX6_letGo_36 rfl rfl ?_
          refine m_iald (len := 60) (x := M 77 k) dX6_letGo_37 rfl ⟨by omega, by omega⟩ (by omega) (by omega) rfl ?_
          refine e_isub (v := gsub 1 (M 77 k)) dX6_letGo_38 rfl ?_
          refine g_iconst (x := 1) dX6_letGo_39 (by decide) ?_
          refine g_Vi2 dX6_letGo_40 (sX6_letGo_40 l) rfl (by show 74 < 87; omega) (Nat.le_of_ble_eq_true rfl) (cX6_in l) ?_
          refine g_if_lt (tgt := 49) dX6_letGo_43 (by decide) (fun c43 => ?_) (fun c43 => ?_)
          · refine g_aload_n dX6_letGo_49 rfl rfl ?_
            refine g_iload_n dX6_letGo_50 rfl rfl ?_
            refine g_iconst (x := 1) dX6_letGo_51 (by decide) ?_
            refine g_aload_n dX6_letGo_52 rfl rfl ?_
            refine p_getR (o := some 77) dX6_letGo_53 (fX6_16 l) (by decide) rfl (by omega) rfl ?_
            refine g_iload_n dX6_letGo_56 rfl rfl ?_
            refine m_iald (len := 60) (x := M 77 k) dX6_letGo_57 rfl ⟨by omega, by omega⟩ (by omega) (by omega) rfl ?_
            refine e_isub (v := gsub 1 (M 77 k)) dX6_letGo_58 rfl ?_
            refine g_iconst (x := 1) dX6_letGo_59 (by decide) ?_
            refine g_Vv3 dX6_letGo_60 (sX6_letGo_60 l) rfl (by show 74 < 87; omega) (Nat.le_of_ble_eq_true rfl) (cX6_enter l (by omega)) ?_
            refine e_iinc (v := ((k + 1 : Nat) : Int)) (loc' := [gR (some 74), gI (((k + 1 : Nat) : Int))]) dX6_letGo_63 (by decide) rfl (gadd_nat (by omega)) rfl ?_
            refine g_goto (tgt := 2) dX6_letGo_66 (by decide) ?_
            have e : xGo1 M k = xEnt M k (gsub 1 (M 77 k)) 1 := by unfold xGo1; rw [if_pos ⟨c15, c27, c43⟩]
            rw [show xGoFrom M k (m + 1) = xGoFrom (xGo1 M k) (k + 1) m from rfl, e]
            exact ih (k + 1) _ (by omega)
          · refine g_goto (tgt := 63) dX6_letGo_46 (by decide) ?_
            refine e_iinc (v := ((k + 1 : Nat) : Int)) (loc' := [gR (some 74), gI (((k + 1 : Nat) : Int))]) dX6_letGo_63 (by decide) rfl (gadd_nat (by omega)) rfl ?_
            refine g_goto (tgt := 2) dX6_letGo_66 (by decide) ?_
            have e : xGo1 M k = M := by unfold xGo1; rw [if_neg (by rintro ⟨a1, a2, a3⟩; omega)]
            rw [show xGoFrom M k (m + 1) = xGoFrom (xGo1 M k) (k + 1) m from rfl, e]
            exact ih (k + 1) M (by omega)
  refine g_iconst (x := 0) dX6_letGo_0 (by decide) ?_
  refine e_istore_n (loc' := [gR (some 74), gI 0]) dX6_letGo_1 rfl (by decide) rfl ?_
  unfold xGo
  exact loop 60 0 M (by omega)
set_option maxHeartbeats 1000000 in
theorem cX6_isOver (l : Launch) {L : Nat} {S : sT} {M : Nat → Nat → Int}  : gMi (gπ l) mX6_isOver yX6_isOver [gR (some 74)] (hS L S M) (if xOver M = true then 1 else 0) (hS L S M) := by
  refine gMet_of pnX6 rfl rfl rfl (Nat.le_of_ble_eq_true rfl) (gAr gAn) ?_
  show G (gπ l) mX6_isOver 0 [gR (some 74), gU] [] (hS L S M) 0 0 _
  have loop : ∀ (m k : Nat), k + m = 60 → anyTo (fun c => decide (M 75 c = 3 ∧ M 76 c = 5700)) k = false → G (gπ l) mX6_isOver 2 [gR (some 74), gI (k : Int)] [] (hS L S M) 0 0 (fun r k => r = some (some (gI (if xOver M = true then 1 else 0))) ∧ k = (hS L S M)) := by
    intro m
    induction m with
    | zero =>
      intro k hk hno
      refine g_iload_n dX6_isOver_2 rfl rfl ?_
      refine g_bipush (x := 60) dX6_isOver_3 (by decide) ?_
      refine g_icmp_ge (tgt := 38) dX6_isOver_5 (by decide) (fun c5 => ?_) (fun c5 => absurd c5 (by omega))
      refine g_iconst (x := 0) dX6_isOver_38 (by decide) ?_
      exact g_iret dX6_isOver_39 (Or.inr ⟨rfl, Or.inl rfl⟩) ⟨congrArg gK1 (by rw [show k = 60 by omega] at hno; unfold xOver; rw [hno]; rfl), rfl⟩
    | succ m ih =>
      intro k hk hno
      refine g_iload_n dX6_isOver_2 rfl rfl ?_
      refine g_bipush (x := 60) dX6_isOver_3 (by decide) ?_
      refine g_icmp_ge (tgt := 38) dX6_isOver_5 (by decide) (fun c5 => absurd c5 (by omega)) (fun c5 => ?_)
      refine g_aload_n dX6_isOver_8 rfl rfl ?_
      refine p_getR (o := some 75) dX6_isOver_9 (fX6_7 l) (by decide) rfl (by omega) rfl ?_
      refine g_iload_n dX6_isOver_12 rfl rfl ?_
      refine m_iald (len := 60) (x := M 75 k) dX6_isOver_13 rfl ⟨by omega, by omega⟩ (by omega) (by omega) rfl ?_
      refine g_iconst (x := 3) dX6_isOver_14 (by decide) ?_
      refine g_icmp_ne (tgt := 32) dX6_isOver_15 (by decide) (fun c15 => ?_) (fun c15 => ?_)
      · refine e_iinc (v := ((k + 1 : Nat) : Int)) (loc' := [gR (some 74), gI (((k + 1 : Nat) : Int))]) dX6_isOver_32 (by decide) rfl (gadd_nat (by omega)) rfl ?_
        refine g_goto (tgt := 2) dX6_isOver_35 (by decide) ?_
        refine ih (k + 1) (by omega) ?_
        unfold anyTo
        rw [hno, Bool.false_or]
        exact decide_eq_false (by omega)
      · refine g_aload_n dX6_isOver_18 rfl rfl ?_
        refine p_getR (o := some 76) dX6_isOver_19 (fX6_13 l) (by decide) rfl (by omega) rfl ?_
        refine g_iload_n dX6_isOver_22 rfl rfl ?_
        refine m_iald (len := 60) (x := M 76 k) dX6_isOver_23 rfl ⟨by omega, by omega⟩ (by omega) (by omega) rfl ?_
        refine g_sipush (x := 5700) dX6_isOver_24 (by decide) ?_
        refine g_icmp_ne (tgt := 32) dX6_isOver_27 (by decide) (fun c27 => ?_) (fun c27 => ?_)
        · refine e_iinc (v := ((k + 1 : Nat) : Int)) (loc' := [gR (some 74), gI (((k + 1 : Nat) : Int))]) dX6_isOver_32 (by decide) rfl (gadd_nat (by omega)) rfl ?_
          refine g_goto (tgt := 2) dX6_isOver_35 (by decide) ?_
          refine ih (k + 1) (by omega) ?_
          unfold anyTo
          rw [hno, Bool.false_or]
          exact decide_eq_false (by omega)
        · refine g_iconst (x := 1) dX6_isOver_30 (by decide) ?_
          exact g_iret dX6_isOver_31 (Or.inr ⟨rfl, Or.inr rfl⟩) ⟨congrArg gK1 (by unfold xOver; rw [if_pos ((anyTo_iff 60).mpr ⟨k, by omega, decide_eq_true (by omega)⟩)]), rfl⟩
  refine g_iconst (x := 0) dX6_isOver_0 (by decide) ?_
  refine e_istore_n (loc' := [gR (some 74), gI 0]) dX6_isOver_1 rfl (by decide) rfl ?_
  exact loop 60 0 (by omega) rfl
set_option maxHeartbeats 1000000 in
theorem cX6_isWaiting (l : Launch) {L : Nat} {S : sT} {M : Nat → Nat → Int}  : gMi (gπ l) mX6_isWaiting yX6_isWaiting [gR (some 74)] (hS L S M) (if xWait M = true then 1 else 0) (hS L S M) := by
  refine gMet_of pnX6 rfl rfl rfl (Nat.le_of_ble_eq_true rfl) (gAr gAn) ?_
  show G (gπ l) mX6_isWaiting 0 [gR (some 74), gU] [] (hS L S M) 0 0 _
  have loop : ∀ (m k : Nat), k + m = 60 → anyTo (fun c => decide (M 75 c = 3 ∧ 5640 ≤ M 76 c ∧ 0 ≤ xIn M (gsub 1 (M 77 c)) 1)) k = false → G (gπ l) mX6_isWaiting 2 [gR (some 74), gI (k : Int)] [] (hS L S M) 0 0 (fun r k => r = some (some (gI (if xWait M = true then 1 else 0))) ∧ k = (hS L S M)) := by
    intro m
    induction m with
    | zero =>
      intro k hk hno
      refine g_iload_n dX6_isWaiting_2 rfl rfl ?_
      refine g_bipush (x := 60) dX6_isWaiting_3 (by decide) ?_
      refine g_icmp_ge (tgt := 54) dX6_isWaiting_5 (by decide) (fun c5 => ?_) (fun c5 => absurd c5 (by omega))
      refine g_iconst (x := 0) dX6_isWaiting_54 (by decide) ?_
      exact g_iret dX6_isWaiting_55 (Or.inr ⟨rfl, Or.inl rfl⟩) ⟨congrArg gK1 (by rw [show k = 60 by omega] at hno; unfold xWait; rw [hno]; rfl), rfl⟩
    | succ m ih =>
      intro k hk hno
      refine g_iload_n dX6_isWaiting_2 rfl rfl ?_
      refine g_bipush (x := 60) dX6_isWaiting_3 (by decide) ?_
      refine g_icmp_ge (tgt := 54) dX6_isWaiting_5 (by decide) (fun c5 => absurd c5 (by omega)) (fun c5 => ?_)
      refine g_aload_n dX6_isWaiting_8 rfl rfl ?_
      refine p_getR (o := some 75) dX6_isWaiting_9 (fX6_7 l) (by decide) rfl (by omega) rfl ?_
      refine g_iload_n dX6_isWaiting_12 rfl rfl ?_
      refine m_iald (len := 60) (x := M 75 k) dX6_isWaiting_13 rfl ⟨by omega, by omega⟩ (by omega) (by omega) rfl ?_
      refine g_iconst (x := 3) dX6_isWaiting_14 (by decide) ?_
      refine g_icmp_ne (tgt := 48) dX6_isWaiting_15 (by decide) (fun c15 => ?_) (fun c15 => ?_)
      · refine e_iinc (v := ((k + 1 : Nat) : Int)) (loc' := [gR (some 74), gI (((k + 1 : Nat) : Int))]) dX6_isWaiting_48 (by decide) rfl (gadd_nat (by omega)) rfl ?_
        refine g_goto (tgt := 2) dX6_isWaiting_51 (by decide) ?_
        refine ih (k + 1) (by omega) ?_
        unfold anyTo
        rw [hno, Bool.false_or]
        exact decide_eq_false (by omega)
      · refine g_aload_n dX6_isWaiting_18 rfl rfl ?_
        refine p_getR (o := some 76) dX6_isWaiting_19 (fX6_13 l) (by decide) rfl (by omega) rfl ?_
        refine g_iload_n dX6_isWaiting_22 rfl rfl ?_
        refine m_iald (len := 60) (x := M 76 k) dX6_isWaiting_23 rfl ⟨by omega, by omega⟩ (by omega) (by omega) rfl ?_
        refine g_sipush (x := 5640) dX6_isWaiting_24 (by decide) ?_
        refine g_icmp_lt (tgt := 48) dX6_isWaiting_27 (by decide) (fun c27 => ?_) (fun c27 => ?_)
        · refine e_iinc (v := ((k + 1 : Nat) : Int)) (loc' := [gR (some 74), gI (((k + 1 : Nat) : Int))]) dX6_isWaiting_48 (by decide) rfl (gadd_nat (by omega)) rfl ?_
          refine g_goto (tgt := 2) dX6_isWaiting_51 (by decide) ?_
          refine ih (k + 1) (by omega) ?_
          unfold anyTo
          rw [hno, Bool.false_or]
          exact decide_eq_false (by omega)
        · refine g_aload_n dX6_isWaiting_30 rfl rfl ?_
          refine g_iconst (x := 1) dX6_isWaiting_31 (by decide) ?_
          refine g_aload_n dX6_isWaiting_32 rfl rfl ?_
          refine p_getR (o := some 77) dX6_isWaiting_33 (fX6_16 l) (by decide) rfl (by omega) rfl ?_
          refine g_iload_n dX6_isWaiting_36 rfl rfl ?_
          refine m_iald (len := 60) (x := M 77 k) dX6_isWaiting_37 rfl ⟨by omega, by omega⟩ (by omega) (by omega) rfl ?_
          refine e_isub (v := gsub 1 (M 77 k)) dX6_isWaiting_38 rfl ?_
          refine g_iconst (x := 1) dX6_isWaiting_39 (by decide) ?_
          refine g_Vi2 dX6_isWaiting_40 (sX6_isWaiting_40 l) rfl (by show 74 < 87; omega) (Nat.le_of_ble_eq_true rfl) (cX6_in l) ?_
          refine g_if_lt (tgt := 48) dX6_isWaiting_43 (by decide) (fun c43 => ?_) (fun c43 => ?_)
          · refine e_iinc (v := ((k + 1 : Nat) : Int)) (loc' := [gR (some 74), gI (((k + 1 : Nat) : Int))]) dX6_isWaiting_48 (by decide) rfl (gadd_nat (by omega)) rfl ?_
            refine g_goto (tgt := 2) dX6_isWaiting_51 (by decide) ?_
            refine ih (k + 1) (by omega) ?_
            unfold anyTo
            rw [hno, Bool.false_or]
            exact decide_eq_false (by omega)
          · refine g_iconst (x := 1) dX6_isWaiting_46 (by decide) ?_
            exact g_iret dX6_isWaiting_47 (Or.inr ⟨rfl, Or.inr rfl⟩) ⟨congrArg gK1 (by unfold xWait; rw [if_pos ((anyTo_iff 60).mpr ⟨k, by omega, decide_eq_true (by omega)⟩)]), rfl⟩
  refine g_iconst (x := 0) dX6_isWaiting_0 (by decide) ?_
  refine e_istore_n (loc' := [gR (some 74), gI 0]) dX6_isWaiting_1 rfl (by decide) rfl ?_
  exact loop 60 0 (by omega) rfl
set_option maxHeartbeats 1000000 in
theorem cX6_toSiding (l : Launch) {L : Nat} {S : sT} {M : Nat → Nat → Int} {c : Nat} (hc : c < 60) (h0 : 0 ≤ M 74 10) (h20 : M 74 10 < 20) : gMv (gπ l) mX6_toSiding yX6_toSiding [gR (some 74), gI (c : Int)] (hS L S M) (hS L S (xSide M c)) := by
  refine gMet_of pnX6 rfl rfl rfl (Nat.le_of_ble_eq_true rfl) (gAr (gAi gAn)) ?_
  show G (gπ l) mX6_toSiding 0 [gR (some 74), gI (c : Int)] [] (hS L S M) 0 0 _
  refine g_aload_n dX6_toSiding_0 rfl rfl ?_
  refine p_getR (o := some 75) dX6_toSiding_1 (fX6_7 l) (by decide) rfl (by omega) rfl ?_
  refine g_iload_n dX6_toSiding_4 rfl rfl ?_
  refine g_iconst (x := 1) dX6_toSiding_5 (by decide) ?_
  refine m_iast (len := 60) dX6_toSiding_6 rfl ⟨by omega, by omega⟩ (by omega) (by omega) ?_
  refine g_aload_n dX6_toSiding_7 rfl rfl ?_
  refine p_getR (o := some 84) dX6_toSiding_8 (fX6_37 l) (by decide) rfl (by omega) rfl ?_
  refine g_aload_n dX6_toSiding_11 rfl rfl ?_
  refine m_getI (x := M 74 10) dX6_toSiding_12 (fX6_79 l) rfl rfl ⟨by omega, by omega⟩ (up_cell (by omega)) ?_
  refine g_iload_n dX6_toSiding_15 rfl rfl ?_
  refine m_iast (len := 20) dX6_toSiding_16 rfl ⟨by omega, by omega⟩ (by omega) (by omega) ?_
  refine g_aload_n dX6_toSiding_17 rfl rfl ?_
  refine g_dupR dX6_toSiding_18 ?_
  refine m_getI (x := M 74 10) dX6_toSiding_19 (fX6_79 l) rfl rfl ⟨by omega, by omega⟩ (by rw [up_cell (by omega), up_cell (by omega)]) ?_
  refine g_iconst (x := 1) dX6_toSiding_22 (by decide) ?_
  refine e_iadd (v := M 74 10 + 1) dX6_toSiding_23 (gadd_eq (by omega) (by omega)) ?_
  refine m_putI dX6_toSiding_24 (fX6_79 l) gTX6 ⟨rfl, rfl⟩ rfl rfl ⟨by omega, by omega⟩ ?_
  exact g_vret dX6_toSiding_27 rfl ⟨rfl, rfl⟩
