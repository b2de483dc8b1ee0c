/-! contracts: the wrappers of the law -/
theorem wcat {l : Launch} : Cond.classLink "RopewayDeskLaw" 13 gIAE ∈ (gπ l).2.1 := gW_t 205 (by decide +kernel) rfl
set_option maxHeartbeats 1000000 in
theorem wL_pulse_1 (l : Launch) {L : Nat} {S S' : sT} {M : Nat → Nat → Int} {p0 : Int} {x : Int} (hc : gMi (gπ l) mX5_pulse yX5_pulse [gR (some 1), gI p0] (hS L S M) x (hS L S' M)) : gMet (gπ l) mL_pulse yL_pulse [gR (some 1), gI p0, gR (some 86)] (hS L S M) 1 6 (fun r k => r = some (some (gI 0)) ∧ k = hS L S' (up M 86 0 x)) := by
  refine gMet_ofH pnL rfl rfl rfl (Nat.le_of_ble_eq_true rfl) (gAr (gAi (gAr gAn))) ?_
  show G (gπ l) mL_pulse 0 [gR (some 1), gI p0, gR (some 86), gU] [] (hS L S M) 1 6 _
  refine g_aload_n dL_pulse_0 rfl rfl ?_
  refine g_iconst (x := 0) dL_pulse_1 (by decide) ?_
  refine g_aload_n dL_pulse_2 rfl rfl ?_
  refine g_iload_n dL_pulse_3 rfl rfl ?_
  refine g_Vi1 dL_pulse_4 (sL_pulse_4 l) rfl (by show 1 < 87; omega) (Nat.le_of_ble_eq_true rfl) hc ?_
  refine g_i2l dL_pulse_7 ?_
  refine m_last dL_pulse_8 rfl ?_
  refine g_goto (tgt := 15) dL_pulse_9 (by decide) ?_
  refine g_iconst (x := 0) dL_pulse_15 (by decide) ?_
  exact g_iret dL_pulse_16 (Or.inl rfl) ⟨rfl, rfl⟩
set_option maxHeartbeats 1000000 in
theorem wL_pulse_x (l : Launch) {L : Nat} {S : sT} {M : Nat → Nat → Int} {p0 : Int} (hc : gMx (gπ l) mX5_pulse yX5_pulse [gR (some 1), gI p0] (hS L S M) (hS L S M)) : gMet (gπ l) mL_pulse yL_pulse [gR (some 1), gI p0, gR (some 86)] (hS L S M) 1 6 (fun r k => r = some (some (gI 1)) ∧ k = hS L S M) := by
  refine gMet_ofH pnL rfl rfl rfl (Nat.le_of_ble_eq_true rfl) (gAr (gAi (gAr gAn))) ?_
  show G (gπ l) mL_pulse 0 [gR (some 1), gI p0, gR (some 86), gU] [] (hS L S M) 1 6 _
  refine g_aload_n dL_pulse_0 rfl rfl ?_
  refine g_iconst (x := 0) dL_pulse_1 (by decide) ?_
  refine g_aload_n dL_pulse_2 rfl rfl ?_
  refine g_iload_n dL_pulse_3 rfl rfl ?_
  refine g_Vx1 dL_pulse_4 (sL_pulse_4 l) rfl (by show 1 < 87; omega) (Nat.le_of_ble_eq_true rfl) hc ?_
  refine gx_catch (i := 3) (len := 1) rfl ⟨by decide, by decide⟩ (by decide) wcat (by decide) (Or.inr ⟨3, dL_pulse_12, rfl, rfl⟩) ?_
  show G (gπ l) mL_pulse 13 [gR (some 1), gI p0, gR (some 86), gU] [] _ 0 0 _
  refine g_iconst (x := 1) dL_pulse_13 (by decide) ?_
  exact g_iret dL_pulse_14 (Or.inl rfl) ⟨rfl, rfl⟩
set_option maxHeartbeats 1000000 in
theorem wL_tick_1 (l : Launch) {L : Nat} {S S' : sT} {M : Nat → Nat → Int} {p0 : Int} {x : Int} (hc : gMi (gπ l) mX5_tick yX5_tick [gR (some 1), gI p0] (hS L S M) x (hS L S' M)) : gMet (gπ l) mL_tick yL_tick [gR (some 1), gI p0, gR (some 86)] (hS L S M) 1 6 (fun r k => r = some (some (gI 0)) ∧ k = hS L S' (up M 86 0 x)) := by
  refine gMet_ofH pnL rfl rfl rfl (Nat.le_of_ble_eq_true rfl) (gAr (gAi (gAr gAn))) ?_
  show G (gπ l) mL_tick 0 [gR (some 1), gI p0, gR (some 86), gU] [] (hS L S M) 1 6 _
  refine g_aload_n dL_tick_0 rfl rfl ?_
  refine g_iconst (x := 0) dL_tick_1 (by decide) ?_
  refine g_aload_n dL_tick_2 rfl rfl ?_
  refine g_iload_n dL_tick_3 rfl rfl ?_
  refine g_Vi1 dL_tick_4 (sL_tick_4 l) rfl (by show 1 < 87; omega) (Nat.le_of_ble_eq_true rfl) hc ?_
  refine g_i2l dL_tick_7 ?_
  refine m_last dL_tick_8 rfl ?_
  refine g_goto (tgt := 15) dL_tick_9 (by decide) ?_
  refine g_iconst (x := 0) dL_tick_15 (by decide) ?_
  exact g_iret dL_tick_16 (Or.inl rfl) ⟨rfl, rfl⟩
set_option maxHeartbeats 1000000 in
theorem wL_tick_x (l : Launch) {L : Nat} {S : sT} {M : Nat → Nat → Int} {p0 : Int} (hc : gMx (gπ l) mX5_tick yX5_tick [gR (some 1), gI p0] (hS L S M) (hS L S M)) : gMet (gπ l) mL_tick yL_tick [gR (some 1), gI p0, gR (some 86)] (hS L S M) 1 6 (fun r k => r = some (some (gI 1)) ∧ k = hS L S M) := by
  refine gMet_ofH pnL rfl rfl rfl (Nat.le_of_ble_eq_true rfl) (gAr (gAi (gAr gAn))) ?_
  show G (gπ l) mL_tick 0 [gR (some 1), gI p0, gR (some 86), gU] [] (hS L S M) 1 6 _
  refine g_aload_n dL_tick_0 rfl rfl ?_
  refine g_iconst (x := 0) dL_tick_1 (by decide) ?_
  refine g_aload_n dL_tick_2 rfl rfl ?_
  refine g_iload_n dL_tick_3 rfl rfl ?_
  refine g_Vx1 dL_tick_4 (sL_tick_4 l) rfl (by show 1 < 87; omega) (Nat.le_of_ble_eq_true rfl) hc ?_
  refine gx_catch (i := 3) (len := 1) rfl ⟨by decide, by decide⟩ (by decide) wcat (by decide) (Or.inr ⟨3, dL_tick_12, rfl, rfl⟩) ?_
  show G (gπ l) mL_tick 13 [gR (some 1), gI p0, gR (some 86), gU] [] _ 0 0 _
  refine g_iconst (x := 1) dL_tick_13 (by decide) ?_
  exact g_iret dL_tick_14 (Or.inl rfl) ⟨rfl, rfl⟩
set_option maxHeartbeats 1000000 in
theorem wL_gauge_1 (l : Launch) {L : Nat} {S S' : sT} {M : Nat → Nat → Int} {p0 p1 p2 : Int} {x : Int} (hc : gMi (gπ l) mX5_gauge yX5_gauge [gR (some 1), gI p0, gI p1, gI p2] (hS L S M) x (hS L S' M)) (hx : x = 0 ∨ x = 1) : gMet (gπ l) mL_gauge yL_gauge [gR (some 1), gI p0, gI p1, gI p2, gR (some 86)] (hS L S M) 1 6 (fun r k => r = some (some (gI 0)) ∧ k = hS L S' (up M 86 0 x)) := by
  refine gMet_ofH pnL rfl rfl rfl (Nat.le_of_ble_eq_true rfl) (gAr (gAi (gAi (gAi (gAr gAn))))) ?_
  show G (gπ l) mL_gauge 0 [gR (some 1), gI p0, gI p1, gI p2, gR (some 86), gU] [] (hS L S M) 1 6 _
  refine g_aload dL_gauge_0 rfl ?_
  refine g_iconst (x := 0) dL_gauge_2 (by decide) ?_
  refine g_aload_n dL_gauge_3 rfl rfl ?_
  refine g_iload_n dL_gauge_4 rfl rfl ?_
  refine g_iload_n dL_gauge_5 rfl rfl ?_
  refine g_iload_n dL_gauge_6 rfl rfl ?_
  refine g_Vi3 dL_gauge_7 (sL_gauge_7 l) rfl (by show 1 < 87; omega) (Nat.le_of_ble_eq_true rfl) hc ?_
  refine g_if_eq (tgt := 17) dL_gauge_10 (by decide) (fun c10 => ?_) (fun c10 => ?_)
  · refine g_lconst (x := 0) dL_gauge_17 (by decide) ?_
    refine m_last dL_gauge_18 rfl ?_
    refine g_goto (tgt := 26) dL_gauge_19 (by decide) ?_
    refine g_iconst (x := 0) dL_gauge_26 (by decide) ?_
    exact g_iret dL_gauge_27 (Or.inl rfl) ⟨rfl, by rw [show x = 0 by omega]⟩
  · refine g_lconst (x := 1) dL_gauge_13 (by decide) ?_
    refine g_goto (tgt := 18) dL_gauge_14 (by decide) ?_
    refine m_last dL_gauge_18 rfl ?_
    refine g_goto (tgt := 26) dL_gauge_19 (by decide) ?_
    refine g_iconst (x := 0) dL_gauge_26 (by decide) ?_
    exact g_iret dL_gauge_27 (Or.inl rfl) ⟨rfl, by rw [show x = 1 by omega]⟩
set_option maxHeartbeats 1000000 in
theorem wL_gauge_x (l : Launch) {L : Nat} {S : sT} {M : Nat → Nat → Int} {p0 p1 p2 : Int} (hc : gMx (gπ l) mX5_gauge yX5_gauge [gR (some 1), gI p0, gI p1, gI p2] (hS L S M) (hS L S M)) : gMet (gπ l) mL_gauge yL_gauge [gR (some 1), gI p0, gI p1, gI p2, gR (some 86)] (hS L S M) 1 6 (fun r k => r = some (some (gI 1)) ∧ k = hS L S M) := by
  refine gMet_ofH pnL rfl rfl rfl (Nat.le_of_ble_eq_true rfl) (gAr (gAi (gAi (gAi (gAr gAn))))) ?_
  show G (gπ l) mL_gauge 0 [gR (some 1), gI p0, gI p1, gI p2, gR (some 86), gU] [] (hS L S M) 1 6 _
  refine g_aload dL_gauge_0 rfl ?_
  refine g_iconst (x := 0) dL_gauge_2 (by decide) ?_
  refine g_aload_n dL_gauge_3 rfl rfl ?_
  refine g_iload_n dL_gauge_4 rfl rfl ?_
  refine g_iload_n dL_gauge_5 rfl rfl ?_
  refine g_iload_n dL_gauge_6 rfl rfl ?_
  refine g_Vx3 dL_gauge_7 (sL_gauge_7 l) rfl (by show 1 < 87; omega) (Nat.le_of_ble_eq_true rfl) hc ?_
  refine gx_catch (i := 5) (len := 2) rfl ⟨by decide, by decide⟩ (by decide) wcat (by decide) (Or.inl ⟨dL_gauge_22, rfl⟩) ?_
  show G (gπ l) mL_gauge 24 [gR (some 1), gI p0, gI p1, gI p2, gR (some 86), gU] [] _ 0 0 _
  refine g_iconst (x := 1) dL_gauge_24 (by decide) ?_
  exact g_iret dL_gauge_25 (Or.inl rfl) ⟨rfl, rfl⟩
set_option maxHeartbeats 1000000 in
theorem wL_wind_1 (l : Launch) {L : Nat} {S S' : sT} {M : Nat → Nat → Int} {p0 : Int} (hc : gMv (gπ l) mX5_wind yX5_wind [gR (some 1), gI p0] (hS L S M) (hS L S' M)) : gMet (gπ l) mL_wind yL_wind [gR (some 1), gI p0] (hS L S M) 1 6 (fun r k => r = some (some (gI 0)) ∧ k = hS L S' M) := by
  refine gMet_ofH pnL rfl rfl rfl (Nat.le_of_ble_eq_true rfl) (gAr (gAi gAn)) ?_
  show G (gπ l) mL_wind 0 [gR (some 1), gI p0, gU] [] (hS L S M) 1 6 _
  refine g_aload_n dL_wind_0 rfl rfl ?_
  refine g_iload_n dL_wind_1 rfl rfl ?_
  refine g_Vv1 dL_wind_2 (sL_wind_2 l) rfl (by show 1 < 87; omega) (Nat.le_of_ble_eq_true rfl) hc ?_
  refine g_goto (tgt := 11) dL_wind_5 (by decide) ?_
  refine g_iconst (x := 0) dL_wind_11 (by decide) ?_
  exact g_iret dL_wind_12 (Or.inl rfl) ⟨rfl, rfl⟩
set_option maxHeartbeats 1000000 in
theorem wL_wind_x (l : Launch) {L : Nat} {S : sT} {M : Nat → Nat → Int} {p0 : Int} (hc : gMx (gπ l) mX5_wind yX5_wind [gR (some 1), gI p0] (hS L S M) (hS L S M)) : gMet (gπ l) mL_wind yL_wind [gR (some 1), gI p0] (hS L S M) 1 6 (fun r k => r = some (some (gI 1)) ∧ k = hS L S M) := by
  refine gMet_ofH pnL rfl rfl rfl (Nat.le_of_ble_eq_true rfl) (gAr (gAi gAn)) ?_
  show G (gπ l) mL_wind 0 [gR (some 1), gI p0, gU] [] (hS L S M) 1 6 _
  refine g_aload_n dL_wind_0 rfl rfl ?_
  refine g_iload_n dL_wind_1 rfl rfl ?_
  refine g_Vx1 dL_wind_2 (sL_wind_2 l) rfl (by show 1 < 87; omega) (Nat.le_of_ble_eq_true rfl) hc ?_
  refine gx_catch (i := 2) (len := 1) rfl ⟨by decide, by decide⟩ (by decide) wcat (by decide) (Or.inr ⟨2, dL_wind_8, rfl, rfl⟩) ?_
  show G (gπ l) mL_wind 9 [gR (some 1), gI p0, gU] [] _ 0 0 _
  refine g_iconst (x := 1) dL_wind_9 (by decide) ?_
  exact g_iret dL_wind_10 (Or.inl rfl) ⟨rfl, rfl⟩
set_option maxHeartbeats 1000000 in
theorem wL_drive_1 (l : Launch) {L : Nat} {S S' : sT} {M : Nat → Nat → Int} {p0 : Int} {x : Int} (hc : gMi (gπ l) mX5_drive yX5_drive [gR (some 1), gI p0] (hS L S M) x (hS L S' M)) (hx : x = 0 ∨ x = 1) : gMet (gπ l) mL_drive yL_drive [gR (some 1), gI p0, gR (some 86)] (hS L S M) 1 6 (fun r k => r = some (some (gI 0)) ∧ k = hS L S' (up M 86 0 x)) := by
  refine gMet_ofH pnL rfl rfl rfl (Nat.le_of_ble_eq_true rfl) (gAr (gAi (gAr gAn))) ?_
  show G (gπ l) mL_drive 0 [gR (some 1), gI p0, gR (some 86), gU] [] (hS L S M) 1 6 _
  refine g_aload_n dL_drive_0 rfl rfl ?_
  refine g_iconst (x := 0) dL_drive_1 (by decide) ?_
  refine g_aload_n dL_drive_2 rfl rfl ?_
  refine g_iload_n dL_drive_3 rfl rfl ?_
  refine g_Vi1 dL_drive_4 (sL_drive_4 l) rfl (by show 1 < 87; omega) (Nat.le_of_ble_eq_true rfl) hc ?_
  refine g_if_eq (tgt := 14) dL_drive_7 (by decide) (fun c7 => ?_) (fun c7 => ?_)
  · refine g_lconst (x := 0) dL_drive_14 (by decide) ?_
    refine m_last dL_drive_15 rfl ?_
    refine g_goto (tgt := 22) dL_drive_16 (by decide) ?_
    refine g_iconst (x := 0) dL_drive_22 (by decide) ?_
    exact g_iret dL_drive_23 (Or.inl rfl) ⟨rfl, by rw [show x = 0 by omega]⟩
  · refine g_lconst (x := 1) dL_drive_10 (by decide) ?_
    refine g_goto (tgt := 15) dL_drive_11 (by decide) ?_
    refine m_last dL_drive_15 rfl ?_
    refine g_goto (tgt := 22) dL_drive_16 (by decide) ?_
    refine g_iconst (x := 0) dL_drive_22 (by decide) ?_
    exact g_iret dL_drive_23 (Or.inl rfl) ⟨rfl, by rw [show x = 1 by omega]⟩
set_option maxHeartbeats 1000000 in
theorem wL_drive_x (l : Launch) {L : Nat} {S : sT} {M : Nat → Nat → Int} {p0 : Int} (hc : gMx (gπ l) mX5_drive yX5_drive [gR (some 1), gI p0] (hS L S M) (hS L S M)) : gMet (gπ l) mL_drive yL_drive [gR (some 1), gI p0, gR (some 86)] (hS L S M) 1 6 (fun r k => r = some (some (gI 1)) ∧ k = hS L S M) := by
  refine gMet_ofH pnL rfl rfl rfl (Nat.le_of_ble_eq_true rfl) (gAr (gAi (gAr gAn))) ?_
  show G (gπ l) mL_drive 0 [gR (some 1), gI p0, gR (some 86), gU] [] (hS L S M) 1 6 _
  refine g_aload_n dL_drive_0 rfl rfl ?_
  refine g_iconst (x := 0) dL_drive_1 (by decide) ?_
  refine g_aload_n dL_drive_2 rfl rfl ?_
  refine g_iload_n dL_drive_3 rfl rfl ?_
  refine g_Vx1 dL_drive_4 (sL_drive_4 l) rfl (by show 1 < 87; omega) (Nat.le_of_ble_eq_true rfl) hc ?_
  refine gx_catch (i := 3) (len := 1) rfl ⟨by decide, by decide⟩ (by decide) wcat (by decide) (Or.inr ⟨3, dL_drive_19, rfl, rfl⟩) ?_
  show G (gπ l) mL_drive 20 [gR (some 1), gI p0, gR (some 86), gU] [] _ 0 0 _
  refine g_iconst (x := 1) dL_drive_20 (by decide) ?_
  exact g_iret dL_drive_21 (Or.inl rfl) ⟨rfl, rfl⟩
set_option maxHeartbeats 1000000 in
theorem wL_bring_1 (l : Launch) {L : Nat} {S S' : sT} {M : Nat → Nat → Int} {p0 : Int} {x : Int} (hc : gMi (gπ l) mX5_bring yX5_bring [gR (some 1), gI p0] (hS L S M) x (hS L S' M)) (hx : x = 0 ∨ x = 1) : gMet (gπ l) mL_bring yL_bring [gR (some 1), gI p0, gR (some 86)] (hS L S M) 1 6 (fun r k => r = some (some (gI 0)) ∧ k = hS L S' (up M 86 0 x)) := by
  refine gMet_ofH pnL rfl rfl rfl (Nat.le_of_ble_eq_true rfl) (gAr (gAi (gAr gAn))) ?_
  show G (gπ l) mL_bring 0 [gR (some 1), gI p0, gR (some 86), gU] [] (hS L S M) 1 6 _
  refine g_aload_n dL_bring_0 rfl rfl ?_
  refine g_iconst (x := 0) dL_bring_1 (by decide) ?_
  refine g_aload_n dL_bring_2 rfl rfl ?_
  refine g_iload_n dL_bring_3 rfl rfl ?_
  refine g_Vi1 dL_bring_4 (sL_bring_4 l) rfl (by show 1 < 87; omega) (Nat.le_of_ble_eq_true rfl) hc ?_
  refine g_if_eq (tgt := 14) dL_bring_7 (by decide) (fun c7 => ?_) (fun c7 => ?_)
  · refine g_lconst (x := 0) dL_bring_14 (by decide) ?_
    refine m_last dL_bring_15 rfl ?_
    refine g_goto (tgt := 22) dL_bring_16 (by decide) ?_
    refine g_iconst (x := 0) dL_bring_22 (by decide) ?_
    exact g_iret dL_bring_23 (Or.inl rfl) ⟨rfl, by rw [show x = 0 by omega]⟩
  · refine g_lconst (x := 1) dL_bring_10 (by decide) ?_
    refine g_goto (tgt := 15) dL_bring_11 (by decide) ?_
    refine m_last dL_bring_15 rfl ?_
    refine g_goto (tgt := 22) dL_bring_16 (by decide) ?_
    refine g_iconst (x := 0) dL_bring_22 (by decide) ?_
    exact g_iret dL_bring_23 (Or.inl rfl) ⟨rfl, by rw [show x = 1 by omega]⟩
set_option maxHeartbeats 1000000 in
theorem wL_bring_x (l : Launch) {L : Nat} {S : sT} {M : Nat → Nat → Int} {p0 : Int} (hc : gMx (gπ l) mX5_bring yX5_bring [gR (some 1), gI p0] (hS L S M) (hS L S M)) : gMet (gπ l) mL_bring yL_bring [gR (some 1), gI p0, gR (some 86)] (hS L S M) 1 6 (fun r k => r = some (some (gI 1)) ∧ k = hS L S M) := by
  refine gMet_ofH pnL rfl rfl rfl (Nat.le_of_ble_eq_true rfl) (gAr (gAi (gAr gAn))) ?_
  show G (gπ l) mL_bring 0 [gR (some 1), gI p0, gR (some 86), gU] [] (hS L S M) 1 6 _
  refine g_aload_n dL_bring_0 rfl rfl ?_
  refine g_iconst (x := 0) dL_bring_1 (by decide) ?_
  refine g_aload_n dL_bring_2 rfl rfl ?_
  refine g_iload_n dL_bring_3 rfl rfl ?_
  refine g_Vx1 dL_bring_4 (sL_bring_4 l) rfl (by show 1 < 87; omega) (Nat.le_of_ble_eq_true rfl) hc ?_
  refine gx_catch (i := 3) (len := 1) rfl ⟨by decide, by decide⟩ (by decide) wcat (by decide) (Or.inr ⟨3, dL_bring_19, rfl, rfl⟩) ?_
  show G (gπ l) mL_bring 20 [gR (some 1), gI p0, gR (some 86), gU] [] _ 0 0 _
  refine g_iconst (x := 1) dL_bring_20 (by decide) ?_
  exact g_iret dL_bring_21 (Or.inl rfl) ⟨rfl, rfl⟩
set_option maxHeartbeats 1000000 in
theorem wL_putOn_1 (l : Launch) {L : Nat} {S S' : sT} {M : Nat → Nat → Int} {p0 p1 : Int} {x : Int} (hc : gMi (gπ l) mX5_putOn yX5_putOn [gR (some 1), gI p0, gI p1] (hS L S M) x (hS L S' M)) (hx : x = 0 ∨ x = 1) : gMet (gπ l) mL_putOn yL_putOn [gR (some 1), gI p0, gI p1, gR (some 86)] (hS L S M) 1 6 (fun r k => r = some (some (gI 0)) ∧ k = hS L S' (up M 86 0 x)) := by
  refine gMet_ofH pnL rfl rfl rfl (Nat.le_of_ble_eq_true rfl) (gAr (gAi (gAi (gAr gAn)))) ?_
  show G (gπ l) mL_putOn 0 [gR (some 1), gI p0, gI p1, gR (some 86), gU] [] (hS L S M) 1 6 _
  refine g_aload_n dL_putOn_0 rfl rfl ?_
  refine g_iconst (x := 0) dL_putOn_1 (by decide) ?_
  refine g_aload_n dL_putOn_2 rfl rfl ?_
  refine g_iload_n dL_putOn_3 rfl rfl ?_
  refine g_iload_n dL_putOn_4 rfl rfl ?_
  refine g_Vi2 dL_putOn_5 (sL_putOn_5 l) rfl (by show 1 < 87; omega) (Nat.le_of_ble_eq_true rfl) hc ?_
  refine g_if_eq (tgt := 15) dL_putOn_8 (by decide) (fun c8 => ?_) (fun c8 => ?_)
  · refine g_lconst (x := 0) dL_putOn_15 (by decide) ?_
    refine m_last dL_putOn_16 rfl ?_
    refine g_goto (tgt := 24) dL_putOn_17 (by decide) ?_
    refine g_iconst (x := 0) dL_putOn_24 (by decide) ?_
    exact g_iret dL_putOn_25 (Or.inl rfl) ⟨rfl, by rw [show x = 0 by omega]⟩
  · refine g_lconst (x := 1) dL_putOn_11 (by decide) ?_
    refine g_goto (tgt := 16) dL_putOn_12 (by decide) ?_
    refine m_last dL_putOn_16 rfl ?_
    refine g_goto (tgt := 24) dL_putOn_17 (by decide) ?_
    refine g_iconst (x := 0) dL_putOn_24 (by decide) ?_
    exact g_iret dL_putOn_25 (Or.inl rfl) ⟨rfl, by rw [show x = 1 by omega]⟩
set_option maxHeartbeats 1000000 in
theorem wL_putOn_x (l : Launch) {L : Nat} {S : sT} {M : Nat → Nat → Int} {p0 p1 : Int} (hc : gMx (gπ l) mX5_putOn yX5_putOn [gR (some 1), gI p0, gI p1] (hS L S M) (hS L S M)) : gMet (gπ l) mL_putOn yL_putOn [gR (some 1), gI p0, gI p1, gR (some 86)] (hS L S M) 1 6 (fun r k => r = some (some (gI 1)) ∧ k = hS L S M) := by
  refine gMet_ofH pnL rfl rfl rfl (Nat.le_of_ble_eq_true rfl) (gAr (gAi (gAi (gAr gAn)))) ?_
  show G (gπ l) mL_putOn 0 [gR (some 1), gI p0, gI p1, gR (some 86), gU] [] (hS L S M) 1 6 _
  refine g_aload_n dL_putOn_0 rfl rfl ?_
  refine g_iconst (x := 0) dL_putOn_1 (by decide) ?_
  refine g_aload_n dL_putOn_2 rfl rfl ?_
  refine g_iload_n dL_putOn_3 rfl rfl ?_
  refine g_iload_n dL_putOn_4 rfl rfl ?_
  refine g_Vx2 dL_putOn_5 (sL_putOn_5 l) rfl (by show 1 < 87; omega) (Nat.le_of_ble_eq_true rfl) hc ?_
  refine gx_catch (i := 4) (len := 2) rfl ⟨by decide, by decide⟩ (by decide) wcat (by decide) (Or.inl ⟨dL_putOn_20, rfl⟩) ?_
  show G (gπ l) mL_putOn 22 [gR (some 1), gI p0, gI p1, gR (some 86), gU] [] _ 0 0 _
  refine g_iconst (x := 1) dL_putOn_22 (by decide) ?_
  exact g_iret dL_putOn_23 (Or.inl rfl) ⟨rfl, rfl⟩
set_option maxHeartbeats 1000000 in
theorem wL_takeOff_1 (l : Launch) {L : Nat} {S S' : sT} {M : Nat → Nat → Int} {p0 p1 : Int} {x : Int} (hc : gMi (gπ l) mX5_takeOff yX5_takeOff [gR (some 1), gI p0, gI p1] (hS L S M) x (hS L S' M)) (hx : x = 0 ∨ x = 1) : gMet (gπ l) mL_takeOff yL_takeOff [gR (some 1), gI p0, gI p1, gR (some 86)] (hS L S M) 1 6 (fun r k => r = some (some (gI 0)) ∧ k = hS L S' (up M 86 0 x)) := by
  refine gMet_ofH pnL rfl rfl rfl (Nat.le_of_ble_eq_true rfl) (gAr (gAi (gAi (gAr gAn)))) ?_
  show G (gπ l) mL_takeOff 0 [gR (some 1), gI p0, gI p1, gR (some 86), gU] [] (hS L S M) 1 6 _
  refine g_aload_n dL_takeOff_0 rfl rfl ?_
  refine g_iconst (x := 0) dL_takeOff_1 (by decide) ?_
  refine g_aload_n dL_takeOff_2 rfl rfl ?_
  refine g_iload_n dL_takeOff_3 rfl rfl ?_
  refine g_iload_n dL_takeOff_4 rfl rfl ?_
  refine g_Vi2 dL_takeOff_5 (sL_takeOff_5 l) rfl (by show 1 < 87; omega) (Nat.le_of_ble_eq_true rfl) hc ?_
  refine g_if_eq (tgt := 15) dL_takeOff_8 (by decide) (fun c8 => ?_) (fun c8 => ?_)
  · refine g_lconst (x := 0) dL_takeOff_15 (by decide) ?_
    refine m_last dL_takeOff_16 rfl ?_
    refine g_goto (tgt := 24) dL_takeOff_17 (by decide) ?_
    refine g_iconst (x := 0) dL_takeOff_24 (by decide) ?_
    exact g_iret dL_takeOff_25 (Or.inl rfl) ⟨rfl, by rw [show x = 0 by omega]⟩
  · refine g_lconst (x := 1) dL_takeOff_11 (by decide) ?_
    refine g_goto (tgt := 16) dL_takeOff_12 (by decide) ?_
    refine m_last dL_takeOff_16 rfl ?_
    refine g_goto (tgt := 24) dL_takeOff_17 (by decide) ?_
    refine g_iconst (x := 0) dL_takeOff_24 (by decide) ?_
    exact g_iret dL_takeOff_25 (Or.inl rfl) ⟨rfl, by rw [show x = 1 by omega]⟩
set_option maxHeartbeats 1000000 in
theorem wL_takeOff_x (l : Launch) {L : Nat} {S : sT} {M : Nat → Nat → Int} {p0 p1 : Int} (hc : gMx (gπ l) mX5_takeOff yX5_takeOff [gR (some 1), gI p0, gI p1] (hS L S M) (hS L S M)) : gMet (gπ l) mL_takeOff yL_takeOff [gR (some 1), gI p0, gI p1, gR (some 86)] (hS L S M) 1 6 (fun r k => r = some (some (gI 1)) ∧ k = hS L S M) := by
  refine gMet_ofH pnL rfl rfl rfl (Nat.le_of_ble_eq_true rfl) (gAr (gAi (gAi (gAr gAn)))) ?_
  show G (gπ l) mL_takeOff 0 [gR (some 1), gI p0, gI p1, gR (some 86), gU] [] (hS L S M) 1 6 _
  refine g_aload_n dL_takeOff_0 rfl rfl ?_
  refine g_iconst (x := 0) dL_takeOff_1 (by decide) ?_
  refine g_aload_n dL_takeOff_2 rfl rfl ?_
  refine g_iload_n dL_takeOff_3 rfl rfl ?_
  refine g_iload_n dL_takeOff_4 rfl rfl ?_
  refine g_Vx2 dL_takeOff_5 (sL_takeOff_5 l) rfl (by show 1 < 87; omega) (Nat.le_of_ble_eq_true rfl) hc ?_
  refine gx_catch (i := 4) (len := 2) rfl ⟨by decide, by decide⟩ (by decide) wcat (by decide) (Or.inl ⟨dL_takeOff_20, rfl⟩) ?_
  show G (gπ l) mL_takeOff 22 [gR (some 1), gI p0, gI p1, gR (some 86), gU] [] _ 0 0 _
  refine g_iconst (x := 1) dL_takeOff_22 (by decide) ?_
  exact g_iret dL_takeOff_23 (Or.inl rfl) ⟨rfl, rfl⟩
set_option maxHeartbeats 1000000 in
theorem wL_plan_1 (l : Launch) {L : Nat} {S S' : sT} {M : Nat → Nat → Int} {p0 : Int} {x : Int} (hc : gMi (gπ l) mX5_plan yX5_plan [gR (some 1), gI p0] (hS L S M) x (hS L S' M)) : gMet (gπ l) mL_plan yL_plan [gR (some 1), gI p0, gR (some 86)] (hS L S M) 1 6 (fun r k => r = some (some (gI 0)) ∧ k = hS L S' (up M 86 0 x)) := by
  refine gMet_ofH pnL rfl rfl rfl (Nat.le_of_ble_eq_true rfl) (gAr (gAi (gAr gAn))) ?_
  show G (gπ l) mL_plan 0 [gR (some 1), gI p0, gR (some 86), gU] [] (hS L S M) 1 6 _
  refine g_aload_n dL_plan_0 rfl rfl ?_
  refine g_iconst (x := 0) dL_plan_1 (by decide) ?_
  refine g_aload_n dL_plan_2 rfl rfl ?_
  refine g_iload_n dL_plan_3 rfl rfl ?_
  refine g_Vi1 dL_plan_4 (sL_plan_4 l) rfl (by show 1 < 87; omega) (Nat.le_of_ble_eq_true rfl) hc ?_
  refine g_i2l dL_plan_7 ?_
  refine m_last dL_plan_8 rfl ?_
  refine g_goto (tgt := 15) dL_plan_9 (by decide) ?_
  refine g_iconst (x := 0) dL_plan_15 (by decide) ?_
  exact g_iret dL_plan_16 (Or.inl rfl) ⟨rfl, rfl⟩
set_option maxHeartbeats 1000000 in
theorem wL_plan_x (l : Launch) {L : Nat} {S : sT} {M : Nat → Nat → Int} {p0 : Int} (hc : gMx (gπ l) mX5_plan yX5_plan [gR (some 1), gI p0] (hS L S M) (hS L S M)) : gMet (gπ l) mL_plan yL_plan [gR (some 1), gI p0, gR (some 86)] (hS L S M) 1 6 (fun r k => r = some (some (gI 1)) ∧ k = hS L S M) := by
  refine gMet_ofH pnL rfl rfl rfl (Nat.le_of_ble_eq_true rfl) (gAr (gAi (gAr gAn))) ?_
  show G (gπ l) mL_plan 0 [gR (some 1), gI p0, gR (some 86), gU] [] (hS L S M) 1 6 _
  refine g_aload_n dL_plan_0 rfl rfl ?_
  refine g_iconst (x := 0) dL_plan_1 (by decide) ?_
  refine g_aload_n dL_plan_2 rfl rfl ?_
  refine g_iload_n dL_plan_3 rfl rfl ?_
  refine g_Vx1 dL_plan_4 (sL_plan_4 l) rfl (by show 1 < 87; omega) (Nat.le_of_ble_eq_true rfl) hc ?_
  refine gx_catch (i := 3) (len := 1) rfl ⟨by decide, by decide⟩ (by decide) wcat (by decide) (Or.inr ⟨3, dL_plan_12, rfl, rfl⟩) ?_
  show G (gπ l) mL_plan 13 [gR (some 1), gI p0, gR (some 86), gU] [] _ 0 0 _
  refine g_iconst (x := 1) dL_plan_13 (by decide) ?_
  exact g_iret dL_plan_14 (Or.inl rfl) ⟨rfl, rfl⟩
set_option maxHeartbeats 1000000 in
theorem wL_release_1 (l : Launch) {L : Nat} {S S' : sT} {M : Nat → Nat → Int} {p0 : Int} {x : Int} (hc : gMi (gπ l) mX5_release yX5_release [gR (some 1), gI p0] (hS L S M) x (hS L S' M)) (hx : x = 0 ∨ x = 1) : gMet (gπ l) mL_release yL_release [gR (some 1), gI p0, gR (some 86)] (hS L S M) 1 6 (fun r k => r = some (some (gI 0)) ∧ k = hS L S' (up M 86 0 x)) := by
  refine gMet_ofH pnL rfl rfl rfl (Nat.le_of_ble_eq_true rfl) (gAr (gAi (gAr gAn))) ?_
  show G (gπ l) mL_release 0 [gR (some 1), gI p0, gR (some 86), gU] [] (hS L S M) 1 6 _
  refine g_aload_n dL_release_0 rfl rfl ?_
  refine g_iconst (x := 0) dL_release_1 (by decide) ?_
  refine g_aload_n dL_release_2 rfl rfl ?_
  refine g_iload_n dL_release_3 rfl rfl ?_
  refine g_Vi1 dL_release_4 (sL_release_4 l) rfl (by show 1 < 87; omega) (Nat.le_of_ble_eq_true rfl) hc ?_
  refine g_if_eq (tgt := 14) dL_release_7 (by decide) (fun c7 => ?_) (fun c7 => ?_)
  · refine g_lconst (x := 0) dL_release_14 (by decide) ?_
    refine m_last dL_release_15 rfl ?_
    refine g_goto (tgt := 22) dL_release_16 (by decide) ?_
    refine g_iconst (x := 0) dL_release_22 (by decide) ?_
    exact g_iret dL_release_23 (Or.inl rfl) ⟨rfl, by rw [show x = 0 by omega]⟩
  · refine g_lconst (x := 1) dL_release_10 (by decide) ?_
    refine g_goto (tgt := 15) dL_release_11 (by decide) ?_
    refine m_last dL_release_15 rfl ?_
    refine g_goto (tgt := 22) dL_release_16 (by decide) ?_
    refine g_iconst (x := 0) dL_release_22 (by decide) ?_
    exact g_iret dL_release_23 (Or.inl rfl) ⟨rfl, by rw [show x = 1 by omega]⟩
set_option maxHeartbeats 1000000 in
theorem wL_release_x (l : Launch) {L : Nat} {S : sT} {M : Nat → Nat → Int} {p0 : Int} (hc : gMx (gπ l) mX5_release yX5_release [gR (some 1), gI p0] (hS L S M) (hS L S M)) : gMet (gπ l) mL_release yL_release [gR (some 1), gI p0, gR (some 86)] (hS L S M) 1 6 (fun r k => r = some (some (gI 1)) ∧ k = hS L S M) := by
  refine gMet_ofH pnL rfl rfl rfl (Nat.le_of_ble_eq_true rfl) (gAr (gAi (gAr gAn))) ?_
  show G (gπ l) mL_release 0 [gR (some 1), gI p0, gR (some 86), gU] [] (hS L S M) 1 6 _
  refine g_aload_n dL_release_0 rfl rfl ?_
  refine g_iconst (x := 0) dL_release_1 (by decide) ?_
  refine g_aload_n dL_release_2 rfl rfl ?_
  refine g_iload_n dL_release_3 rfl rfl ?_
  refine g_Vx1 dL_release_4 (sL_release_4 l) rfl (by show 1 < 87; omega) (Nat.le_of_ble_eq_true rfl) hc ?_
  refine gx_catch (i := 3) (len := 1) rfl ⟨by decide, by decide⟩ (by decide) wcat (by decide) (Or.inr ⟨3, dL_release_19, rfl, rfl⟩) ?_
  show G (gπ l) mL_release 20 [gR (some 1), gI p0, gR (some 86), gU] [] _ 0 0 _
  refine g_iconst (x := 1) dL_release_20 (by decide) ?_
  exact g_iret dL_release_21 (Or.inl rfl) ⟨rfl, rfl⟩
set_option maxHeartbeats 1000000 in
theorem wL_where_1 (l : Launch) {L : Nat} {S S' : sT} {M : Nat → Nat → Int} {p0 p1 : Int} {x : Int} (hc : gMi (gπ l) mX5_where yX5_where [gR (some 1), gI p0, gI p1] (hS L S M) x (hS L S' M)) : gMet (gπ l) mL_where yL_where [gR (some 1), gI p0, gI p1, gR (some 86)] (hS L S M) 1 6 (fun r k => r = some (some (gI 0)) ∧ k = hS L S' (up M 86 0 x)) := by
  refine gMet_ofH pnL rfl rfl rfl (Nat.le_of_ble_eq_true rfl) (gAr (gAi (gAi (gAr gAn)))) ?_
  show G (gπ l) mL_where 0 [gR (some 1), gI p0, gI p1, gR (some 86), gU] [] (hS L S M) 1 6 _
  refine g_aload_n dL_where_0 rfl rfl ?_
  refine g_iconst (x := 0) dL_where_1 (by decide) ?_
  refine g_aload_n dL_where_2 rfl rfl ?_
  refine g_iload_n dL_where_3 rfl rfl ?_
  refine g_iload_n dL_where_4 rfl rfl ?_
  refine g_Vi2 dL_where_5 (sL_where_5 l) rfl (by show 1 < 87; omega) (Nat.le_of_ble_eq_true rfl) hc ?_
  refine g_i2l dL_where_8 ?_
  refine m_last dL_where_9 rfl ?_
  refine g_goto (tgt := 17) dL_where_10 (by decide) ?_
  refine g_iconst (x := 0) dL_where_17 (by decide) ?_
  exact g_iret dL_where_18 (Or.inl rfl) ⟨rfl, rfl⟩
set_option maxHeartbeats 1000000 in
theorem wL_where_x (l : Launch) {L : Nat} {S : sT} {M : Nat → Nat → Int} {p0 p1 : Int} (hc : gMx (gπ l) mX5_where yX5_where [gR (some 1), gI p0, gI p1] (hS L S M) (hS L S M)) : gMet (gπ l) mL_where yL_where [gR (some 1), gI p0, gI p1, gR (some 86)] (hS L S M) 1 6 (fun r k => r = some (some (gI 1)) ∧ k = hS L S M) := by
  refine gMet_ofH pnL rfl rfl rfl (Nat.le_of_ble_eq_true rfl) (gAr (gAi (gAi (gAr gAn)))) ?_
  show G (gπ l) mL_where 0 [gR (some 1), gI p0, gI p1, gR (some 86), gU] [] (hS L S M) 1 6 _
  refine g_aload_n dL_where_0 rfl rfl ?_
  refine g_iconst (x := 0) dL_where_1 (by decide) ?_
  refine g_aload_n dL_where_2 rfl rfl ?_
  refine g_iload_n dL_where_3 rfl rfl ?_
  refine g_iload_n dL_where_4 rfl rfl ?_
  refine g_Vx2 dL_where_5 (sL_where_5 l) rfl (by show 1 < 87; omega) (Nat.le_of_ble_eq_true rfl) hc ?_
  refine gx_catch (i := 4) (len := 2) rfl ⟨by decide, by decide⟩ (by decide) wcat (by decide) (Or.inl ⟨dL_where_13, rfl⟩) ?_
  show G (gπ l) mL_where 15 [gR (some 1), gI p0, gI p1, gR (some 86), gU] [] _ 0 0 _
  refine g_iconst (x := 1) dL_where_15 (by decide) ?_
  exact g_iret dL_where_16 (Or.inl rfl) ⟨rfl, rfl⟩
set_option maxHeartbeats 1000000 in
theorem wL_gap_1 (l : Launch) {L : Nat} {S S' : sT} {M : Nat → Nat → Int} {p0 : Int} {x : Int} (hc : gMi (gπ l) mX5_gap yX5_gap [gR (some 1), gI p0] (hS L S M) x (hS L S' M)) : gMet (gπ l) mL_gap yL_gap [gR (some 1), gI p0, gR (some 86)] (hS L S M) 1 6 (fun r k => r = some (some (gI 0)) ∧ k = hS L S' (up M 86 0 x)) := by
  refine gMet_ofH pnL rfl rfl rfl (Nat.le_of_ble_eq_true rfl) (gAr (gAi (gAr gAn))) ?_
  show G (gπ l) mL_gap 0 [gR (some 1), gI p0, gR (some 86), gU] [] (hS L S M) 1 6 _
  refine g_aload_n dL_gap_0 rfl rfl ?_
  refine g_iconst (x := 0) dL_gap_1 (by decide) ?_
  refine g_aload_n dL_gap_2 rfl rfl ?_
  refine g_iload_n dL_gap_3 rfl rfl ?_
  refine g_Vi1 dL_gap_4 (sL_gap_4 l) rfl (by show 1 < 87; omega) (Nat.le_of_ble_eq_true rfl) hc ?_
  refine g_i2l dL_gap_7 ?_
  refine m_last dL_gap_8 rfl ?_
  refine g_goto (tgt := 15) dL_gap_9 (by decide) ?_
  refine g_iconst (x := 0) dL_gap_15 (by decide) ?_
  exact g_iret dL_gap_16 (Or.inl rfl) ⟨rfl, rfl⟩
set_option maxHeartbeats 1000000 in
theorem wL_gap_x (l : Launch) {L : Nat} {S : sT} {M : Nat → Nat → Int} {p0 : Int} (hc : gMx (gπ l) mX5_gap yX5_gap [gR (some 1), gI p0] (hS L S M) (hS L S M)) : gMet (gπ l) mL_gap yL_gap [gR (some 1), gI p0, gR (some 86)] (hS L S M) 1 6 (fun r k => r = some (some (gI 1)) ∧ k = hS L S M) := by
  refine gMet_ofH pnL rfl rfl rfl (Nat.le_of_ble_eq_true rfl) (gAr (gAi (gAr gAn))) ?_
  show G (gπ l) mL_gap 0 [gR (some 1), gI p0, gR (some 86), gU] [] (hS L S M) 1 6 _
  refine g_aload_n dL_gap_0 rfl rfl ?_
  refine g_iconst (x := 0) dL_gap_1 (by decide) ?_
  refine g_aload_n dL_gap_2 rfl rfl ?_
  refine g_iload_n dL_gap_3 rfl rfl ?_
  refine g_Vx1 dL_gap_4 (sL_gap_4 l) rfl (by show 1 < 87; omega) (Nat.le_of_ble_eq_true rfl) hc ?_
  refine gx_catch (i := 3) (len := 1) rfl ⟨by decide, by decide⟩ (by decide) wcat (by decide) (Or.inr ⟨3, dL_gap_12, rfl, rfl⟩) ?_
  show G (gπ l) mL_gap 13 [gR (some 1), gI p0, gR (some 86), gU] [] _ 0 0 _
  refine g_iconst (x := 1) dL_gap_13 (by decide) ?_
  exact g_iret dL_gap_14 (Or.inl rfl) ⟨rfl, rfl⟩
