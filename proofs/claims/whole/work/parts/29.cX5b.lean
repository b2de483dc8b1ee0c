/-! contracts: the desk at a tick -/
theorem oNear_age {C : Nat → Nat → Int} {n : Nat} {x s d : Int} : oNear (up C n 5 x) s d = oNear C s d := by
  unfold oNear
  refine anyTo_congr 60 (fun j hj => ?_)
  rw [up_slot (by omega), up_slot (by omega), up_slot (by omega)]
theorem oSpc_age {S : sT} {n s : Nat} {x : Int} (h : 4 ≤ n) : oSpc (up S.1 n 5 x, S.2) s = oSpc S s := by
  unfold oSpc
  dsimp only
  rw [up_cell (by omega)]
set_option maxHeartbeats 1000000 in
theorem cX5_workZones (l : Launch) {L : Nat} {S : sT} {M : Nat → Nat → Int} (hw : Wf S) {s : Nat} (hs : s < 2) : gMv (gπ l) mX5_workZones yX5_workZones [gR (some 1), gR (some (70 + 2 * s))] (hS L S M) (hS L (oZones S s 12) M) := by
  refine gMet_of pnX5 rfl rfl rfl (Nat.le_of_ble_eq_true rfl) (gAr (gAr gAn)) ?_
  show G (gπ l) mX5_workZones 0 [gR (some 1), gR (some (70 + 2 * s)), gU, gU] [] (hS L S M) 0 0 _
  have loop : ∀ (z : Nat) (S : sT), z ≤ 12 → Wf S → ∀ e3 : gV, G (gπ l) mX5_workZones 3 [gR (some 1), gR (some (70 + 2 * s)), gI (z : Int), e3] [] (hS L S M) 0 0 (fun r k9 => r = some none ∧ k9 = hS L (oZones S s z) M) := by
    intro z
    induction z with
    | zero =>
      intro S hz hw e3
      refine g_iload_n dX5_workZones_3 rfl rfl ?_
      refine g_iconst (x := 1) dX5_workZones_4 (by decide) ?_
      refine g_icmp_lt (tgt := 79) dX5_workZones_5 (by decide) (fun c5 => ?_) (fun c5 => absurd c5 (by omega))
      exact g_vret dX5_workZones_79 rfl ⟨rfl, rfl⟩
    | succ z ih =>
      intro S hz hw e3
      have hnum := hw.1 s hs
      refine g_iload_n dX5_workZones_3 rfl rfl ?_
      refine g_iconst (x := 1) dX5_workZones_4 (by decide) ?_
      refine g_icmp_lt (tgt := 79) dX5_workZones_5 (by decide) (fun c5 => absurd c5 (by omega)) (fun c5 => ?_)
      refine g_aload_n dX5_workZones_8 rfl rfl ?_
      refine p_getR (o := some (71 + 2 * s)) dX5_workZones_9 (fX5_82 l) (by decide) (T0_st (by omega)) (by omega) (rr_zs (by omega)) ?_
      refine g_iload_n dX5_workZones_12 rfl rfl ?_
      refine p_aald (ci := 0) (len := 13) (o := S.2.1 s (z + 1)) (kc0 l) dX5_workZones_13 (T0_zones (by omega)) (by omega) (by omega) (by omega) (rr_zone (by omega)) ?_
      refine e_astore_n (loc' := [gR (some 1), gR (some (70 + 2 * s)), gI ((z + 1 : Nat) : Int), gR (S.2.1 s (z + 1))]) dX5_workZones_14 rfl (by decide) rfl ?_
      refine g_aload_n dX5_workZones_15 rfl rfl ?_
      refine g_ifnull (tgt := 73) dX5_workZones_16 (by decide) (fun c16 => ?_) (fun n16 c16 => ?_)
      · rw [c16]
        refine e_iinc (v := (z : Int)) (loc' := [gR (some 1), gR (some (70 + 2 * s)), gI ((z : Int)), gR (none)]) dX5_workZones_73 (by decide) rfl (by rw [gadd_eq (by omega) (by omega)]; omega) rfl ?_
        refine g_goto (tgt := 3) dX5_workZones_76 (by decide) ?_
        rw [show oZones S s (z + 1) = oZones (oZone S s (z + 1)) s z from rfl, show oZone S s (z + 1) = S from by unfold oZone; rw [c16]]
        exact ih S (by omega) hw _
      · rw [c16]
        obtain ⟨h1, h2⟩ := hw.2.1 s (z + 1) n16 c16
        refine g_aload_n dX5_workZones_19 rfl rfl ?_
        refine g_dupR dX5_workZones_20 ?_
        refine c_getI (x := S.1 n16 5) dX5_workZones_21 (fX5_152 l) rfl (T0_cab (by omega) (by omega)) (by omega) rfl ?_
        refine g_iconst (x := 1) dX5_workZones_24 (by decide) ?_
        refine e_iadd (v := gadd (S.1 n16 5) 1) dX5_workZones_25 rfl ?_
        refine c_putI dX5_workZones_26 (fX5_152 l) gTX0 ⟨rfl, rfl⟩ rfl (T0_cab (by omega) (by omega)) (by omega) (by omega) ?_
        refine g_iload_n dX5_workZones_29 rfl rfl ?_
        refine g_bipush (x := 12) dX5_workZones_30 (by decide) ?_
        refine g_icmp_ge (tgt := 43) dX5_workZones_32 (by decide) (fun c32 => ?_) (fun c32 => ?_)
        · refine g_aload_n dX5_workZones_43 rfl rfl ?_
          refine g_Vi0 dX5_workZones_44 (sX5_workZones_44 l) (T0_cab (by omega) (by omega)) (by show n16 < 87; omega) (Nat.le_of_ble_eq_true rfl) (gMi_to (if 0 ≤ S.1 n16 6 then 1 else 0) (cX0_isClamping l h1 h2) (by rw [up_slot (by omega)])) ?_
          refine g_if_eq (tgt := 59) dX5_workZones_47 (by decide) (fun c47 => ?_) (fun c47 => ?_)
          · have c8 : ¬ 0 ≤ S.1 n16 6 := by split at c47 <;> omega
            refine g_aload_n dX5_workZones_59 rfl rfl ?_
            refine g_aload_n dX5_workZones_60 rfl rfl ?_
            refine g_aload_n dX5_workZones_61 rfl rfl ?_
            refine g_Vi2 dX5_workZones_62 (sX5_workZones_62 l) rfl (by show 1 < 87; omega) (Nat.le_of_ble_eq_true rfl) (gMi_to (if 15 ≤ gadd (S.1 n16 5) 1 ∧ S.1 1 4 = 0 ∧ oNear S.1 (s : Int) (oSpc S s) = false then 1 else 0) (cX5_mayClamp l (S := (up S.1 n16 5 (gadd (S.1 n16 5) 1), S.2)) hs (by dsimp only; rw [up_cell (by omega)]; exact hnum) h1 h2) (by simp only [up_same, up_cell (show (1 : Nat) ≠ n16 by omega), oNear_age, oSpc_age h1])) ?_
            refine g_if_eq (tgt := 73) dX5_workZones_65 (by decide) (fun c65 => ?_) (fun c65 => ?_)
            · have c7 : ¬ (15 ≤ gadd (S.1 n16 5) 1 ∧ S.1 1 4 = 0 ∧ oNear S.1 (s : Int) (oSpc S s) = false) := by split at c65; omega; assumption
              refine e_iinc (v := (z : Int)) (loc' := [gR (some 1), gR (some (70 + 2 * s)), gI ((z : Int)), gR (some n16)]) dX5_workZones_73 (by decide) rfl (by rw [gadd_eq (by omega) (by omega)]; omega) rfl ?_
              refine g_goto (tgt := 3) dX5_workZones_76 (by decide) ?_
              have e : oZone S s (z + 1) = (up S.1 n16 5 (gadd (S.1 n16 5) 1), S.2) := by unfold oZone; rw [c16]; dsimp only; rw [if_neg (by omega), if_neg c8, if_neg c7]
              rw [show oZones S s (z + 1) = oZones (oZone S s (z + 1)) s z from rfl]
              refine g_eq rfl ?_ (ih (oZone S s (z + 1)) (by omega) (hw.zone hs) _)
              rw [e]
              first | done | rfl
            · have c7 : 15 ≤ gadd (S.1 n16 5) 1 ∧ S.1 1 4 = 0 ∧ oNear S.1 (s : Int) (oSpc S s) = false := by split at c65; assumption; omega
              refine g_aload_n dX5_workZones_68 rfl rfl ?_
              refine g_iconst (x := 0) dX5_workZones_69 (by decide) ?_
              refine c_putI dX5_workZones_70 (fX5_155 l) gTX0 ⟨rfl, rfl⟩ rfl (T0_cab (by omega) (by omega)) (by omega) (by omega) ?_
              refine e_iinc (v := (z : Int)) (loc' := [gR (some 1), gR (some (70 + 2 * s)), gI ((z : Int)), gR (some n16)]) dX5_workZones_73 (by decide) rfl (by rw [gadd_eq (by omega) (by omega)]; omega) rfl ?_
              refine g_goto (tgt := 3) dX5_workZones_76 (by decide) ?_
              have e : oZone S s (z + 1) = (up (up S.1 n16 5 (gadd (S.1 n16 5) 1)) n16 6 0, S.2) := by unfold oZone; rw [c16]; dsimp only; rw [if_neg (by omega), if_neg c8, if_pos c7]
              rw [show oZones S s (z + 1) = oZones (oZone S s (z + 1)) s z from rfl]
              refine g_eq rfl ?_ (ih (oZone S s (z + 1)) (by omega) (hw.zone hs) _)
              rw [e]
              first | done | rfl
          · have c8 : 0 ≤ S.1 n16 6 := by split at c47 <;> omega
            refine g_aload_n dX5_workZones_50 rfl rfl ?_
            refine g_aload_n dX5_workZones_51 rfl rfl ?_
            refine g_aload_n dX5_workZones_52 rfl rfl ?_
            refine g_Vv2 dX5_workZones_53 (sX5_workZones_53 l) rfl (by show 1 < 87; omega) (Nat.le_of_ble_eq_true rfl) (cX5_goOnClamping l (S := (up S.1 n16 5 (gadd (S.1 n16 5) 1), S.2)) (hw.cab h1 h2 (by omega)) hs (by dsimp only; rw [up_cell (by omega)]; exact hnum) h1 h2) ?_
            refine g_goto (tgt := 73) dX5_workZones_56 (by decide) ?_
            refine e_iinc (v := (z : Int)) (loc' := [gR (some 1), gR (some (70 + 2 * s)), gI ((z : Int)), gR (some n16)]) dX5_workZones_73 (by decide) rfl (by rw [gadd_eq (by omega) (by omega)]; omega) rfl ?_
            refine g_goto (tgt := 3) dX5_workZones_76 (by decide) ?_
            have e : oZone S s (z + 1) = oClamp (up S.1 n16 5 (gadd (S.1 n16 5) 1), S.2) s n16 := by unfold oZone; rw [c16]; dsimp only; rw [if_neg (by omega), if_pos c8]
            rw [show oZones S s (z + 1) = oZones (oZone S s (z + 1)) s z from rfl]
            refine g_eq rfl ?_ (ih (oZone S s (z + 1)) (by omega) (hw.zone hs) _)
            rw [e]
            first | done | rfl
        · by_cases c9 : 15 ≤ gadd (S.1 n16 5) 1 ∧ S.2.1 s (z + 1 + 1) = none
          · refine g_aload_n dX5_workZones_35 rfl rfl ?_
            refine g_iload_n dX5_workZones_36 rfl rfl ?_
            refine g_Vv1 dX5_workZones_37 (sX5_workZones_37 l) (T0_st (by omega)) (by show 70 + 2 * s < 87; omega) (Nat.le_of_ble_eq_true rfl) (cX3_goOn_go l (C := up S.1 n16 5 (gadd (S.1 n16 5) 1)) (Z := S.2.1) (R := S.2.2) hs (by rw [up_cell (by omega)]; exact hnum) h1 h2 (z := z + 1) (by omega) c16 (by rw [up_same]; exact c9.1) c9.2) ?_
            refine g_goto (tgt := 73) dX5_workZones_40 (by decide) ?_
            refine e_iinc (v := (z : Int)) (loc' := [gR (some 1), gR (some (70 + 2 * s)), gI ((z : Int)), gR (some n16)]) dX5_workZones_73 (by decide) rfl (by rw [gadd_eq (by omega) (by omega)]; omega) rfl ?_
            refine g_goto (tgt := 3) dX5_workZones_76 (by decide) ?_
            have e : oZone S s (z + 1) = (sAdm (up S.1 n16 5 (gadd (S.1 n16 5) 1)) n16 s ((z + 1 + 1 : Nat) : Int), up (up S.2.1 s (z + 1) none) s (z + 1 + 1) (some n16), S.2.2) := by unfold oZone; rw [c16]; dsimp only; rw [if_pos (by omega), if_pos c9]
            rw [show oZones S s (z + 1) = oZones (oZone S s (z + 1)) s z from rfl]
            refine g_eq rfl ?_ (ih (oZone S s (z + 1)) (by omega) (hw.zone hs) _)
            rw [e]
            first | done | rfl
          · refine g_aload_n dX5_workZones_35 rfl rfl ?_
            refine g_iload_n dX5_workZones_36 rfl rfl ?_
            refine g_Vv1 dX5_workZones_37 (sX5_workZones_37 l) (T0_st (by omega)) (by show 70 + 2 * s < 87; omega) (Nat.le_of_ble_eq_true rfl) (cX3_goOn_stay l (C := up S.1 n16 5 (gadd (S.1 n16 5) 1)) (Z := S.2.1) (R := S.2.2) hs (by rw [up_cell (by omega)]; exact hnum) h1 h2 (z := z + 1) (by omega) c16 (by rw [up_same]; by_cases q : 15 ≤ gadd (S.1 n16 5) 1; (right; cases hq : S.2.1 s (z + 1 + 1) with | none => exact absurd ⟨q, hq⟩ c9 | some v => exact ⟨v, rfl⟩); (left; omega))) ?_
            refine g_goto (tgt := 73) dX5_workZones_40 (by decide) ?_
            refine e_iinc (v := (z : Int)) (loc' := [gR (some 1), gR (some (70 + 2 * s)), gI ((z : Int)), gR (some n16)]) dX5_workZones_73 (by decide) rfl (by rw [gadd_eq (by omega) (by omega)]; omega) rfl ?_
            refine g_goto (tgt := 3) dX5_workZones_76 (by decide) ?_
            have e : oZone S s (z + 1) = (up S.1 n16 5 (gadd (S.1 n16 5) 1), S.2) := by unfold oZone; rw [c16]; dsimp only; rw [if_pos (by omega), if_neg c9]
            rw [show oZones S s (z + 1) = oZones (oZone S s (z + 1)) s z from rfl]
            refine g_eq rfl ?_ (ih (oZone S s (z + 1)) (by omega) (hw.zone hs) _)
            rw [e]
            first | done | rfl
  refine g_bipush (x := 12) dX5_workZones_0 (by decide) ?_
  refine e_istore_n (loc' := [gR (some 1), gR (some (70 + 2 * s)), gI 12, gU]) dX5_workZones_2 rfl (by decide) rfl ?_
  exact loop 12 S (by omega) hw gU
set_option maxHeartbeats 1000000 in
theorem cX5_isArrivalHeldUp (l : Launch) {L : Nat} {S : sT} {M : Nat → Nat → Int}  : gMi (gπ l) mX5_isArrivalHeldUp yX5_isArrivalHeldUp [gR (some 1)] (hS L S M) (if oHeld S = true then 1 else 0) (hS L S M) := by
  refine gMet_of pnX5 rfl rfl rfl (Nat.le_of_ble_eq_true rfl) (gAr gAn) ?_
  show G (gπ l) mX5_isArrivalHeldUp 0 [gR (some 1), gU] [] (hS L S M) 0 0 _
  refine g_iconst (x := 0) dX5_isArrivalHeldUp_0 (by decide) ?_
  refine e_istore_n (loc' := [gR (some 1), gI 0]) dX5_isArrivalHeldUp_1 rfl (by decide) rfl ?_
  refine g_iload_n dX5_isArrivalHeldUp_2 rfl rfl ?_
  refine g_iconst (x := 2) dX5_isArrivalHeldUp_3 (by decide) ?_
  refine g_icmp_ge (tgt := 42) dX5_isArrivalHeldUp_4 (by decide) (fun c4 => absurd c4 (by omega)) (fun c4 => ?_)
  refine g_aload_n dX5_isArrivalHeldUp_7 rfl rfl ?_
  refine p_getR (o := some 64) dX5_isArrivalHeldUp_8 (fX5_18 l) (by decide) rfl (by omega) rfl ?_
  refine g_iload_n dX5_isArrivalHeldUp_11 rfl rfl ?_
  refine p_aald (ci := 3) (len := 2) (o := some (70 + 2 * 0)) (kc3 l) dX5_isArrivalHeldUp_12 rfl (by omega) (by omega) (by omega) (rr_st (by omega)) ?_
  refine p_getR (o := some (71 + 2 * 0)) dX5_isArrivalHeldUp_13 (fX5_82 l) (by decide) (T0_st (by omega)) (by omega) (rr_zs (by omega)) ?_
  refine g_iconst (x := 1) dX5_isArrivalHeldUp_16 (by decide) ?_
  refine p_aald (ci := 0) (len := 13) (o := S.2.1 0 1) (kc0 l) dX5_isArrivalHeldUp_17 (T0_zones (by omega)) (by omega) (by omega) (by omega) (rr_zone (by omega)) ?_
  refine g_ifnull (tgt := 36) dX5_isArrivalHeldUp_18 (by decide) (fun c18 => ?_) (fun n18 c18 => ?_)
  · refine e_iinc (v := 1) (loc' := [gR (some 1), gI (1)]) dX5_isArrivalHeldUp_36 (by decide) rfl (by rw [gadd_eq (by omega) (by omega)]; rfl) rfl ?_
    refine g_goto (tgt := 2) dX5_isArrivalHeldUp_39 (by decide) ?_
    refine g_iload_n dX5_isArrivalHeldUp_2 rfl rfl ?_
    refine g_iconst (x := 2) dX5_isArrivalHeldUp_3 (by decide) ?_
    refine g_icmp_ge (tgt := 42) dX5_isArrivalHeldUp_4 (by decide) (fun c4 => absurd c4 (by omega)) (fun c4 => ?_)
    refine g_aload_n dX5_isArrivalHeldUp_7 rfl rfl ?_
    refine p_getR (o := some 64) dX5_isArrivalHeldUp_8 (fX5_18 l) (by decide) rfl (by omega) rfl ?_
    refine g_iload_n dX5_isArrivalHeldUp_11 rfl rfl ?_
    refine p_aald (ci := 3) (len := 2) (o := some (70 + 2 * 1)) (kc3 l) dX5_isArrivalHeldUp_12 rfl (by omega) (by omega) (by omega) (rr_st (by omega)) ?_
    refine p_getR (o := some (71 + 2 * 1)) dX5_isArrivalHeldUp_13 (fX5_82 l) (by decide) (T0_st (by omega)) (by omega) (rr_zs (by omega)) ?_
    refine g_iconst (x := 1) dX5_isArrivalHeldUp_16 (by decide) ?_
    refine p_aald (ci := 0) (len := 13) (o := S.2.1 1 1) (kc0 l) dX5_isArrivalHeldUp_17 (T0_zones (by omega)) (by omega) (by omega) (by omega) (rr_zone (by omega)) ?_
    refine g_ifnull (tgt := 36) dX5_isArrivalHeldUp_18 (by decide) (fun c18 => ?_) (fun n18 c18 => ?_)
    · refine e_iinc (v := 2) (loc' := [gR (some 1), gI (2)]) dX5_isArrivalHeldUp_36 (by decide) rfl (by rw [gadd_eq (by omega) (by omega)]; rfl) rfl ?_
      refine g_goto (tgt := 2) dX5_isArrivalHeldUp_39 (by decide) ?_
      refine g_iload_n dX5_isArrivalHeldUp_2 rfl rfl ?_
      refine g_iconst (x := 2) dX5_isArrivalHeldUp_3 (by decide) ?_
      refine g_icmp_ge (tgt := 42) dX5_isArrivalHeldUp_4 (by decide) (fun c4 => ?_) (fun c4 => absurd c4 (by omega))
      refine g_iconst (x := 0) dX5_isArrivalHeldUp_42 (by decide) ?_
      exact g_iret dX5_isArrivalHeldUp_43 (Or.inr ⟨rfl, Or.inl rfl⟩) ⟨congrArg gK1 (by unfold oHeld; simp_all), rfl⟩
    · refine g_aload_n dX5_isArrivalHeldUp_21 rfl rfl ?_
      refine p_getR (o := some 2) dX5_isArrivalHeldUp_22 (fX5_10 l) (by decide) rfl (by omega) rfl ?_
      refine g_iconst (x := 1) dX5_isArrivalHeldUp_25 (by decide) ?_
      refine g_iload_n dX5_isArrivalHeldUp_26 rfl rfl ?_
      refine e_isub (v := 0) dX5_isArrivalHeldUp_27 (by rw [gsub_eq (by omega) (by omega)]; rfl) ?_
      refine g_Vi1 dX5_isArrivalHeldUp_28 (sX5_isArrivalHeldUp_28 l) rfl (by show 2 < 87; omega) (Nat.le_of_ble_eq_true rfl) (cX1_hasNearEnd l) ?_
      refine g_if_eq (tgt := 36) dX5_isArrivalHeldUp_31 (by decide) (fun c31 => ?_) (fun c31 => ?_)
      · refine e_iinc (v := 2) (loc' := [gR (some 1), gI (2)]) dX5_isArrivalHeldUp_36 (by decide) rfl (by rw [gadd_eq (by omega) (by omega)]; rfl) rfl ?_
        refine g_goto (tgt := 2) dX5_isArrivalHeldUp_39 (by decide) ?_
        refine g_iload_n dX5_isArrivalHeldUp_2 rfl rfl ?_
        refine g_iconst (x := 2) dX5_isArrivalHeldUp_3 (by decide) ?_
        refine g_icmp_ge (tgt := 42) dX5_isArrivalHeldUp_4 (by decide) (fun c4 => ?_) (fun c4 => absurd c4 (by omega))
        refine g_iconst (x := 0) dX5_isArrivalHeldUp_42 (by decide) ?_
        exact g_iret dX5_isArrivalHeldUp_43 (Or.inr ⟨rfl, Or.inl rfl⟩) ⟨congrArg gK1 (by unfold oHeld; simp_all), rfl⟩
      · refine g_iconst (x := 1) dX5_isArrivalHeldUp_34 (by decide) ?_
        exact g_iret dX5_isArrivalHeldUp_35 (Or.inr ⟨rfl, Or.inr rfl⟩) ⟨congrArg gK1 (by unfold oHeld; simp_all), rfl⟩
  · refine g_aload_n dX5_isArrivalHeldUp_21 rfl rfl ?_
    refine p_getR (o := some 2) dX5_isArrivalHeldUp_22 (fX5_10 l) (by decide) rfl (by omega) rfl ?_
    refine g_iconst (x := 1) dX5_isArrivalHeldUp_25 (by decide) ?_
    refine g_iload_n dX5_isArrivalHeldUp_26 rfl rfl ?_
    refine e_isub (v := 1) dX5_isArrivalHeldUp_27 (by rw [gsub_eq (by omega) (by omega)]; rfl) ?_
    refine g_Vi1 dX5_isArrivalHeldUp_28 (sX5_isArrivalHeldUp_28 l) rfl (by show 2 < 87; omega) (Nat.le_of_ble_eq_true rfl) (cX1_hasNearEnd l) ?_
    refine g_if_eq (tgt := 36) dX5_isArrivalHeldUp_31 (by decide) (fun c31 => ?_) (fun c31 => ?_)
    · refine e_iinc (v := 1) (loc' := [gR (some 1), gI (1)]) dX5_isArrivalHeldUp_36 (by decide) rfl (by rw [gadd_eq (by omega) (by omega)]; rfl) rfl ?_
      refine g_goto (tgt := 2) dX5_isArrivalHeldUp_39 (by decide) ?_
      refine g_iload_n dX5_isArrivalHeldUp_2 rfl rfl ?_
      refine g_iconst (x := 2) dX5_isArrivalHeldUp_3 (by decide) ?_
      refine g_icmp_ge (tgt := 42) dX5_isArrivalHeldUp_4 (by decide) (fun c4 => absurd c4 (by omega)) (fun c4 => ?_)
      refine g_aload_n dX5_isArrivalHeldUp_7 rfl rfl ?_
      refine p_getR (o := some 64) dX5_isArrivalHeldUp_8 (fX5_18 l) (by decide) rfl (by omega) rfl ?_
      refine g_iload_n dX5_isArrivalHeldUp_11 rfl rfl ?_
      refine p_aald (ci := 3) (len := 2) (o := some (70 + 2 * 1)) (kc3 l) dX5_isArrivalHeldUp_12 rfl (by omega) (by omega) (by omega) (rr_st (by omega)) ?_
      refine p_getR (o := some (71 + 2 * 1)) dX5_isArrivalHeldUp_13 (fX5_82 l) (by decide) (T0_st (by omega)) (by omega) (rr_zs (by omega)) ?_
      refine g_iconst (x := 1) dX5_isArrivalHeldUp_16 (by decide) ?_
      refine p_aald (ci := 0) (len := 13) (o := S.2.1 1 1) (kc0 l) dX5_isArrivalHeldUp_17 (T0_zones (by omega)) (by omega) (by omega) (by omega) (rr_zone (by omega)) ?_
      refine g_ifnull (tgt := 36) dX5_isArrivalHeldUp_18 (by decide) (fun c18 => ?_) (fun n18 c18 => ?_)
      · refine e_iinc (v := 2) (loc' := [gR (some 1), gI (2)]) dX5_isArrivalHeldUp_36 (by decide) rfl (by rw [gadd_eq (by omega) (by omega)]; rfl) rfl ?_
        refine g_goto (tgt := 2) dX5_isArrivalHeldUp_39 (by decide) ?_
        refine g_iload_n dX5_isArrivalHeldUp_2 rfl rfl ?_
        refine g_iconst (x := 2) dX5_isArrivalHeldUp_3 (by decide) ?_
        refine g_icmp_ge (tgt := 42) dX5_isArrivalHeldUp_4 (by decide) (fun c4 => ?_) (fun c4 => absurd c4 (by omega))
        refine g_iconst (x := 0) dX5_isArrivalHeldUp_42 (by decide) ?_
        exact g_iret dX5_isArrivalHeldUp_43 (Or.inr ⟨rfl, Or.inl rfl⟩) ⟨congrArg gK1 (by unfold oHeld; simp_all), rfl⟩
      · refine g_aload_n dX5_isArrivalHeldUp_21 rfl rfl ?_
        refine p_getR (o := some 2) dX5_isArrivalHeldUp_22 (fX5_10 l) (by decide) rfl (by omega) rfl ?_
        refine g_iconst (x := 1) dX5_isArrivalHeldUp_25 (by decide) ?_
        refine g_iload_n dX5_isArrivalHeldUp_26 rfl rfl ?_
        refine e_isub (v := 0) dX5_isArrivalHeldUp_27 (by rw [gsub_eq (by omega) (by omega)]; rfl) ?_
        refine g_Vi1 dX5_isArrivalHeldUp_28 (sX5_isArrivalHeldUp_28 l) rfl (by show 2 < 87; omega) (Nat.le_of_ble_eq_true rfl) (cX1_hasNearEnd l) ?_
        refine g_if_eq (tgt := 36) dX5_isArrivalHeldUp_31 (by decide) (fun c31 => ?_) (fun c31 => ?_)
        · refine e_iinc (v := 2) (loc' := [gR (some 1), gI (2)]) dX5_isArrivalHeldUp_36 (by decide) rfl (by rw [gadd_eq (by omega) (by omega)]; rfl) rfl ?_
          refine g_goto (tgt := 2) dX5_isArrivalHeldUp_39 (by decide) ?_
          refine g_iload_n dX5_isArrivalHeldUp_2 rfl rfl ?_
          refine g_iconst (x := 2) dX5_isArrivalHeldUp_3 (by decide) ?_
          refine g_icmp_ge (tgt := 42) dX5_isArrivalHeldUp_4 (by decide) (fun c4 => ?_) (fun c4 => absurd c4 (by omega))
          refine g_iconst (x := 0) dX5_isArrivalHeldUp_42 (by decide) ?_
          exact g_iret dX5_isArrivalHeldUp_43 (Or.inr ⟨rfl, Or.inl rfl⟩) ⟨congrArg gK1 (by unfold oHeld; simp_all), rfl⟩
        · refine g_iconst (x := 1) dX5_isArrivalHeldUp_34 (by decide) ?_
          exact g_iret dX5_isArrivalHeldUp_35 (Or.inr ⟨rfl, Or.inr rfl⟩) ⟨congrArg gK1 (by unfold oHeld; simp_all), rfl⟩
    · refine g_iconst (x := 1) dX5_isArrivalHeldUp_34 (by decide) ?_
      exact g_iret dX5_isArrivalHeldUp_35 (Or.inr ⟨rfl, Or.inr rfl⟩) ⟨congrArg gK1 (by unfold oHeld; simp_all), rfl⟩
set_option maxHeartbeats 1000000 in
theorem cX5_targetSpeed (l : Launch) {L : Nat} {S : sT} {M : Nat → Nat → Int}  : gMi (gπ l) mX5_targetSpeed yX5_targetSpeed [gR (some 1)] (hS L S M) (oTarget S) (hS L S M) := by
  refine gMet_of pnX5 rfl rfl rfl (Nat.le_of_ble_eq_true rfl) (gAr gAn) ?_
  show G (gπ l) mX5_targetSpeed 0 [gR (some 1)] [] (hS L S M) 0 0 _
  refine g_aload_n dX5_targetSpeed_0 rfl rfl ?_
  refine c_getI (x := S.1 1 4) dX5_targetSpeed_1 (fX5_36 l) rfl rfl (by omega) rfl ?_
  refine g_if_ne (tgt := 14) dX5_targetSpeed_4 (by decide) (fun c4 => ?_) (fun c4 => ?_)
  · refine g_iconst (x := 0) dX5_targetSpeed_14 (by decide) ?_
    exact g_iret dX5_targetSpeed_15 (Or.inl rfl) ⟨congrArg gK1 (by unfold oTarget; first | rw [if_pos c4] | (rw [if_neg (by simpa using c4)]; split at c11; (rename_i q; rw [if_pos q]); omega)), rfl⟩
  · refine g_aload_n dX5_targetSpeed_7 rfl rfl ?_
    refine g_Vi0 dX5_targetSpeed_8 (sX5_targetSpeed_8 l) rfl (by show 1 < 87; omega) (Nat.le_of_ble_eq_true rfl) (cX5_isArrivalHeldUp l) ?_
    refine g_if_eq (tgt := 16) dX5_targetSpeed_11 (by decide) (fun c11 => ?_) (fun c11 => ?_)
    · refine g_aload_n dX5_targetSpeed_16 rfl rfl ?_
      refine p_getR (o := some 67) dX5_targetSpeed_17 (fX5_32 l) (by decide) rfl (by omega) rfl ?_
      refine c_getI (x := S.1 67 4) dX5_targetSpeed_20 (fX5_177 l) rfl rfl (by omega) rfl ?_
      refine g_sipush (x := 180) dX5_targetSpeed_23 (by decide) ?_
      refine g_icmp_le (tgt := 40) dX5_targetSpeed_26 (by decide) (fun c26 => ?_) (fun c26 => ?_)
      · refine g_aload_n dX5_targetSpeed_40 rfl rfl ?_
        refine c_getI (x := S.1 1 6) dX5_targetSpeed_41 (fX5_43 l) rfl rfl (by omega) rfl ?_
        exact g_iret dX5_targetSpeed_44 (Or.inl rfl) ⟨congrArg gK1 (by unfold oTarget; rw [if_neg (by simpa using c4)]; split at c11; omega; rename_i q; rw [if_neg q]; first | rw [if_pos c26] | rw [if_neg (by omega)]), rfl⟩
      · refine g_aload_n dX5_targetSpeed_29 rfl rfl ?_
        refine c_getI (x := S.1 1 6) dX5_targetSpeed_30 (fX5_43 l) rfl rfl (by omega) rfl ?_
        refine g_iconst (x := 2) dX5_targetSpeed_33 (by decide) ?_
        refine g_min dX5_targetSpeed_34 aX5_203 ⟨by decide, Nat.le_of_ble_eq_true rfl⟩ ?_
        refine g_goto (tgt := 44) dX5_targetSpeed_37 (by decide) ?_
        exact g_iret dX5_targetSpeed_44 (Or.inl rfl) ⟨congrArg gK1 (by unfold oTarget; rw [if_neg (by simpa using c4)]; split at c11; omega; rename_i q; rw [if_neg q]; first | rw [if_pos c26] | rw [if_neg (by omega)]), rfl⟩
    · refine g_iconst (x := 0) dX5_targetSpeed_14 (by decide) ?_
      exact g_iret dX5_targetSpeed_15 (Or.inl rfl) ⟨congrArg gK1 (by unfold oTarget; first | rw [if_pos c4] | (rw [if_neg (by simpa using c4)]; split at c11; (rename_i q; rw [if_pos q]); omega)), rfl⟩
