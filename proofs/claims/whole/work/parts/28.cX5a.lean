/-! contracts: the desk, first half -/
abbrev gNm : List String := ["java/lang/RuntimeException", "java/lang/Exception"]
set_option maxRecDepth 100000 in
theorem wthr0 : (vx_atS "RopewayDesk" 62 gIAE gNm).all (fun w => decide (w ∈ gWS) || decide (w ∈ gNG)) = true := by decide +kernel
theorem wthr (l : Launch) : Cond.classLink "RopewayDesk" 58 gIAE ∈ (gπ l).2.1 ∧ Cond.initialized gIAE ∈ (gπ l).2.1 ∧ (∀ w ∈ vx_atS "RopewayDesk" 62 gIAE gNm, w ∈ (gπ l).2.1 ∨ w ∈ gNG) ∧ (gπ l).2.1.all goodWord = true := by
  refine ⟨gW_t 210 (by decide +kernel) rfl, gW_t 11 (by decide +kernel) rfl, fun w hw => ?_, gWS_good⟩
  have h := List.all_eq_true.mp wthr0 w hw
  rw [Bool.or_eq_true, decide_eq_true_eq, decide_eq_true_eq] at h
  exact h
theorem fthr : Bundle.fit gIAE = true ∧ ∀ n ∈ gNm, Bundle.fit n = true := by decide +kernel
section
variable {L : Nat} {S : sT} {M : Nat → Nat → Int}
theorem cX0_stop (l : Launch) {n : Nat} (h1 : 4 ≤ n) (h2 : n < 64) {C : Nat → Nat → Int} {Z : Nat → Nat → Option Nat} {R : Nat → Option Nat} : gMv (gπ l) mX0_stopClamping yX0_stopClamping [gR (some n)] (hq L C M Z R) (hq L (oStop C n) M Z R) := cX0_stopClamping l h1 h2
theorem cX2_append2 (l : Launch) {n : Nat} (h1 : 4 ≤ n) (h2 : n < 64) (h0 : 0 ≤ S.1 65 1) (h20 : S.1 65 1 < 20) : gMv (gπ l) mX2_append yX2_append [gR (some 65), gR (some n)] (hS L S M) (hS L (oAppend S n) M) := by
  refine gMv_to (cX2_append l h1 h2 (sz := (S.1 65 1).toNat) (by omega) (by omega)) ?_
  unfold oAppend
  rw [show (((S.1 65 1).toNat + 1 : Nat) : Int) = S.1 65 1 + 1 by omega]
end
set_option maxHeartbeats 1000000 in
theorem cX5_checkStation (l : Launch) {L : Nat} {S : sT} {M : Nat → Nat → Int} {s : Int} (h1 : 0 ≤ s) (h2 : s < 2) : gMv (gπ l) mX5_checkStation yX5_checkStation [gI s] (hS L S M) (hS L S M) := by
  refine gMet_of pnX5 rfl rfl rfl (Nat.le_of_ble_eq_true rfl) (gAi gAn) ?_
  show G (gπ l) mX5_checkStation 0 [gI s] [] (hS L S M) 0 0 _
  refine g_iload_n dX5_checkStation_0 rfl rfl ?_
  refine g_if_lt (tgt := 9) dX5_checkStation_1 (by decide) (fun c1 => absurd c1 (by omega)) (fun c1 => ?_)
  refine g_iload_n dX5_checkStation_4 rfl rfl ?_
  refine g_iconst (x := 2) dX5_checkStation_5 (by decide) ?_
  refine g_icmp_lt (tgt := 19) dX5_checkStation_6 (by decide) (fun c6 => ?_) (fun c6 => absurd c6 (by omega))
  exact g_vret dX5_checkStation_19 rfl ⟨rfl, rfl⟩
set_option maxHeartbeats 1000000 in
theorem cX5_checkStation_x (l : Launch) {L : Nat} {S : sT} {M : Nat → Nat → Int} {s : Int} (h1 : ¬ (0 ≤ s ∧ s < 2)) : gMx (gπ l) mX5_checkStation yX5_checkStation [gI s] (hS L S M) (hS L S M) := by
  refine gMet_of pnX5 rfl rfl rfl (Nat.le_of_ble_eq_true rfl) (gAi gAn) ?_
  show G (gπ l) mX5_checkStation 0 [gI s] [] (hS L S M) 1 6 _
  refine g_iload_n dX5_checkStation_0 rfl rfl ?_
  refine g_if_lt (tgt := 9) dX5_checkStation_1 (by decide) (fun c1 => ?_) (fun c1 => ?_)
  · exact g_throw (mc := 0) (ms := 0) (names := gNm) (text := "no such station") dX5_checkStation_9 dX5_checkStation_12 dX5_checkStation_13 dX5_checkStation_15 dX5_checkStation_18 (wthr l) fthr (List.mem_of_getElem? (i := 2) rfl) rfl ⟨by decide, Nat.le_of_ble_eq_true rfl⟩ ⟨rfl, rfl⟩
  · refine g_iload_n dX5_checkStation_4 rfl rfl ?_
    refine g_iconst (x := 2) dX5_checkStation_5 (by decide) ?_
    refine g_icmp_lt (tgt := 19) dX5_checkStation_6 (by decide) (fun c6 => absurd c6 (by omega)) (fun c6 => ?_)
    exact g_throw (mc := 0) (ms := 0) (names := gNm) (text := "no such station") dX5_checkStation_9 dX5_checkStation_12 dX5_checkStation_13 dX5_checkStation_15 dX5_checkStation_18 (wthr l) fthr (List.mem_of_getElem? (i := 2) rfl) rfl ⟨by decide, Nat.le_of_ble_eq_true rfl⟩ ⟨rfl, rfl⟩
set_option maxHeartbeats 1000000 in
theorem cX5_checkCabin (l : Launch) {L : Nat} {S : sT} {M : Nat → Nat → Int} {s : Int} (h1 : 0 ≤ s) (h2 : s < 60) : gMv (gπ l) mX5_checkCabin yX5_checkCabin [gI s] (hS L S M) (hS L S M) := by
  refine gMet_of pnX5 rfl rfl rfl (Nat.le_of_ble_eq_true rfl) (gAi gAn) ?_
  show G (gπ l) mX5_checkCabin 0 [gI s] [] (hS L S M) 0 0 _
  refine g_iload_n dX5_checkCabin_0 rfl rfl ?_
  refine g_if_lt (tgt := 10) dX5_checkCabin_1 (by decide) (fun c1 => absurd c1 (by omega)) (fun c1 => ?_)
  refine g_iload_n dX5_checkCabin_4 rfl rfl ?_
  refine g_bipush (x := 60) dX5_checkCabin_5 (by decide) ?_
  refine g_icmp_lt (tgt := 20) dX5_checkCabin_7 (by decide) (fun c7 => ?_) (fun c7 => absurd c7 (by omega))
  exact g_vret dX5_checkCabin_20 rfl ⟨rfl, rfl⟩
set_option maxHeartbeats 1000000 in
theorem cX5_checkCabin_x (l : Launch) {L : Nat} {S : sT} {M : Nat → Nat → Int} {s : Int} (h1 : ¬ (0 ≤ s ∧ s < 60)) : gMx (gπ l) mX5_checkCabin yX5_checkCabin [gI s] (hS L S M) (hS L S M) := by
  refine gMet_of pnX5 rfl rfl rfl (Nat.le_of_ble_eq_true rfl) (gAi gAn) ?_
  show G (gπ l) mX5_checkCabin 0 [gI s] [] (hS L S M) 1 6 _
  refine g_iload_n dX5_checkCabin_0 rfl rfl ?_
  refine g_if_lt (tgt := 10) dX5_checkCabin_1 (by decide) (fun c1 => ?_) (fun c1 => ?_)
  · exact g_throw (mc := 0) (ms := 0) (names := gNm) (text := "no such cabin") dX5_checkCabin_10 dX5_checkCabin_13 dX5_checkCabin_14 dX5_checkCabin_16 dX5_checkCabin_19 (wthr l) fthr (List.mem_of_getElem? (i := 6) rfl) rfl ⟨by decide, Nat.le_of_ble_eq_true rfl⟩ ⟨rfl, rfl⟩
  · refine g_iload_n dX5_checkCabin_4 rfl rfl ?_
    refine g_bipush (x := 60) dX5_checkCabin_5 (by decide) ?_
    refine g_icmp_lt (tgt := 20) dX5_checkCabin_7 (by decide) (fun c7 => absurd c7 (by omega)) (fun c7 => ?_)
    exact g_throw (mc := 0) (ms := 0) (names := gNm) (text := "no such cabin") dX5_checkCabin_10 dX5_checkCabin_13 dX5_checkCabin_14 dX5_checkCabin_16 dX5_checkCabin_19 (wthr l) fthr (List.mem_of_getElem? (i := 6) rfl) rfl ⟨by decide, Nat.le_of_ble_eq_true rfl⟩ ⟨rfl, rfl⟩
set_option maxHeartbeats 1000000 in
theorem cX5_lock (l : Launch) {L : Nat} {S : sT} {M : Nat → Nat → Int} {k : Int} : gMv (gπ l) mX5_lock yX5_lock [gR (some 1), gI k] (hS L S M) (hS L ((oLock S.1 k, S.2)) M) := by
  refine gMet_of pnX5 rfl rfl rfl (Nat.le_of_ble_eq_true rfl) (gAr (gAi gAn)) ?_
  show G (gπ l) mX5_lock 0 [gR (some 1), gI k] [] (hS L S M) 0 0 _
  refine g_aload_n dX5_lock_0 rfl rfl ?_
  refine g_dupR dX5_lock_1 ?_
  refine c_getI (x := (S.1) 1 4) dX5_lock_2 (fX5_36 l) rfl rfl (by omega) rfl ?_
  refine g_iconst (x := 1) dX5_lock_5 (by decide) ?_
  refine g_iload_n dX5_lock_6 rfl rfl ?_
  refine e_ishl (v := gshl 1 k) dX5_lock_7 rfl ?_
  refine e_ior (v := gor ((S.1) 1 4) (gshl 1 k)) dX5_lock_8 rfl ?_
  refine c_putI dX5_lock_9 (fX5_36 l) gTX5 ⟨rfl, rfl⟩ rfl rfl (by omega) (by omega) ?_
  exact g_vret dX5_lock_12 rfl ⟨rfl, rfl⟩
def oCause (S : sT) (k : Int) : Int := if k = 1 then (if S.1 65 1 < 20 then 0 else 1) else if k = 2 then (if S.1 67 4 ≤ 250 then 0 else 1) else if k = 3 then (if oFar S.1 < 5700 then 0 else 1) else 0
set_option maxHeartbeats 1000000 in
theorem cX5_hasCauseStill (l : Launch) {L : Nat} {S : sT} {M : Nat → Nat → Int} {k : Int} : gMi (gπ l) mX5_hasCauseStill yX5_hasCauseStill [gR (some 1), gI k] (hS L S M) (oCause S k) (hS L S M) := by
  refine gMet_of pnX5 rfl rfl rfl (Nat.le_of_ble_eq_true rfl) (gAr (gAi gAn)) ?_
  show G (gπ l) mX5_hasCauseStill 0 [gR (some 1), gI k] [] (hS L S M) 0 0 _
  refine g_iload_n dX5_hasCauseStill_0 rfl rfl ?_
  rcases (by omega : (k < 1 ∨ 3 < k) ∨ k = 1 ∨ k = 2 ∨ k = 3) with w1 | w1 | w1 | w1
  · refine g_tableOut (tgt := 82) dX5_hasCauseStill_1 (by omega) (by decide) ?_
    refine g_iconst (x := 0) dX5_hasCauseStill_82 (by decide) ?_
    exact g_iret dX5_hasCauseStill_83 (Or.inr ⟨rfl, Or.inl rfl⟩) ⟨congrArg gK1 (by unfold oCause; (repeat' split) <;> omega), rfl⟩
  · refine g_tableIn (tgt := 28) (off := 27) dX5_hasCauseStill_1 (by omega) (by omega) (by rw [w1]; rfl) (by decide) ?_
    refine g_aload_n dX5_hasCauseStill_28 rfl rfl ?_
    refine p_getR (o := some 65) dX5_hasCauseStill_29 (fX5_25 l) (by decide) rfl (by omega) rfl ?_
    refine g_Vi0 dX5_hasCauseStill_32 (sX5_hasCauseStill_32 l) rfl (by show 65 < 87; omega) (Nat.le_of_ble_eq_true rfl) (cX2_hasRoom l) ?_
    refine g_if_ne (tgt := 42) dX5_hasCauseStill_35 (by decide) (fun c35 => ?_) (fun c35 => ?_)
    · refine g_iconst (x := 0) dX5_hasCauseStill_42 (by decide) ?_
      exact g_iret dX5_hasCauseStill_43 (Or.inr ⟨rfl, Or.inl rfl⟩) ⟨congrArg gK1 (by unfold oCause; (repeat' split) <;> omega), rfl⟩
    · refine g_iconst (x := 1) dX5_hasCauseStill_38 (by decide) ?_
      refine g_goto (tgt := 43) dX5_hasCauseStill_39 (by decide) ?_
      exact g_iret dX5_hasCauseStill_43 (Or.inr ⟨rfl, Or.inr rfl⟩) ⟨congrArg gK1 (by unfold oCause; (repeat' split) <;> omega), rfl⟩
  · refine g_tableIn (tgt := 44) (off := 43) dX5_hasCauseStill_1 (by omega) (by omega) (by rw [w1]; rfl) (by decide) ?_
    refine g_aload_n dX5_hasCauseStill_44 rfl rfl ?_
    refine p_getR (o := some 67) dX5_hasCauseStill_45 (fX5_32 l) (by decide) rfl (by omega) rfl ?_
    refine c_getI (x := (S.1) 67 4) dX5_hasCauseStill_48 (fX5_177 l) rfl rfl (by omega) rfl ?_
    refine g_sipush (x := 250) dX5_hasCauseStill_51 (by decide) ?_
    refine g_icmp_le (tgt := 61) dX5_hasCauseStill_54 (by decide) (fun c54 => ?_) (fun c54 => ?_)
    · refine g_iconst (x := 0) dX5_hasCauseStill_61 (by decide) ?_
      exact g_iret dX5_hasCauseStill_62 (Or.inr ⟨rfl, Or.inl rfl⟩) ⟨congrArg gK1 (by unfold oCause; (repeat' split) <;> omega), rfl⟩
    · refine g_iconst (x := 1) dX5_hasCauseStill_57 (by decide) ?_
      refine g_goto (tgt := 62) dX5_hasCauseStill_58 (by decide) ?_
      exact g_iret dX5_hasCauseStill_62 (Or.inr ⟨rfl, Or.inr rfl⟩) ⟨congrArg gK1 (by unfold oCause; (repeat' split) <;> omega), rfl⟩
  · refine g_tableIn (tgt := 63) (off := 62) dX5_hasCauseStill_1 (by omega) (by omega) (by rw [w1]; rfl) (by decide) ?_
    refine g_aload_n dX5_hasCauseStill_63 rfl rfl ?_
    refine p_getR (o := some 2) dX5_hasCauseStill_64 (fX5_10 l) (by decide) rfl (by omega) rfl ?_
    refine g_Vi0 dX5_hasCauseStill_67 (sX5_hasCauseStill_67 l) rfl (by show 2 < 87; omega) (Nat.le_of_ble_eq_true rfl) (gMi_to (oFar S.1) (cX1_farthest l) rfl) ?_
    refine g_sipush (x := 5700) dX5_hasCauseStill_70 (by decide) ?_
    refine g_icmp_lt (tgt := 80) dX5_hasCauseStill_73 (by decide) (fun c73 => ?_) (fun c73 => ?_)
    · refine g_iconst (x := 0) dX5_hasCauseStill_80 (by decide) ?_
      exact g_iret dX5_hasCauseStill_81 (Or.inr ⟨rfl, Or.inl rfl⟩) ⟨congrArg gK1 (by unfold oCause; (repeat' split) <;> omega), rfl⟩
    · refine g_iconst (x := 1) dX5_hasCauseStill_76 (by decide) ?_
      refine g_goto (tgt := 81) dX5_hasCauseStill_77 (by decide) ?_
      exact g_iret dX5_hasCauseStill_81 (Or.inr ⟨rfl, Or.inr rfl⟩) ⟨congrArg gK1 (by unfold oCause; (repeat' split) <;> omega), rfl⟩
set_option maxHeartbeats 1000000 in
theorem cX5_spotOf_1 (l : Launch) {L : Nat} {S : sT} {M : Nat → Nat → Int} {n : Nat} (h1 : 4 ≤ n) (h2 : n < 64) {p sz : Nat} (hpl : S.1 n 1 = 1) (hsz : S.1 65 1 = (sz : Int)) (h20 : sz ≤ 20) (hp : p < sz) (hR : S.2.2 p = some n) (hno : ∀ j, j < p → S.2.2 j ≠ some n) : gMi (gπ l) mX5_spotOf yX5_spotOf [gR (some 1), gR (some n)] (hS L S M) ((p : Int)) (hS L S M) := by
  refine gMet_of pnX5 rfl rfl rfl (Nat.le_of_ble_eq_true rfl) (gAr (gAr gAn)) ?_
  show G (gπ l) mX5_spotOf 0 [gR (some 1), gR (some n)] [] (hS L S M) 0 0 _
  refine g_aload_n dX5_spotOf_0 rfl rfl ?_
  refine c_getI (x := 1) dX5_spotOf_1 (fX5_111 l) rfl (T0_cab (by omega) (by omega)) (by omega) hpl ?_
  refine g_tableIn (tgt := 32) (off := 28) dX5_spotOf_4 (by omega) (by omega) rfl (by decide) ?_
  refine g_aload_n dX5_spotOf_32 rfl rfl ?_
  refine p_getR (o := some 65) dX5_spotOf_33 (fX5_25 l) (by decide) rfl (by omega) rfl ?_
  refine g_aload_n dX5_spotOf_36 rfl rfl ?_
  refine g_Vi1 dX5_spotOf_37 (sX5_spotOf_37 l) rfl (by show 65 < 87; omega) (Nat.le_of_ble_eq_true rfl) (cX2_placeOf l hsz h20 hp hR hno) ?_
  exact g_iret dX5_spotOf_40 (Or.inl rfl) ⟨rfl, rfl⟩
set_option maxHeartbeats 1000000 in
theorem cX5_spotOf_2 (l : Launch) {L : Nat} {S : sT} {M : Nat → Nat → Int} {n : Nat} (h1 : 4 ≤ n) (h2 : n < 64) (hpl : S.1 n 1 = 2) : gMi (gπ l) mX5_spotOf yX5_spotOf [gR (some 1), gR (some n)] (hS L S M) (S.1 n 3) (hS L S M) := by
  refine gMet_of pnX5 rfl rfl rfl (Nat.le_of_ble_eq_true rfl) (gAr (gAr gAn)) ?_
  show G (gπ l) mX5_spotOf 0 [gR (some 1), gR (some n)] [] (hS L S M) 0 0 _
  refine g_aload_n dX5_spotOf_0 rfl rfl ?_
  refine c_getI (x := 2) dX5_spotOf_1 (fX5_111 l) rfl (T0_cab (by omega) (by omega)) (by omega) hpl ?_
  refine g_tableIn (tgt := 41) (off := 37) dX5_spotOf_4 (by omega) (by omega) rfl (by decide) ?_
  refine g_aload_n dX5_spotOf_41 rfl rfl ?_
  refine c_getI (x := (S.1) n 3) dX5_spotOf_42 (fX5_138 l) rfl (T0_cab (by omega) (by omega)) (by omega) rfl ?_
  exact g_iret dX5_spotOf_45 (Or.inl rfl) ⟨rfl, rfl⟩
set_option maxHeartbeats 1000000 in
theorem cX5_spotOf_3 (l : Launch) {L : Nat} {S : sT} {M : Nat → Nat → Int} {n : Nat} (h1 : 4 ≤ n) (h2 : n < 64) (hpl : S.1 n 1 = 3) : gMi (gπ l) mX5_spotOf yX5_spotOf [gR (some 1), gR (some n)] (hS L S M) (S.1 n 4) (hS L S M) := by
  refine gMet_of pnX5 rfl rfl rfl (Nat.le_of_ble_eq_true rfl) (gAr (gAr gAn)) ?_
  show G (gπ l) mX5_spotOf 0 [gR (some 1), gR (some n)] [] (hS L S M) 0 0 _
  refine g_aload_n dX5_spotOf_0 rfl rfl ?_
  refine c_getI (x := 3) dX5_spotOf_1 (fX5_111 l) rfl (T0_cab (by omega) (by omega)) (by omega) hpl ?_
  refine g_tableIn (tgt := 46) (off := 42) dX5_spotOf_4 (by omega) (by omega) rfl (by decide) ?_
  refine g_aload_n dX5_spotOf_46 rfl rfl ?_
  refine c_getI (x := (S.1) n 4) dX5_spotOf_47 (fX5_197 l) rfl (T0_cab (by omega) (by omega)) (by omega) rfl ?_
  exact g_iret dX5_spotOf_50 (Or.inl rfl) ⟨rfl, rfl⟩
set_option maxHeartbeats 1000000 in
theorem cX5_spotOf_0 (l : Launch) {L : Nat} {S : sT} {M : Nat → Nat → Int} {n : Nat} (h1 : 4 ≤ n) (h2 : n < 64) (hpl : S.1 n 1 = 0) : gMi (gπ l) mX5_spotOf yX5_spotOf [gR (some 1), gR (some n)] (hS L S M) (-1) (hS L S M) := by
  refine gMet_of pnX5 rfl rfl rfl (Nat.le_of_ble_eq_true rfl) (gAr (gAr gAn)) ?_
  show G (gπ l) mX5_spotOf 0 [gR (some 1), gR (some n)] [] (hS L S M) 0 0 _
  refine g_aload_n dX5_spotOf_0 rfl rfl ?_
  refine c_getI (x := 0) dX5_spotOf_1 (fX5_111 l) rfl (T0_cab (by omega) (by omega)) (by omega) hpl ?_
  refine g_tableOut (tgt := 51) dX5_spotOf_4 (by omega) (by decide) ?_
  refine g_iconst (x := -1) dX5_spotOf_51 (by decide) ?_
  exact g_iret dX5_spotOf_52 (Or.inl rfl) ⟨rfl, rfl⟩
set_option maxHeartbeats 1000000 in
theorem cX5_letGo (l : Launch) {L : Nat} {S : sT} {M : Nat → Nat → Int} (hw : Wf S) : gMv (gπ l) mX5_letGo yX5_letGo [gR (some 1)] (hS L S M) (hS L (oGo S) M) := by
  refine gMet_of pnX5 rfl rfl rfl (Nat.le_of_ble_eq_true rfl) (gAr gAn) ?_
  show G (gπ l) mX5_letGo 0 [gR (some 1), gU, gU, gU] [] (hS L S M) 0 0 _
  have loop : ∀ (m k : Nat) (S : sT), k + m = 60 → Wf S → ∀ e2 e3 : gV, G (gπ l) mX5_letGo 2 [gR (some 1), gI (k : Int), e2, e3] [] (hS L S M) 0 0 (fun r k9 => r = some none ∧ k9 = hS L (oGoFrom S k m) M) := by
    intro m
    induction m with
    | zero =>
      intro k S hk hw e2 e3
      refine g_iload_n dX5_letGo_2 rfl rfl ?_
      refine g_bipush (x := 60) dX5_letGo_3 (by decide) ?_
      refine g_icmp_ge (tgt := 69) dX5_letGo_5 (by decide) (fun c5 => ?_) (fun c5 => absurd c5 (by omega))
      exact g_vret dX5_letGo_69 rfl ⟨rfl, rfl⟩
    | succ m ih =>
      intro k S hk hw e2 e3
      refine g_iload_n dX5_letGo_2 rfl rfl ?_
      refine g_bipush (x := 60) dX5_letGo_3 (by decide) ?_
      refine g_icmp_ge (tgt := 69) dX5_letGo_5 (by decide) (fun c5 => absurd c5 (by omega)) (fun c5 => ?_)
      refine g_aload_n dX5_letGo_8 rfl rfl ?_
      refine p_getR (o := some 2) dX5_letGo_9 (fX5_10 l) (by decide) rfl (by omega) rfl ?_
      refine p_getR (o := some 3) dX5_letGo_12 (fX5_108 l) (by decide) rfl (by omega) rfl ?_
      refine g_iload_n dX5_letGo_15 rfl rfl ?_
      refine p_aald (ci := 0) (len := 60) (o := some (4 + k)) (kc0 l) dX5_letGo_16 rfl (by omega) (by omega) (by omega) (rr_cab (by omega)) ?_
      refine e_astore_n (loc' := [gR (some 1), gI (k : Int), gR (some (4 + k)), e3]) dX5_letGo_17 rfl (by decide) rfl ?_
      refine g_aload_n dX5_letGo_18 rfl rfl ?_
      refine c_getI (x := (S.1) (4 + k) 1) dX5_letGo_19 (fX5_111 l) rfl (T0_cab (by omega) (by omega)) (by omega) rfl ?_
      refine g_iconst (x := 3) dX5_letGo_22 (by decide) ?_
      refine g_icmp_ne (tgt := 63) dX5_letGo_23 (by decide) (fun c23 => ?_) (fun c23 => ?_)
      · refine e_iinc (v := ((k + 1 : Nat) : Int)) (loc' := [gR (some 1), gI (((k + 1 : Nat) : Int)), gR (some (4 + k)), e3]) dX5_letGo_63 (by decide) rfl (gadd_nat (by omega)) rfl ?_
        refine g_goto (tgt := 2) dX5_letGo_66 (by decide) ?_
        have e : oGo1 S k = S := by unfold oGo1; rw [if_neg (by rintro ⟨a1, a2, a3⟩; first | omega | (rw [a3] at c54; cases c54))]
        have h9 := ih (k + 1) S (by omega) hw
        rw [show oGoFrom S k (m + 1) = oGoFrom (oGo1 S k) (k + 1) m from rfl, e]
        exact h9 _ _
      · refine g_aload_n dX5_letGo_26 rfl rfl ?_
        refine c_getI (x := (S.1) (4 + k) 4) dX5_letGo_27 (fX5_197 l) rfl (T0_cab (by omega) (by omega)) (by omega) rfl ?_
        refine g_sipush (x := 5700) dX5_letGo_30 (by decide) ?_
        refine g_icmp_lt (tgt := 63) dX5_letGo_33 (by decide) (fun c33 => ?_) (fun c33 => ?_)
        · refine e_iinc (v := ((k + 1 : Nat) : Int)) (loc' := [gR (some 1), gI (((k + 1 : Nat) : Int)), gR (some (4 + k)), e3]) dX5_letGo_63 (by decide) rfl (gadd_nat (by omega)) rfl ?_
          refine g_goto (tgt := 2) dX5_letGo_66 (by decide) ?_
          have e : oGo1 S k = S := by unfold oGo1; rw [if_neg (by rintro ⟨a1, a2, a3⟩; first | omega | (rw [a3] at c54; cases c54))]
          have h9 := ih (k + 1) S (by omega) hw
          rw [show oGoFrom S k (m + 1) = oGoFrom (oGo1 S k) (k + 1) m from rfl, e]
          exact h9 _ _
        · have hst := hw.2.2.2.2 k (by omega) c23
          refine g_aload_n dX5_letGo_36 rfl rfl ?_
          refine p_getR (o := some 64) dX5_letGo_37 (fX5_18 l) (by decide) rfl (by omega) rfl ?_
          refine g_iconst (x := 1) dX5_letGo_40 (by decide) ?_
          refine g_aload_n dX5_letGo_41 rfl rfl ?_
          refine c_getI (x := (S.1) (4 + k) 2) dX5_letGo_42 (fX5_135 l) rfl (T0_cab (by omega) (by omega)) (by omega) rfl ?_
          refine e_isub (v := ((1 - (S.1 (4 + k) 2).toNat : Nat) : Int)) dX5_letGo_45 (by rw [gsub_eq (by omega) (by omega)]; omega) ?_
          refine p_aald (ci := 3) (len := 2) (o := some (70 + 2 * (1 - (S.1 (4 + k) 2).toNat))) (kc3 l) dX5_letGo_46 rfl (by omega) (by omega) (by omega) (rr_st (by omega)) ?_
          refine e_astore_n (loc' := [gR (some 1), gI (k : Int), gR (some (4 + k)), gR (some (70 + 2 * (1 - (S.1 (4 + k) 2).toNat)))]) dX5_letGo_47 rfl (by decide) rfl ?_
          refine g_aload_n dX5_letGo_48 rfl rfl ?_
          refine p_getR (o := some (71 + 2 * (1 - (S.1 (4 + k) 2).toNat))) dX5_letGo_49 (fX5_82 l) (by decide) (T0_st (by omega)) (by omega) (rr_zs (by omega)) ?_
          refine g_iconst (x := 1) dX5_letGo_52 (by decide) ?_
          refine p_aald (ci := 0) (len := 13) (o := (S.2.1) (1 - (S.1 (4 + k) 2).toNat) 1) (kc0 l) dX5_letGo_53 (T0_zones (by omega)) (by omega) (by omega) (by omega) (rr_zone (by omega)) ?_
          refine g_ifnonnull (tgt := 63) dX5_letGo_54 (by decide) (fun n54 c54 => ?_) (fun c54 => ?_)
          · refine e_iinc (v := ((k + 1 : Nat) : Int)) (loc' := [gR (some 1), gI (((k + 1 : Nat) : Int)), gR (some (4 + k)), gR (some (70 + 2 * (1 - (S.1 (4 + k) 2).toNat)))]) dX5_letGo_63 (by decide) rfl (gadd_nat (by omega)) rfl ?_
            refine g_goto (tgt := 2) dX5_letGo_66 (by decide) ?_
            have e : oGo1 S k = S := by unfold oGo1; rw [if_neg (by rintro ⟨a1, a2, a3⟩; first | omega | (rw [a3] at c54; cases c54))]
            have h9 := ih (k + 1) S (by omega) hw
            rw [show oGoFrom S k (m + 1) = oGoFrom (oGo1 S k) (k + 1) m from rfl, e]
            exact h9 _ _
          · refine g_aload_n dX5_letGo_57 rfl rfl ?_
            refine g_aload_n dX5_letGo_58 rfl rfl ?_
            refine g_iconst (x := 1) dX5_letGo_59 (by decide) ?_
            refine g_Vv2 dX5_letGo_60 (sX5_letGo_60 l) (T0_st (by omega)) (by show 70 + 2 * (1 - (S.1 (4 + k) 2).toNat) < 87; omega) (Nat.le_of_ble_eq_true rfl) (cX3_adm l (s := (1 - (S.1 (4 + k) 2).toNat)) (z := 1) (by omega) (hw.1 _ (by omega)) (by omega) (by omega) (by omega)) ?_
            refine e_iinc (v := ((k + 1 : Nat) : Int)) (loc' := [gR (some 1), gI (((k + 1 : Nat) : Int)), gR (some (4 + k)), gR (some (70 + 2 * (1 - (S.1 (4 + k) 2).toNat)))]) dX5_letGo_63 (by decide) rfl (gadd_nat (by omega)) rfl ?_
            refine g_goto (tgt := 2) dX5_letGo_66 (by decide) ?_
            have e : oGo1 S k = (sAdm S.1 (4 + k) (1 - (S.1 (4 + k) 2).toNat) 1, up S.2.1 (1 - (S.1 (4 + k) 2).toNat) 1 (some (4 + k)), S.2.2) := by unfold oGo1; rw [if_pos ⟨c23, c33, c54⟩]
            have h9 := ih (k + 1) (oGo1 S k) (by omega) (hw.go1 (by omega))
            rw [show oGoFrom S k (m + 1) = oGoFrom (oGo1 S k) (k + 1) m from rfl]
            refine g_eq rfl ?_ (h9 _ _)
            rw [e]
            rfl
  refine g_iconst (x := 0) dX5_letGo_0 (by decide) ?_
  refine e_istore_n (loc' := [gR (some 1), gI 0, gU, gU]) dX5_letGo_1 rfl (by decide) rfl ?_
  unfold oGo
  exact loop 60 0 S (by omega) hw gU gU
set_option maxHeartbeats 1000000 in
theorem cX5_leave (l : Launch) {L : Nat} {S : sT} {M : Nat → Nat → Int} {s n : Nat} (hs : s < 2) (hnum : S.1 (70 + 2 * s) 0 = (s : Int)) (h1 : 4 ≤ n) (h2 : n < 64) : gMv (gπ l) mX5_leave yX5_leave [gR (some 1), gR (some (70 + 2 * s)), gR (some n)] (hS L S M) (hS L (oLeave S s n) M) := by
  refine gMet_of pnX5 rfl rfl rfl (Nat.le_of_ble_eq_true rfl) (gAr (gAr (gAr gAn))) ?_
  show G (gπ l) mX5_leave 0 [gR (some 1), gR (some (70 + 2 * s)), gR (some n)] [] (hS L S M) 0 0 _
  refine g_aload_n dX5_leave_0 rfl rfl ?_
  refine p_getR (o := some (71 + 2 * s)) dX5_leave_1 (fX5_82 l) (by decide) (T0_st (by omega)) (by omega) (rr_zs (by omega)) ?_
  refine g_bipush (x := 12) dX5_leave_4 (by decide) ?_
  refine g_null dX5_leave_6 ?_
  refine p_aastZ (s := s) (kc0 l) dX5_leave_7 (by omega) (by omega) (by omega) (fun v hv => nomatch hv) ?_
  refine g_aload_n dX5_leave_8 rfl rfl ?_
  refine g_Vv0 dX5_leave_9 (sX5_leave_9 l) (T0_cab (by omega) (by omega)) (by show n < 87; omega) (Nat.le_of_ble_eq_true rfl) (cX0_stop l h1 h2) ?_
  refine g_aload_n dX5_leave_12 rfl rfl ?_
  refine g_iconst (x := 3) dX5_leave_13 (by decide) ?_
  refine g_Vv1 dX5_leave_14 (sX5_leave_14 l) (T0_cab (by omega) (by omega)) (by show n < 87; omega) (Nat.le_of_ble_eq_true rfl) (cX0_standAt l h1 h2) ?_
  refine g_aload_n dX5_leave_17 rfl rfl ?_
  refine g_aload_n dX5_leave_18 rfl rfl ?_
  refine c_getI (x := (s : Int)) dX5_leave_19 (fX5_230 l) rfl (T0_st (by omega)) (by omega) (by unfold sStand oStop; rw [up_cell (by omega), up_cell (by omega), up_cell (by omega), up_cell (by omega), up_cell (by omega), up_cell (by omega), up_cell (by omega)]; exact hnum) ?_
  refine c_putI dX5_leave_22 (fX5_135 l) gTX0 ⟨rfl, rfl⟩ rfl (T0_cab (by omega) (by omega)) (by omega) (by omega) ?_
  refine g_aload_n dX5_leave_25 rfl rfl ?_
  refine g_iconst (x := 0) dX5_leave_26 (by decide) ?_
  refine c_putI dX5_leave_27 (fX5_197 l) gTX0 ⟨rfl, rfl⟩ rfl (T0_cab (by omega) (by omega)) (by omega) (by omega) ?_
  refine g_aload_n dX5_leave_30 rfl rfl ?_
  refine g_dupR dX5_leave_31 ?_
  refine c_getI (x := S.1 n 9) dX5_leave_32 (fX5_161 l) rfl (T0_cab (by omega) (by omega)) (by omega) (by simp [up, sStand, oStop]) ?_
  refine g_iconst (x := 1) dX5_leave_35 (by decide) ?_
  refine e_iadd (v := gadd (S.1 n 9) 1) dX5_leave_36 rfl ?_
  refine c_putI dX5_leave_37 (fX5_161 l) gTX0 ⟨rfl, rfl⟩ rfl (T0_cab (by omega) (by omega)) (by omega) (by omega) ?_
  exact g_vret dX5_leave_40 rfl ⟨rfl, rfl⟩
set_option maxHeartbeats 1000000 in
theorem cX5_fail_a (l : Launch) {L : Nat} {S : sT} {M : Nat → Nat → Int} (hw : Wf S) {s n : Nat} (hs : s < 2) (hnum : S.1 (70 + 2 * s) 0 = (s : Int)) (h1 : 4 ≤ n) (h2 : n < 64) {f : Int} (hr : S.1 65 1 < 20) : gMv (gπ l) mX5_fail yX5_fail [gR (some 1), gR (some (70 + 2 * s)), gR (some n), gI f] (hS L S M) (hS L (oFail S s n f) M) := by
  refine gMet_of pnX5 rfl rfl rfl (Nat.le_of_ble_eq_true rfl) (gAr (gAr (gAr (gAi gAn)))) ?_
  show G (gπ l) mX5_fail 0 [gR (some 1), gR (some (70 + 2 * s)), gR (some n), gI f] [] (hS L S M) 0 0 _
  refine g_aload_n dX5_fail_0 rfl rfl ?_
  refine g_iload_n dX5_fail_1 rfl rfl ?_
  refine c_putI dX5_fail_2 (fX5_164 l) gTX0 ⟨rfl, rfl⟩ rfl (T0_cab (by omega) (by omega)) (by omega) (by omega) ?_
  refine g_aload_n dX5_fail_5 rfl rfl ?_
  refine g_Vv0 dX5_fail_6 (sX5_fail_6 l) (T0_cab (by omega) (by omega)) (by show n < 87; omega) (Nat.le_of_ble_eq_true rfl) (cX0_stop l h1 h2) ?_
  refine g_aload_n dX5_fail_9 rfl rfl ?_
  refine g_iconst (x := 0) dX5_fail_10 (by decide) ?_
  refine g_Vv1 dX5_fail_11 (sX5_fail_11 l) rfl (by show 1 < 87; omega) (Nat.le_of_ble_eq_true rfl) (cX5_lock l (S := (oStop (up S.1 n 10 f) n, S.2))) ?_
  refine g_aload_n dX5_fail_14 rfl rfl ?_
  refine p_getR (o := some 65) dX5_fail_15 (fX5_25 l) (by decide) rfl (by omega) rfl ?_
  refine g_Vi0 dX5_fail_18 (sX5_fail_18 l) rfl (by show 65 < 87; omega) (Nat.le_of_ble_eq_true rfl) (gMi_to 1 (cX2_hasRoom l) (by rw [if_pos (by unfold oLock oStop; (try dsimp only); rw [up_cell (by omega), up_cell (by omega), up_cell (by omega), up_cell (by omega), up_cell (by omega)]; exact hr)])) ?_
  refine g_if_eq (tgt := 43) dX5_fail_21 (by decide) (fun c21 => absurd c21 (by omega)) (fun c21 => ?_)
  refine g_aload_n dX5_fail_24 rfl rfl ?_
  refine p_getR (o := some (71 + 2 * s)) dX5_fail_25 (fX5_82 l) (by decide) (T0_st (by omega)) (by omega) (rr_zs (by omega)) ?_
  refine g_bipush (x := 12) dX5_fail_28 (by decide) ?_
  refine g_null dX5_fail_30 ?_
  refine p_aastZ (s := s) (kc0 l) dX5_fail_31 (by omega) (by omega) (by omega) (fun v hv => nomatch hv) ?_
  refine g_aload_n dX5_fail_32 rfl rfl ?_
  refine p_getR (o := some 65) dX5_fail_33 (fX5_25 l) (by decide) rfl (by omega) rfl ?_
  refine g_aload_n dX5_fail_36 rfl rfl ?_
  refine g_Vv1 dX5_fail_37 (sX5_fail_37 l) rfl (by show 65 < 87; omega) (Nat.le_of_ble_eq_true rfl) (cX2_append2 l (S := (oLock (oStop (up S.1 n 10 f) n) 0, up S.2.1 s 12 none, S.2.2)) h1 h2 (by show 0 ≤ oLock (oStop (up S.1 n 10 f) n) 0 65 1; unfold oLock oStop; (try dsimp only); rw [up_cell (by omega), up_cell (by omega), up_cell (by omega), up_cell (by omega), up_cell (by omega)]; exact hw.2.2.2.1.1) (by show oLock (oStop (up S.1 n 10 f) n) 0 65 1 < 20; unfold oLock oStop; (try dsimp only); rw [up_cell (by omega), up_cell (by omega), up_cell (by omega), up_cell (by omega), up_cell (by omega)]; exact hr)) ?_
  refine g_goto (tgt := 53) dX5_fail_40 (by decide) ?_
  exact g_vret dX5_fail_53 rfl ⟨rfl, by unfold oFail; rw [if_pos hr]⟩
set_option maxHeartbeats 1000000 in
theorem cX5_fail_b (l : Launch) {L : Nat} {S : sT} {M : Nat → Nat → Int} (hw : Wf S) {s n : Nat} (hs : s < 2) (hnum : S.1 (70 + 2 * s) 0 = (s : Int)) (h1 : 4 ≤ n) (h2 : n < 64) {f : Int} (hr : ¬ S.1 65 1 < 20) : gMv (gπ l) mX5_fail yX5_fail [gR (some 1), gR (some (70 + 2 * s)), gR (some n), gI f] (hS L S M) (hS L (oFail S s n f) M) := by
  refine gMet_of pnX5 rfl rfl rfl (Nat.le_of_ble_eq_true rfl) (gAr (gAr (gAr (gAi gAn)))) ?_
  show G (gπ l) mX5_fail 0 [gR (some 1), gR (some (70 + 2 * s)), gR (some n), gI f] [] (hS L S M) 0 0 _
  refine g_aload_n dX5_fail_0 rfl rfl ?_
  refine g_iload_n dX5_fail_1 rfl rfl ?_
  refine c_putI dX5_fail_2 (fX5_164 l) gTX0 ⟨rfl, rfl⟩ rfl (T0_cab (by omega) (by omega)) (by omega) (by omega) ?_
  refine g_aload_n dX5_fail_5 rfl rfl ?_
  refine g_Vv0 dX5_fail_6 (sX5_fail_6 l) (T0_cab (by omega) (by omega)) (by show n < 87; omega) (Nat.le_of_ble_eq_true rfl) (cX0_stop l h1 h2) ?_
  refine g_aload_n dX5_fail_9 rfl rfl ?_
  refine g_iconst (x := 0) dX5_fail_10 (by decide) ?_
  refine g_Vv1 dX5_fail_11 (sX5_fail_11 l) rfl (by show 1 < 87; omega) (Nat.le_of_ble_eq_true rfl) (cX5_lock l (S := (oStop (up S.1 n 10 f) n, S.2))) ?_
  refine g_aload_n dX5_fail_14 rfl rfl ?_
  refine p_getR (o := some 65) dX5_fail_15 (fX5_25 l) (by decide) rfl (by omega) rfl ?_
  refine g_Vi0 dX5_fail_18 (sX5_fail_18 l) rfl (by show 65 < 87; omega) (Nat.le_of_ble_eq_true rfl) (gMi_to 0 (cX2_hasRoom l) (by rw [if_neg (by unfold oLock oStop; (try dsimp only); rw [up_cell (by omega), up_cell (by omega), up_cell (by omega), up_cell (by omega), up_cell (by omega)]; exact hr)])) ?_
  refine g_if_eq (tgt := 43) dX5_fail_21 (by decide) (fun c21 => ?_) (fun c21 => absurd c21 (by omega))
  refine g_aload_n dX5_fail_43 rfl rfl ?_
  refine g_iconst (x := 1) dX5_fail_44 (by decide) ?_
  refine g_Vv1 dX5_fail_45 (sX5_fail_45 l) rfl (by show 1 < 87; omega) (Nat.le_of_ble_eq_true rfl) (cX5_lock l (S := (oLock (oStop (up S.1 n 10 f) n) 0, S.2))) ?_
  refine g_aload_n dX5_fail_48 rfl rfl ?_
  refine g_iconst (x := 0) dX5_fail_49 (by decide) ?_
  refine c_putI dX5_fail_50 (fX5_152 l) gTX0 ⟨rfl, rfl⟩ rfl (T0_cab (by omega) (by omega)) (by omega) (by omega) ?_
  exact g_vret dX5_fail_53 rfl ⟨rfl, by unfold oFail; rw [if_neg hr]⟩
theorem cX5_fail (l : Launch) {L : Nat} {S : sT} {M : Nat → Nat → Int} (hw : Wf S) {s n : Nat} (hs : s < 2) (hnum : S.1 (70 + 2 * s) 0 = (s : Int)) (h1 : 4 ≤ n) (h2 : n < 64) {f : Int} : gMv (gπ l) mX5_fail yX5_fail [gR (some 1), gR (some (70 + 2 * s)), gR (some n), gI f] (hS L S M) (hS L (oFail S s n f) M) := by
  by_cases hr : S.1 65 1 < 20
  · exact cX5_fail_a l hw hs hnum h1 h2 hr
  · exact cX5_fail_b l hw hs hnum h1 h2 hr
set_option maxHeartbeats 1000000 in
theorem cX5_goOnClamping (l : Launch) {L : Nat} {S : sT} {M : Nat → Nat → Int} (hw : Wf S) {s n : Nat} (hs : s < 2) (hnum : S.1 (70 + 2 * s) 0 = (s : Int)) (h1 : 4 ≤ n) (h2 : n < 64) : gMv (gπ l) mX5_goOnClamping yX5_goOnClamping [gR (some 1), gR (some (70 + 2 * s)), gR (some n)] (hS L S M) (hS L (oClamp S s n) M) := by
  refine gMet_of pnX5 rfl rfl rfl (Nat.le_of_ble_eq_true rfl) (gAr (gAr (gAr gAn))) ?_
  show G (gπ l) mX5_goOnClamping 0 [gR (some 1), gR (some (70 + 2 * s)), gR (some n), gU] [] (hS L S M) 0 0 _
  refine g_aload_n dX5_goOnClamping_0 rfl rfl ?_
  refine g_dupR dX5_goOnClamping_1 ?_
  refine c_getI (x := (S.1) n 6) dX5_goOnClamping_2 (fX5_155 l) rfl (T0_cab (by omega) (by omega)) (by omega) rfl ?_
  refine g_iconst (x := 1) dX5_goOnClamping_5 (by decide) ?_
  refine e_iadd (v := gadd ((S.1) n 6) 1) dX5_goOnClamping_6 rfl ?_
  refine c_putI dX5_goOnClamping_7 (fX5_155 l) gTX0 ⟨rfl, rfl⟩ rfl (T0_cab (by omega) (by omega)) (by omega) (by omega) ?_
  refine g_aload_n dX5_goOnClamping_10 rfl rfl ?_
  refine g_Vi0 dX5_goOnClamping_11 (sX5_goOnClamping_11 l) (T0_cab (by omega) (by omega)) (by show n < 87; omega) (Nat.le_of_ble_eq_true rfl) (gMi_to (if 0 ≤ S.1 n 7 then 1 else 0) (cX0_hasReport l h1 h2) (by rw [up_slot (by omega)])) ?_
  refine g_if_eq (tgt := 45) dX5_goOnClamping_14 (by decide) (fun c14 => ?_) (fun c14 => ?_)
  · have c9 : ¬ 0 ≤ S.1 n 7 := by split at c14 <;> omega
    refine g_aload_n dX5_goOnClamping_45 rfl rfl ?_
    refine c_getI (x := gadd (S.1 n 6) 1) dX5_goOnClamping_46 (fX5_155 l) rfl (T0_cab (by omega) (by omega)) (by omega) up_same ?_
    refine g_bipush (x := 40) dX5_goOnClamping_49 (by decide) ?_
    refine g_icmp_lt (tgt := 61) dX5_goOnClamping_51 (by decide) (fun c51 => ?_) (fun c51 => ?_)
    · exact g_vret dX5_goOnClamping_61 rfl ⟨rfl, by unfold oClamp; rw [if_neg c9, if_pos c51]⟩
    · refine g_aload_n dX5_goOnClamping_54 rfl rfl ?_
      refine g_aload_n dX5_goOnClamping_55 rfl rfl ?_
      refine g_aload_n dX5_goOnClamping_56 rfl rfl ?_
      refine g_iconst (x := 3) dX5_goOnClamping_57 (by decide) ?_
      refine g_Vv3 dX5_goOnClamping_58 (sX5_goOnClamping_58 l) rfl (by show 1 < 87; omega) (Nat.le_of_ble_eq_true rfl) (cX5_fail l (S := (up S.1 n 6 (gadd (S.1 n 6) 1), S.2)) (hw.cab h1 h2 (by omega)) hs (by dsimp only; rw [up_cell (by omega)]; exact hnum) h1 h2) ?_
      exact g_vret dX5_goOnClamping_61 rfl ⟨rfl, by unfold oClamp; rw [if_neg c9, if_neg (by omega)]⟩
  · have c9 : 0 ≤ S.1 n 7 := by split at c14 <;> omega
    refine g_aload_n dX5_goOnClamping_17 rfl rfl ?_
    refine g_Vi0 dX5_goOnClamping_18 (sX5_goOnClamping_18 l) (T0_cab (by omega) (by omega)) (by show n < 87; omega) (Nat.le_of_ble_eq_true rfl) (gMi_to (sFault (S.1 n 7) (S.1 n 8)) (cX0_faultOfReport l h1 h2) (by rw [up_slot (by omega), up_slot (by omega)])) ?_
    refine e_istore_n (loc' := [gR (some 1), gR (some (70 + 2 * s)), gR (some n), gI (sFault (S.1 n 7) (S.1 n 8))]) dX5_goOnClamping_21 rfl (by decide) rfl ?_
    refine g_iload_n dX5_goOnClamping_22 rfl rfl ?_
    refine g_if_ne (tgt := 35) dX5_goOnClamping_23 (by decide) (fun c23 => ?_) (fun c23 => ?_)
    · refine g_aload_n dX5_goOnClamping_35 rfl rfl ?_
      refine g_aload_n dX5_goOnClamping_36 rfl rfl ?_
      refine g_aload_n dX5_goOnClamping_37 rfl rfl ?_
      refine g_iload_n dX5_goOnClamping_38 rfl rfl ?_
      refine g_Vv3 dX5_goOnClamping_39 (sX5_goOnClamping_39 l) rfl (by show 1 < 87; omega) (Nat.le_of_ble_eq_true rfl) (cX5_fail l (S := (up S.1 n 6 (gadd (S.1 n 6) 1), S.2)) (hw.cab h1 h2 (by omega)) hs (by dsimp only; rw [up_cell (by omega)]; exact hnum) h1 h2) ?_
      refine g_goto (tgt := 61) dX5_goOnClamping_42 (by decide) ?_
      exact g_vret dX5_goOnClamping_61 rfl ⟨rfl, by unfold oClamp; rw [if_pos c9, if_neg c23]⟩
    · refine g_aload_n dX5_goOnClamping_26 rfl rfl ?_
      refine g_aload_n dX5_goOnClamping_27 rfl rfl ?_
      refine g_aload_n dX5_goOnClamping_28 rfl rfl ?_
      refine g_Vv2 dX5_goOnClamping_29 (sX5_goOnClamping_29 l) rfl (by show 1 < 87; omega) (Nat.le_of_ble_eq_true rfl) (cX5_leave l (S := (up S.1 n 6 (gadd (S.1 n 6) 1), S.2)) hs (by dsimp only; rw [up_cell (by omega)]; exact hnum) h1 h2) ?_
      refine g_goto (tgt := 42) dX5_goOnClamping_32 (by decide) ?_
      refine g_goto (tgt := 61) dX5_goOnClamping_42 (by decide) ?_
      exact g_vret dX5_goOnClamping_61 rfl ⟨rfl, by unfold oClamp; rw [if_pos c9, if_pos c23]⟩
set_option maxHeartbeats 1000000 in
theorem cX5_spacing (l : Launch) {L : Nat} {S : sT} {M : Nat → Nat → Int} {s : Nat} (hs : s < 2) : gMi (gπ l) mX5_spacing yX5_spacing [gR (some 1), gR (some (70 + 2 * s))] (hS L S M) (oSpc S s) (hS L S M) := by
  refine gMet_of pnX5 rfl rfl rfl (Nat.le_of_ble_eq_true rfl) (gAr (gAr gAn)) ?_
  show G (gπ l) mX5_spacing 0 [gR (some 1), gR (some (70 + 2 * s))] [] (hS L S M) 0 0 _
  refine g_aload_n dX5_spacing_0 rfl rfl ?_
  refine g_Vi0 dX5_spacing_1 (sX5_spacing_1 l) (T0_st (by omega)) (by show 70 + 2 * s < 87; omega) (Nat.le_of_ble_eq_true rfl) (cX3_count l hs) ?_
  refine g_bipush (x := 6) dX5_spacing_4 (by decide) ?_
  refine g_icmp_lt (tgt := 12) dX5_spacing_6 (by decide) (fun c6 => ?_) (fun c6 => ?_)
  · refine g_sipush (x := 12000) dX5_spacing_12 (by decide) ?_
    refine g_aload_n dX5_spacing_15 rfl rfl ?_
    refine c_getI (x := (S.1) 1 5) dX5_spacing_16 (fX5_40 l) rfl rfl (by omega) rfl ?_
    refine g_iconst (x := 1) dX5_spacing_19 (by decide) ?_
    refine g_max dX5_spacing_20 aX5_242 ⟨by decide, Nat.le_of_ble_eq_true rfl⟩ ?_
    refine e_idiv (v := gdiv 12000 (max ((S.1) 1 5) 1)) dX5_spacing_23 (by omega) rfl ?_
    refine g_bipush (x := 90) dX5_spacing_24 (by decide) ?_
    refine g_max dX5_spacing_26 aX5_242 ⟨by decide, Nat.le_of_ble_eq_true rfl⟩ ?_
    exact g_iret dX5_spacing_29 (Or.inl rfl) ⟨congrArg gK1 (by unfold oSpc; rw [if_pos c6]), rfl⟩
  · refine g_bipush (x := 90) dX5_spacing_9 (by decide) ?_
    exact g_iret dX5_spacing_11 (Or.inl rfl) ⟨congrArg gK1 (by unfold oSpc; rw [if_neg (by omega)]), rfl⟩
set_option maxHeartbeats 1000000 in
theorem cX5_mayClamp (l : Launch) {L : Nat} {S : sT} {M : Nat → Nat → Int} {s n : Nat} (hs : s < 2) (hnum : S.1 (70 + 2 * s) 0 = (s : Int)) (h1 : 4 ≤ n) (h2 : n < 64) : gMi (gπ l) mX5_mayClamp yX5_mayClamp [gR (some 1), gR (some (70 + 2 * s)), gR (some n)] (hS L S M) (if 15 ≤ S.1 n 5 ∧ S.1 1 4 = 0 ∧ oNear S.1 (s : Int) (oSpc S s) = false then 1 else 0) (hS L S M) := by
  refine gMet_of pnX5 rfl rfl rfl (Nat.le_of_ble_eq_true rfl) (gAr (gAr (gAr gAn))) ?_
  show G (gπ l) mX5_mayClamp 0 [gR (some 1), gR (some (70 + 2 * s)), gR (some n)] [] (hS L S M) 0 0 _
  refine g_aload_n dX5_mayClamp_0 rfl rfl ?_
  refine c_getI (x := (S.1) n 5) dX5_mayClamp_1 (fX5_152 l) rfl (T0_cab (by omega) (by omega)) (by omega) rfl ?_
  refine g_bipush (x := 15) dX5_mayClamp_4 (by decide) ?_
  refine g_icmp_lt (tgt := 39) dX5_mayClamp_6 (by decide) (fun c6 => ?_) (fun c6 => ?_)
  · refine g_iconst (x := 0) dX5_mayClamp_39 (by decide) ?_
    exact g_iret dX5_mayClamp_40 (Or.inr ⟨rfl, Or.inl rfl⟩) ⟨congrArg gK1 (by first | rw [if_neg (fun z => by have := z.1; omega)] | rw [if_neg (fun z => c13 z.2.1)] | (split at c32; (rename_i q; rw [if_neg (fun z => by rw [z.2.2] at q; cases q)]); omega)), rfl⟩
  · refine g_aload_n dX5_mayClamp_9 rfl rfl ?_
    refine c_getI (x := (S.1) 1 4) dX5_mayClamp_10 (fX5_36 l) rfl rfl (by omega) rfl ?_
    refine g_if_ne (tgt := 39) dX5_mayClamp_13 (by decide) (fun c13 => ?_) (fun c13 => ?_)
    · refine g_iconst (x := 0) dX5_mayClamp_39 (by decide) ?_
      exact g_iret dX5_mayClamp_40 (Or.inr ⟨rfl, Or.inl rfl⟩) ⟨congrArg gK1 (by first | rw [if_neg (fun z => by have := z.1; omega)] | rw [if_neg (fun z => c13 z.2.1)] | (split at c32; (rename_i q; rw [if_neg (fun z => by rw [z.2.2] at q; cases q)]); omega)), rfl⟩
    · refine g_aload_n dX5_mayClamp_16 rfl rfl ?_
      refine p_getR (o := some 2) dX5_mayClamp_17 (fX5_10 l) (by decide) rfl (by omega) rfl ?_
      refine g_aload_n dX5_mayClamp_20 rfl rfl ?_
      refine c_getI (x := (s : Int)) dX5_mayClamp_21 (fX5_230 l) rfl (T0_st (by omega)) (by omega) hnum ?_
      refine g_aload_n dX5_mayClamp_24 rfl rfl ?_
      refine g_aload_n dX5_mayClamp_25 rfl rfl ?_
      refine g_Vi1 dX5_mayClamp_26 (sX5_mayClamp_26 l) rfl (by show 1 < 87; omega) (Nat.le_of_ble_eq_true rfl) (cX5_spacing l hs) ?_
      refine g_Vi2 dX5_mayClamp_29 (sX5_mayClamp_29 l) rfl (by show 2 < 87; omega) (Nat.le_of_ble_eq_true rfl) (gMi_to (if oNear S.1 (s : Int) (oSpc S s) = true then 0 else 1) (cX1_isClear l) rfl) ?_
      refine g_if_eq (tgt := 39) dX5_mayClamp_32 (by decide) (fun c32 => ?_) (fun c32 => ?_)
      · refine g_iconst (x := 0) dX5_mayClamp_39 (by decide) ?_
        exact g_iret dX5_mayClamp_40 (Or.inr ⟨rfl, Or.inl rfl⟩) ⟨congrArg gK1 (by first | rw [if_neg (fun z => by have := z.1; omega)] | rw [if_neg (fun z => c13 z.2.1)] | (split at c32; (rename_i q; rw [if_neg (fun z => by rw [z.2.2] at q; cases q)]); omega)), rfl⟩
      · refine g_iconst (x := 1) dX5_mayClamp_35 (by decide) ?_
        refine g_goto (tgt := 40) dX5_mayClamp_36 (by decide) ?_
        exact g_iret dX5_mayClamp_40 (Or.inr ⟨rfl, Or.inr rfl⟩) ⟨congrArg gK1 (by split at c32; omega; rename_i q; rw [if_pos ⟨c6, c13, Bool.eq_false_iff.mpr q⟩]), rfl⟩
