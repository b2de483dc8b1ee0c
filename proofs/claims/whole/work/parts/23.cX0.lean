/-! contracts: a cabin -/
def gK1 (x : Int) : Option (Option gV) := some (some (gI x))
set_option maxHeartbeats 1000000 in
theorem cX0_isClamping (l : Launch) {L : Nat} {C M : Nat → Nat → Int} {Z : Nat → Nat → Option Nat} {R : Nat → Option Nat} {n : Nat} (h1 : 4 ≤ n) (h2 : n < 64) : gMi (gπ l) mX0_isClamping yX0_isClamping [gR (some n)] (hq L C M Z R) (if 0 ≤ C n 6 then 1 else 0) (hq L C M Z R) := by
  refine gMet_of pnX0 rfl rfl rfl (Nat.le_of_ble_eq_true rfl) (gAr gAn) ?_
  show G (gπ l) mX0_isClamping 0 [gR (some n)] [] (hq L C M Z R) 0 0 _
  refine g_aload_n dX0_isClamping_0 rfl rfl ?_
  refine c_getI (x := C n 6) dX0_isClamping_1 (fX0_27 l) rfl (T0_cab (by omega) (by omega)) (by omega) rfl ?_
  refine g_if_lt (tgt := 11) dX0_isClamping_4 (by decide) (fun c4 => ?_) (fun c4 => ?_)
  · refine g_iconst (x := 0) dX0_isClamping_11 (by decide) ?_
    exact g_iret dX0_isClamping_12 (Or.inr ⟨rfl, Or.inl rfl⟩) ⟨congrArg gK1 (by (repeat' split) <;> omega), rfl⟩
  · refine g_iconst (x := 1) dX0_isClamping_7 (by decide) ?_
    refine g_goto (tgt := 12) dX0_isClamping_8 (by decide) ?_
    exact g_iret dX0_isClamping_12 (Or.inr ⟨rfl, Or.inr rfl⟩) ⟨congrArg gK1 (by (repeat' split) <;> omega), rfl⟩
set_option maxHeartbeats 1000000 in
theorem cX0_hasReport (l : Launch) {L : Nat} {C M : Nat → Nat → Int} {Z : Nat → Nat → Option Nat} {R : Nat → Option Nat} {n : Nat} (h1 : 4 ≤ n) (h2 : n < 64) : gMi (gπ l) mX0_hasReport yX0_hasReport [gR (some n)] (hq L C M Z R) (if 0 ≤ C n 7 then 1 else 0) (hq L C M Z R) := by
  refine gMet_of pnX0 rfl rfl rfl (Nat.le_of_ble_eq_true rfl) (gAr gAn) ?_
  show G (gπ l) mX0_hasReport 0 [gR (some n)] [] (hq L C M Z R) 0 0 _
  refine g_aload_n dX0_hasReport_0 rfl rfl ?_
  refine c_getI (x := C n 7) dX0_hasReport_1 (fX0_30 l) rfl (T0_cab (by omega) (by omega)) (by omega) rfl ?_
  refine g_if_lt (tgt := 11) dX0_hasReport_4 (by decide) (fun c4 => ?_) (fun c4 => ?_)
  · refine g_iconst (x := 0) dX0_hasReport_11 (by decide) ?_
    exact g_iret dX0_hasReport_12 (Or.inr ⟨rfl, Or.inl rfl⟩) ⟨congrArg gK1 (by (repeat' split) <;> omega), rfl⟩
  · refine g_iconst (x := 1) dX0_hasReport_7 (by decide) ?_
    refine g_goto (tgt := 12) dX0_hasReport_8 (by decide) ?_
    exact g_iret dX0_hasReport_12 (Or.inr ⟨rfl, Or.inr rfl⟩) ⟨congrArg gK1 (by (repeat' split) <;> omega), rfl⟩
def sStand (C : Nat → Nat → Int) (n : Nat) (p : Int) : Nat → Nat → Int := up (up (up (up C n 1 p) n 2 (-1)) n 3 (-1)) n 5 (-1)
set_option maxHeartbeats 1000000 in
theorem cX0_standAt (l : Launch) {L : Nat} {C M : Nat → Nat → Int} {Z : Nat → Nat → Option Nat} {R : Nat → Option Nat} {n : Nat} (h1 : 4 ≤ n) (h2 : n < 64) {p : Int} : gMv (gπ l) mX0_standAt yX0_standAt [gR (some n), gI p] (hq L C M Z R) (hq L (sStand C n p) M Z R) := by
  refine gMet_of pnX0 rfl rfl rfl (Nat.le_of_ble_eq_true rfl) (gAr (gAi gAn)) ?_
  show G (gπ l) mX0_standAt 0 [gR (some n), gI p] [] (hq L C M Z R) 0 0 _
  refine g_aload_n dX0_standAt_0 rfl rfl ?_
  refine g_iload_n dX0_standAt_1 rfl rfl ?_
  refine c_putI dX0_standAt_2 (fX0_9 l) gTX0 ⟨rfl, rfl⟩ rfl (T0_cab (by omega) (by omega)) (by omega) (by omega) ?_
  refine g_aload_n dX0_standAt_5 rfl rfl ?_
  refine g_iconst (x := -1) dX0_standAt_6 (by decide) ?_
  refine c_putI dX0_standAt_7 (fX0_15 l) gTX0 ⟨rfl, rfl⟩ rfl (T0_cab (by omega) (by omega)) (by omega) (by omega) ?_
  refine g_aload_n dX0_standAt_10 rfl rfl ?_
  refine g_iconst (x := -1) dX0_standAt_11 (by decide) ?_
  refine c_putI dX0_standAt_12 (fX0_18 l) gTX0 ⟨rfl, rfl⟩ rfl (T0_cab (by omega) (by omega)) (by omega) (by omega) ?_
  refine g_aload_n dX0_standAt_15 rfl rfl ?_
  refine g_iconst (x := -1) dX0_standAt_16 (by decide) ?_
  refine c_putI dX0_standAt_17 (fX0_24 l) gTX0 ⟨rfl, rfl⟩ rfl (T0_cab (by omega) (by omega)) (by omega) (by omega) ?_
  exact g_vret dX0_standAt_20 rfl ⟨rfl, rfl⟩
set_option maxHeartbeats 1000000 in
theorem cX0_stopClamping (l : Launch) {L : Nat} {C M : Nat → Nat → Int} {Z : Nat → Nat → Option Nat} {R : Nat → Option Nat} {n : Nat} (h1 : 4 ≤ n) (h2 : n < 64) : gMv (gπ l) mX0_stopClamping yX0_stopClamping [gR (some n)] (hq L C M Z R) (hq L (up (up (up C n 6 (-1)) n 7 (-1)) n 8 (-1)) M Z R) := by
  refine gMet_of pnX0 rfl rfl rfl (Nat.le_of_ble_eq_true rfl) (gAr gAn) ?_
  show G (gπ l) mX0_stopClamping 0 [gR (some n)] [] (hq L C M Z R) 0 0 _
  refine g_aload_n dX0_stopClamping_0 rfl rfl ?_
  refine g_iconst (x := -1) dX0_stopClamping_1 (by decide) ?_
  refine c_putI dX0_stopClamping_2 (fX0_27 l) gTX0 ⟨rfl, rfl⟩ rfl (T0_cab (by omega) (by omega)) (by omega) (by omega) ?_
  refine g_aload_n dX0_stopClamping_5 rfl rfl ?_
  refine g_iconst (x := -1) dX0_stopClamping_6 (by decide) ?_
  refine c_putI dX0_stopClamping_7 (fX0_30 l) gTX0 ⟨rfl, rfl⟩ rfl (T0_cab (by omega) (by omega)) (by omega) (by omega) ?_
  refine g_aload_n dX0_stopClamping_10 rfl rfl ?_
  refine g_iconst (x := -1) dX0_stopClamping_11 (by decide) ?_
  refine c_putI dX0_stopClamping_12 (fX0_33 l) gTX0 ⟨rfl, rfl⟩ rfl (T0_cab (by omega) (by omega)) (by omega) (by omega) ?_
  exact g_vret dX0_stopClamping_15 rfl ⟨rfl, rfl⟩
def sDoors (z a : Int) : Int := if z = 5 then (if a < 5 then 0 else 1) else if z = 6 then 1 else if z = 7 then 1 else if z = 8 then (if a < 10 then 1 else 0) else 0
set_option maxHeartbeats 1000000 in
theorem cX0_hasDoorsOpen (l : Launch) {L : Nat} {C M : Nat → Nat → Int} {Z : Nat → Nat → Option Nat} {R : Nat → Option Nat} {n : Nat} (h1 : 4 ≤ n) (h2 : n < 64) : gMi (gπ l) mX0_hasDoorsOpen yX0_hasDoorsOpen [gR (some n)] (hq L C M Z R) (sDoors (C n 3) (C n 5)) (hq L C M Z R) := by
  refine gMet_of pnX0 rfl rfl rfl (Nat.le_of_ble_eq_true rfl) (gAr gAn) ?_
  show G (gπ l) mX0_hasDoorsOpen 0 [gR (some n)] [] (hq L C M Z R) 0 0 _
  refine g_aload_n dX0_hasDoorsOpen_0 rfl rfl ?_
  refine c_getI (x := C n 3) dX0_hasDoorsOpen_1 (fX0_18 l) rfl (T0_cab (by omega) (by omega)) (by omega) rfl ?_
  rcases (by omega : (C n 3 < 5 ∨ 8 < C n 3) ∨ C n 3 = 5 ∨ C n 3 = 6 ∨ C n 3 = 7 ∨ C n 3 = 8) with w4 | w4 | w4 | w4 | w4
  · refine g_tableOut (tgt := 67) dX0_hasDoorsOpen_4 (by omega) (by decide) ?_
    refine g_iconst (x := 0) dX0_hasDoorsOpen_67 (by decide) ?_
    exact g_iret dX0_hasDoorsOpen_68 (Or.inr ⟨rfl, Or.inl rfl⟩) ⟨congrArg gK1 (by unfold sDoors; (repeat' split) <;> omega), rfl⟩
  · refine g_tableIn (tgt := 36) (off := 32) dX0_hasDoorsOpen_4 (by omega) (by omega) (by rw [w4]; rfl) (by decide) ?_
    refine g_aload_n dX0_hasDoorsOpen_36 rfl rfl ?_
    refine c_getI (x := C n 5) dX0_hasDoorsOpen_37 (fX0_24 l) rfl (T0_cab (by omega) (by omega)) (by omega) rfl ?_
    refine g_iconst (x := 5) dX0_hasDoorsOpen_40 (by decide) ?_
    refine g_icmp_lt (tgt := 48) dX0_hasDoorsOpen_41 (by decide) (fun c41 => ?_) (fun c41 => ?_)
    · refine g_iconst (x := 0) dX0_hasDoorsOpen_48 (by decide) ?_
      exact g_iret dX0_hasDoorsOpen_49 (Or.inr ⟨rfl, Or.inl rfl⟩) ⟨congrArg gK1 (by unfold sDoors; (repeat' split) <;> omega), rfl⟩
    · refine g_iconst (x := 1) dX0_hasDoorsOpen_44 (by decide) ?_
      refine g_goto (tgt := 49) dX0_hasDoorsOpen_45 (by decide) ?_
      exact g_iret dX0_hasDoorsOpen_49 (Or.inr ⟨rfl, Or.inr rfl⟩) ⟨congrArg gK1 (by unfold sDoors; (repeat' split) <;> omega), rfl⟩
  · refine g_tableIn (tgt := 50) (off := 46) dX0_hasDoorsOpen_4 (by omega) (by omega) (by rw [w4]; rfl) (by decide) ?_
    refine g_iconst (x := 1) dX0_hasDoorsOpen_50 (by decide) ?_
    exact g_iret dX0_hasDoorsOpen_51 (Or.inr ⟨rfl, Or.inr rfl⟩) ⟨congrArg gK1 (by unfold sDoors; (repeat' split) <;> omega), rfl⟩
  · refine g_tableIn (tgt := 50) (off := 46) dX0_hasDoorsOpen_4 (by omega) (by omega) (by rw [w4]; rfl) (by decide) ?_
    refine g_iconst (x := 1) dX0_hasDoorsOpen_50 (by decide) ?_
    exact g_iret dX0_hasDoorsOpen_51 (Or.inr ⟨rfl, Or.inr rfl⟩) ⟨congrArg gK1 (by unfold sDoors; (repeat' split) <;> omega), rfl⟩
  · refine g_tableIn (tgt := 52) (off := 48) dX0_hasDoorsOpen_4 (by omega) (by omega) (by rw [w4]; rfl) (by decide) ?_
    refine g_aload_n dX0_hasDoorsOpen_52 rfl rfl ?_
    refine c_getI (x := C n 5) dX0_hasDoorsOpen_53 (fX0_24 l) rfl (T0_cab (by omega) (by omega)) (by omega) rfl ?_
    refine g_bipush (x := 10) dX0_hasDoorsOpen_56 (by decide) ?_
    refine g_icmp_ge (tgt := 65) dX0_hasDoorsOpen_58 (by decide) (fun c58 => ?_) (fun c58 => ?_)
    · refine g_iconst (x := 0) dX0_hasDoorsOpen_65 (by decide) ?_
      exact g_iret dX0_hasDoorsOpen_66 (Or.inr ⟨rfl, Or.inl rfl⟩) ⟨congrArg gK1 (by unfold sDoors; (repeat' split) <;> omega), rfl⟩
    · refine g_iconst (x := 1) dX0_hasDoorsOpen_61 (by decide) ?_
      refine g_goto (tgt := 66) dX0_hasDoorsOpen_62 (by decide) ?_
      exact g_iret dX0_hasDoorsOpen_66 (Or.inr ⟨rfl, Or.inr rfl⟩) ⟨congrArg gK1 (by unfold sDoors; (repeat' split) <;> omega), rfl⟩
def sFault (a b : Int) : Int := if a ≤ 4000 then 1 else if b ≤ 4000 then 1 else if gmul 100 (sAbs (gsub a b)) ≤ gmul 3 (max a b) then 0 else 2
set_option maxHeartbeats 1000000 in
theorem cX0_faultOfReport (l : Launch) {L : Nat} {C M : Nat → Nat → Int} {Z : Nat → Nat → Option Nat} {R : Nat → Option Nat} {n : Nat} (h1 : 4 ≤ n) (h2 : n < 64) : gMi (gπ l) mX0_faultOfReport yX0_faultOfReport [gR (some n)] (hq L C M Z R) (sFault (C n 7) (C n 8)) (hq L C M Z R) := by
  refine gMet_of pnX0 rfl rfl rfl (Nat.le_of_ble_eq_true rfl) (gAr gAn) ?_
  show G (gπ l) mX0_faultOfReport 0 [gR (some n), gU] [] (hq L C M Z R) 0 0 _
  refine g_aload_n dX0_faultOfReport_0 rfl rfl ?_
  refine c_getI (x := C n 7) dX0_faultOfReport_1 (fX0_30 l) rfl (T0_cab (by omega) (by omega)) (by omega) rfl ?_
  refine g_sipush (x := 4000) dX0_faultOfReport_4 (by decide) ?_
  refine g_icmp_le (tgt := 20) dX0_faultOfReport_7 (by decide) (fun c7 => ?_) (fun c7 => ?_)
  · refine g_iconst (x := 1) dX0_faultOfReport_20 (by decide) ?_
    exact g_iret dX0_faultOfReport_21 (Or.inl rfl) ⟨congrArg gK1 (by unfold sFault; (repeat' split) <;> omega), rfl⟩
  · refine g_aload_n dX0_faultOfReport_10 rfl rfl ?_
    refine c_getI (x := C n 8) dX0_faultOfReport_11 (fX0_33 l) rfl (T0_cab (by omega) (by omega)) (by omega) rfl ?_
    refine g_sipush (x := 4000) dX0_faultOfReport_14 (by decide) ?_
    refine g_icmp_gt (tgt := 22) dX0_faultOfReport_17 (by decide) (fun c17 => ?_) (fun c17 => ?_)
    · refine g_bipush (x := 100) dX0_faultOfReport_22 (by decide) ?_
      refine g_aload_n dX0_faultOfReport_24 rfl rfl ?_
      refine c_getI (x := C n 7) dX0_faultOfReport_25 (fX0_30 l) rfl (T0_cab (by omega) (by omega)) (by omega) rfl ?_
      refine g_aload_n dX0_faultOfReport_28 rfl rfl ?_
      refine c_getI (x := C n 8) dX0_faultOfReport_29 (fX0_33 l) rfl (T0_cab (by omega) (by omega)) (by omega) rfl ?_
      refine e_isub (v := gsub (C n 7) (C n 8)) dX0_faultOfReport_32 rfl ?_
      refine e_abs (v := sAbs (gsub (C n 7) (C n 8))) dX0_faultOfReport_33 aX0_45 ⟨by decide, Nat.le_of_ble_eq_true rfl⟩ rfl ?_
      refine e_imul (v := gmul 100 (sAbs (gsub (C n 7) (C n 8)))) dX0_faultOfReport_36 rfl ?_
      refine g_iconst (x := 3) dX0_faultOfReport_37 (by decide) ?_
      refine g_aload_n dX0_faultOfReport_38 rfl rfl ?_
      refine c_getI (x := C n 7) dX0_faultOfReport_39 (fX0_30 l) rfl (T0_cab (by omega) (by omega)) (by omega) rfl ?_
      refine g_aload_n dX0_faultOfReport_42 rfl rfl ?_
      refine c_getI (x := C n 8) dX0_faultOfReport_43 (fX0_33 l) rfl (T0_cab (by omega) (by omega)) (by omega) rfl ?_
      refine g_max dX0_faultOfReport_46 aX0_51 ⟨by decide, Nat.le_of_ble_eq_true rfl⟩ ?_
      refine e_imul (v := gmul 3 (max (C n 7) (C n 8))) dX0_faultOfReport_49 rfl ?_
      refine g_icmp_gt (tgt := 57) dX0_faultOfReport_50 (by decide) (fun c50 => ?_) (fun c50 => ?_)
      · refine g_iconst (x := 0) dX0_faultOfReport_57 (by decide) ?_
        refine e_istore_n (loc' := [gR (some n), gI 0]) dX0_faultOfReport_58 rfl (by decide) rfl ?_
        refine g_iload_n dX0_faultOfReport_59 rfl rfl ?_
        refine g_if_eq (tgt := 67) dX0_faultOfReport_60 (by decide) (fun c60 => ?_) (fun c60 => ?_)
        · refine g_iconst (x := 2) dX0_faultOfReport_67 (by decide) ?_
          exact g_iret dX0_faultOfReport_68 (Or.inl rfl) ⟨congrArg gK1 (by unfold sFault; (repeat' split) <;> omega), rfl⟩
        · refine g_iconst (x := 0) dX0_faultOfReport_63 (by decide) ?_
          refine g_goto (tgt := 68) dX0_faultOfReport_64 (by decide) ?_
          exact g_iret dX0_faultOfReport_68 (Or.inl rfl) ⟨congrArg gK1 (by unfold sFault; (repeat' split) <;> omega), rfl⟩
      · refine g_iconst (x := 1) dX0_faultOfReport_53 (by decide) ?_
        refine g_goto (tgt := 58) dX0_faultOfReport_54 (by decide) ?_
        refine e_istore_n (loc' := [gR (some n), gI 1]) dX0_faultOfReport_58 rfl (by decide) rfl ?_
        refine g_iload_n dX0_faultOfReport_59 rfl rfl ?_
        refine g_if_eq (tgt := 67) dX0_faultOfReport_60 (by decide) (fun c60 => ?_) (fun c60 => ?_)
        · refine g_iconst (x := 2) dX0_faultOfReport_67 (by decide) ?_
          exact g_iret dX0_faultOfReport_68 (Or.inl rfl) ⟨congrArg gK1 (by unfold sFault; (repeat' split) <;> omega), rfl⟩
        · refine g_iconst (x := 0) dX0_faultOfReport_63 (by decide) ?_
          refine g_goto (tgt := 68) dX0_faultOfReport_64 (by decide) ?_
          exact g_iret dX0_faultOfReport_68 (Or.inl rfl) ⟨congrArg gK1 (by unfold sFault; (repeat' split) <;> omega), rfl⟩
    · refine g_iconst (x := 1) dX0_faultOfReport_20 (by decide) ?_
      exact g_iret dX0_faultOfReport_21 (Or.inl rfl) ⟨congrArg gK1 (by unfold sFault; (repeat' split) <;> omega), rfl⟩
