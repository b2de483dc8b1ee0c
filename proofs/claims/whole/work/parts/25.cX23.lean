/-! contracts: siding and station -/
theorem gMi_to {π : gP} {mj : gM} {y : MethodName} {as : List gV} {h h' : gH} {v : Int} (v' : Int) (hM : gMi π mj y as h v h') (e : v = v') : gMi π mj y as h v' h' := by
  subst e; exact hM
theorem gMr_to {π : gP} {mj : gM} {y : MethodName} {as : List gV} {h h' : gH} {v : Option Nat} (v' : Option Nat) (hM : gMr π mj y as h v h') (e : v = v') : gMr π mj y as h v' h' := by
  subst e; exact hM
theorem gMv_to {π : gP} {mj : gM} {y : MethodName} {as : List gV} {h h' k : gH} (hM : gMv π mj y as h h') (e : h' = k) : gMv π mj y as h k := by
  subst e; exact hM
set_option maxHeartbeats 1000000 in
theorem cX2_hasRoom (l : Launch) {L : Nat} {C M : Nat → Nat → Int} {Z : Nat → Nat → Option Nat} {R : Nat → Option Nat}  : gMi (gπ l) mX2_hasRoom yX2_hasRoom [gR (some 65)] (hq L C M Z R) (if C 65 1 < 20 then 1 else 0) (hq L C M Z R) := by
  refine gMet_of pnX2 rfl rfl rfl (Nat.le_of_ble_eq_true rfl) (gAr gAn) ?_
  show G (gπ l) mX2_hasRoom 0 [gR (some 65)] [] (hq L C M Z R) 0 0 _
  refine g_aload_n dX2_hasRoom_0 rfl rfl ?_
  refine c_getI (x := C 65 1) dX2_hasRoom_1 (fX2_17 l) rfl rfl (by omega) rfl ?_
  refine g_bipush (x := 20) dX2_hasRoom_4 (by decide) ?_
  refine g_icmp_ge (tgt := 13) dX2_hasRoom_6 (by decide) (fun c6 => ?_) (fun c6 => ?_)
  · refine g_iconst (x := 0) dX2_hasRoom_13 (by decide) ?_
    exact g_iret dX2_hasRoom_14 (Or.inr ⟨rfl, Or.inl rfl⟩) ⟨congrArg gK1 (by (repeat' split) <;> omega), rfl⟩
  · refine g_iconst (x := 1) dX2_hasRoom_9 (by decide) ?_
    refine g_goto (tgt := 14) dX2_hasRoom_10 (by decide) ?_
    exact g_iret dX2_hasRoom_14 (Or.inr ⟨rfl, Or.inr rfl⟩) ⟨congrArg gK1 (by (repeat' split) <;> omega), rfl⟩
set_option maxHeartbeats 1000000 in
theorem cX2_cabinAt (l : Launch) {L : Nat} {C M : Nat → Nat → Int} {Z : Nat → Nat → Option Nat} {R : Nat → Option Nat} {sz : Nat} (hsz : C 65 1 = (sz : Int)) (h20 : sz ≤ 20) {p : Int} : gMr (gπ l) mX2_cabinAt yX2_cabinAt [gR (some 65), gI p] (hq L C M Z R) (if 0 ≤ p ∧ p < (sz : Int) then R p.toNat else none) (hq L C M Z R) := by
  refine gMet_of pnX2 rfl rfl rfl (Nat.le_of_ble_eq_true rfl) (gAr (gAi gAn)) ?_
  show G (gπ l) mX2_cabinAt 0 [gR (some 65), gI p] [] (hq L C M Z R) 0 0 _
  refine g_iload_n dX2_cabinAt_0 rfl rfl ?_
  refine g_if_lt (tgt := 12) dX2_cabinAt_1 (by decide) (fun c1 => ?_) (fun c1 => ?_)
  · refine g_null dX2_cabinAt_12 ?_
    refine g_goto (tgt := 22) dX2_cabinAt_13 (by decide) ?_
    exact g_aret dX2_cabinAt_22 rfl ⟨by rw [if_neg (by omega)], rfl⟩
  · refine g_iload_n dX2_cabinAt_4 rfl rfl ?_
    refine g_aload_n dX2_cabinAt_5 rfl rfl ?_
    refine c_getI (x := (sz : Int)) dX2_cabinAt_6 (fX2_17 l) rfl rfl (by omega) hsz ?_
    refine g_icmp_lt (tgt := 16) dX2_cabinAt_9 (by decide) (fun c9 => ?_) (fun c9 => ?_)
    · refine g_aload_n dX2_cabinAt_16 rfl rfl ?_
      refine p_getR (o := some 66) dX2_cabinAt_17 (fX2_11 l) (by decide) rfl (by omega) rfl ?_
      refine g_iload_n dX2_cabinAt_20 rfl rfl ?_
      refine p_aald (ci := 0) (len := 20) (o := R (p).toNat) (kc0 l) dX2_cabinAt_21 rfl (by omega) (by omega) (by omega) rfl ?_
      exact g_aret dX2_cabinAt_22 rfl ⟨by rw [if_pos ⟨by omega, by omega⟩], rfl⟩
    · refine g_null dX2_cabinAt_12 ?_
      refine g_goto (tgt := 22) dX2_cabinAt_13 (by decide) ?_
      exact g_aret dX2_cabinAt_22 rfl ⟨by rw [if_neg (by omega)], rfl⟩
set_option maxHeartbeats 1000000 in
theorem cX2_append (l : Launch) {L : Nat} {C M : Nat → Nat → Int} {Z : Nat → Nat → Option Nat} {R : Nat → Option Nat} {n : Nat} (h1 : 4 ≤ n) (h2 : n < 64) {sz : Nat} (hsz : C 65 1 = (sz : Int)) (h20 : sz < 20) : gMv (gπ l) mX2_append yX2_append [gR (some 65), gR (some n)] (hq L C M Z R) (hq L (up (sStand C n 1) 65 1 ((sz + 1 : Nat) : Int)) M Z (up1 R sz (some n))) := by
  refine gMet_of pnX2 rfl rfl rfl (Nat.le_of_ble_eq_true rfl) (gAr (gAr gAn)) ?_
  show G (gπ l) mX2_append 0 [gR (some 65), gR (some n)] [] (hq L C M Z R) 0 0 _
  refine g_aload_n dX2_append_0 rfl rfl ?_
  refine g_Vi0 dX2_append_1 (sX2_append_1 l) rfl (by show 65 < 87; omega) (Nat.le_of_ble_eq_true rfl) (gMi_to 1 (cX2_hasRoom l) (by rw [if_pos (by omega)])) ?_
  refine g_if_eq (tgt := 32) dX2_append_4 (by decide) (fun c4 => absurd c4 (by omega)) (fun c4 => ?_)
  refine g_aload_n dX2_append_7 rfl rfl ?_
  refine g_iconst (x := 1) dX2_append_8 (by decide) ?_
  refine g_Vv1 dX2_append_9 (sX2_append_9 l) (T0_cab (by omega) (by omega)) (by show n < 87; omega) (Nat.le_of_ble_eq_true rfl) (cX0_standAt l h1 h2) ?_
  refine g_aload_n dX2_append_12 rfl rfl ?_
  refine p_getR (o := some 66) dX2_append_13 (fX2_11 l) (by decide) rfl (by omega) rfl ?_
  refine g_aload_n dX2_append_16 rfl rfl ?_
  refine c_getI (x := (sz : Int)) dX2_append_17 (fX2_17 l) rfl rfl (by omega) (by unfold sStand; rw [up_cell (by omega), up_cell (by omega), up_cell (by omega), up_cell (by omega)]; exact hsz) ?_
  refine g_aload_n dX2_append_20 rfl rfl ?_
  refine p_aastR (kc0 l) dX2_append_21 (by omega) (by omega) (fun v hv => by cases hv; omega) ?_
  refine g_aload_n dX2_append_22 rfl rfl ?_
  refine g_dupR dX2_append_23 ?_
  refine c_getI (x := (sz : Int)) dX2_append_24 (fX2_17 l) rfl rfl (by omega) (by unfold sStand; rw [up_cell (by omega), up_cell (by omega), up_cell (by omega), up_cell (by omega)]; exact hsz) ?_
  refine g_iconst (x := 1) dX2_append_27 (by decide) ?_
  refine e_iadd (v := ((sz + 1 : Nat) : Int)) dX2_append_28 (gadd_nat (by omega)) ?_
  refine c_putI dX2_append_29 (fX2_17 l) gTX2 ⟨rfl, rfl⟩ rfl rfl (by omega) (by omega) ?_
  exact g_vret dX2_append_32 rfl ⟨rfl, rfl⟩
set_option maxHeartbeats 1000000 in
theorem cX2_placeOf (l : Launch) {L : Nat} {C M : Nat → Nat → Int} {Z : Nat → Nat → Option Nat} {R : Nat → Option Nat} {n p sz : Nat} (hsz : C 65 1 = (sz : Int)) (h20 : sz ≤ 20) (hp : p < sz) (hR : R p = some n) (hno : ∀ j, j < p → R j ≠ some n) : gMi (gπ l) mX2_placeOf yX2_placeOf [gR (some 65), gR (some n)] (hq L C M Z R) ((p : Int)) (hq L C M Z R) := by
  refine gMet_of pnX2 rfl rfl rfl (Nat.le_of_ble_eq_true rfl) (gAr (gAr gAn)) ?_
  show G (gπ l) mX2_placeOf 0 [gR (some 65), gR (some n), gU] [] (hq L C M Z R) 0 0 _
  have loop : ∀ (m k : Nat), k + m = p → G (gπ l) mX2_placeOf 2 [gR (some 65), gR (some n), gI (k : Int)] [] (hq L C M Z R) 0 0 (fun r k => r = some (some (gI ((p : Int)))) ∧ k = (hq L C M Z R)) := by
    intro m
    induction m with
    | zero =>
      intro k hk 
      refine g_iload_n dX2_placeOf_2 rfl rfl ?_
      refine g_aload_n dX2_placeOf_3 rfl rfl ?_
      refine c_getI (x := (sz : Int)) dX2_placeOf_4 (fX2_17 l) rfl rfl (by omega) hsz ?_
      refine g_icmp_ge (tgt := 28) dX2_placeOf_7 (by decide) (fun c7 => absurd c7 (by omega)) (fun c7 => ?_)
      refine g_aload_n dX2_placeOf_10 rfl rfl ?_
      refine p_getR (o := some 66) dX2_placeOf_11 (fX2_11 l) (by decide) rfl (by omega) rfl ?_
      refine g_iload_n dX2_placeOf_14 rfl rfl ?_
      refine p_aald (ci := 0) (len := 20) (o := R k) (kc0 l) dX2_placeOf_15 rfl (by omega) (by omega) (by omega) rfl ?_
      refine g_aload_n dX2_placeOf_16 rfl rfl ?_
      refine g_acmp_ne (tgt := 22) dX2_placeOf_17 (by decide) (fun c17 => absurd (by rw [show k = p by omega]; exact hR) c17) (fun _ => ?_)
      refine g_iload_n dX2_placeOf_20 rfl rfl ?_
      exact g_iret dX2_placeOf_21 (Or.inl rfl) ⟨by rw [show k = p by omega], rfl⟩
    | succ m ih =>
      intro k hk 
      refine g_iload_n dX2_placeOf_2 rfl rfl ?_
      refine g_aload_n dX2_placeOf_3 rfl rfl ?_
      refine c_getI (x := (sz : Int)) dX2_placeOf_4 (fX2_17 l) rfl rfl (by omega) hsz ?_
      refine g_icmp_ge (tgt := 28) dX2_placeOf_7 (by decide) (fun c7 => absurd c7 (by omega)) (fun c7 => ?_)
      refine g_aload_n dX2_placeOf_10 rfl rfl ?_
      refine p_getR (o := some 66) dX2_placeOf_11 (fX2_11 l) (by decide) rfl (by omega) rfl ?_
      refine g_iload_n dX2_placeOf_14 rfl rfl ?_
      refine p_aald (ci := 0) (len := 20) (o := R k) (kc0 l) dX2_placeOf_15 rfl (by omega) (by omega) (by omega) rfl ?_
      refine g_aload_n dX2_placeOf_16 rfl rfl ?_
      refine g_acmp_ne (tgt := 22) dX2_placeOf_17 (by decide) (fun _ => ?_) (fun c17 => absurd c17 (hno k (by omega)))
      refine e_iinc (v := ((k + 1 : Nat) : Int)) (loc' := [gR (some 65), gR (some n), gI (((k + 1 : Nat) : Int))]) dX2_placeOf_22 (by decide) rfl (gadd_nat (by omega)) rfl ?_
      refine g_goto (tgt := 2) dX2_placeOf_25 (by decide) ?_
      exact ih (k + 1) (by omega)
  refine g_iconst (x := 0) dX2_placeOf_0 (by decide) ?_
  refine e_istore_n (loc' := [gR (some 65), gR (some n), gI 0]) dX2_placeOf_1 rfl (by decide) rfl ?_
  exact loop p 0 (by omega)
def sRem (R : Nat → Option Nat) (p k : Nat) : Nat → Option Nat := fun j => if p ≤ j ∧ j + 1 < k then R (j + 1) else R j
theorem sRem_0 {R : Nat → Option Nat} {p : Nat} : sRem R p (p + 1) = R := by
  funext j
  unfold sRem
  rw [if_neg (by omega)]
theorem sRem_at {R : Nat → Option Nat} {p k : Nat} : sRem R p k k = R k := by
  unfold sRem
  rw [if_neg (by omega)]
theorem sRem_put {R : Nat → Option Nat} {p k : Nat} (h : p < k) : up1 (sRem R p k) (k - 1) (R k) = sRem R p (k + 1) := by
  funext j
  unfold up1 sRem
  by_cases e : j = k - 1
  · subst e
    rw [if_pos rfl, if_pos (by omega), show k - 1 + 1 = k by omega]
  · rw [if_neg e]
    by_cases c : p ≤ j ∧ j + 1 < k
    · rw [if_pos c, if_pos (by omega)]
    · rw [if_neg c, if_neg (by omega)]
set_option maxHeartbeats 1000000 in
theorem cX2_remove (l : Launch) {L : Nat} {C M : Nat → Nat → Int} {Z : Nat → Nat → Option Nat} {R : Nat → Option Nat} {n p sz : Nat} (hsz : C 65 1 = (sz : Int)) (h20 : sz ≤ 20) (hp : p < sz) (hR : R p = some n) (hno : ∀ j, j < p → R j ≠ some n) (hRb : ∀ j v, R j = some v → 4 ≤ v ∧ v < 64) : gMv (gπ l) mX2_remove yX2_remove [gR (some 65), gR (some n)] (hq L C M Z R) (hq L (up C 65 1 ((sz - 1 : Nat) : Int)) M Z (up1 (sRem R p sz) (sz - 1) none)) := by
  refine gMet_of pnX2 rfl rfl rfl (Nat.le_of_ble_eq_true rfl) (gAr (gAr gAn)) ?_
  show G (gπ l) mX2_remove 0 [gR (some 65), gR (some n), gU, gU] [] (hq L C M Z R) 0 0 _
  have loop : ∀ (m k : Nat), k + m = sz → p < k → G (gπ l) mX2_remove 15 [gR (some 65), gR (some n), gI (p : Int), gI (k : Int)] [] (hq L C M Z (sRem R p k)) 0 0 (fun r k => r = some none ∧ k = (hq L (up C 65 1 ((sz - 1 : Nat) : Int)) M Z (up1 (sRem R p sz) (sz - 1) none))) := by
    intro m
    induction m with
    | zero =>
      intro k hk hpk
      refine g_iload_n dX2_remove_15 rfl rfl ?_
      refine g_aload_n dX2_remove_16 rfl rfl ?_
      refine c_getI (x := (sz : Int)) dX2_remove_17 (fX2_17 l) rfl rfl (by omega) hsz ?_
      refine g_icmp_ge (tgt := 43) dX2_remove_20 (by decide) (fun c20 => ?_) (fun c20 => absurd c20 (by omega))
      refine g_aload_n dX2_remove_43 rfl rfl ?_
      refine g_dupR dX2_remove_44 ?_
      refine c_getI (x := (sz : Int)) dX2_remove_45 (fX2_17 l) rfl rfl (by omega) hsz ?_
      refine g_iconst (x := 1) dX2_remove_48 (by decide) ?_
      refine e_isub (v := ((sz - 1 : Nat) : Int)) dX2_remove_49 (by rw [gsub_eq (by omega) (by omega)]; omega) ?_
      refine c_putI dX2_remove_50 (fX2_17 l) gTX2 ⟨rfl, rfl⟩ rfl rfl (by omega) (by omega) ?_
      refine g_aload_n dX2_remove_53 rfl rfl ?_
      refine p_getR (o := some 66) dX2_remove_54 (fX2_11 l) (by decide) rfl (by omega) rfl ?_
      refine g_aload_n dX2_remove_57 rfl rfl ?_
      refine c_getI (x := ((sz - 1 : Nat) : Int)) dX2_remove_58 (fX2_17 l) rfl rfl (by omega) up_same ?_
      refine g_null dX2_remove_61 ?_
      refine p_aastR (kc0 l) dX2_remove_62 (by omega) (by omega) (fun v hv => nomatch hv) ?_
      exact g_vret dX2_remove_63 rfl ⟨rfl, by rw [show k = sz by omega]; rfl⟩
    | succ m ih =>
      intro k hk hpk
      refine g_iload_n dX2_remove_15 rfl rfl ?_
      refine g_aload_n dX2_remove_16 rfl rfl ?_
      refine c_getI (x := (sz : Int)) dX2_remove_17 (fX2_17 l) rfl rfl (by omega) hsz ?_
      refine g_icmp_ge (tgt := 43) dX2_remove_20 (by decide) (fun c20 => absurd c20 (by omega)) (fun c20 => ?_)
      refine g_aload_n dX2_remove_23 rfl rfl ?_
      refine p_getR (o := some 66) dX2_remove_24 (fX2_11 l) (by decide) rfl (by omega) rfl ?_
      refine g_iload_n dX2_remove_27 rfl rfl ?_
      refine g_iconst (x := 1) dX2_remove_28 (by decide) ?_
      refine e_isub (v := ((k - 1 : Nat) : Int)) dX2_remove_29 (by rw [gsub_eq (by omega) (by omega)]; omega) ?_
      refine g_aload_n dX2_remove_30 rfl rfl ?_
      refine p_getR (o := some 66) dX2_remove_31 (fX2_11 l) (by decide) rfl (by omega) rfl ?_
      refine g_iload_n dX2_remove_34 rfl rfl ?_
      refine p_aald (ci := 0) (len := 20) (o := R k) (kc0 l) dX2_remove_35 rfl (by omega) (by omega) (by omega) sRem_at ?_
      refine p_aastR (kc0 l) dX2_remove_36 (by omega) (by omega) (fun v hv => hRb _ _ hv) ?_
      refine e_iinc (v := ((k + 1 : Nat) : Int)) (loc' := [gR (some 65), gR (some n), gI (p : Int), gI (((k + 1 : Nat) : Int))]) dX2_remove_37 (by decide) rfl (gadd_nat (by omega)) rfl ?_
      refine g_goto (tgt := 15) dX2_remove_40 (by decide) ?_
      refine g_eq rfl (by rw [← sRem_put hpk]; rfl) (ih (k + 1) (by omega) (by omega))
  refine g_aload_n dX2_remove_0 rfl rfl ?_
  refine g_aload_n dX2_remove_1 rfl rfl ?_
  refine g_Vi1 dX2_remove_2 (sX2_remove_2 l) rfl (by show 65 < 87; omega) (Nat.le_of_ble_eq_true rfl) (cX2_placeOf l hsz h20 hp hR hno) ?_
  refine e_istore_n (loc' := [gR (some 65), gR (some n), gI ((p : Int)), gU]) dX2_remove_5 rfl (by decide) rfl ?_
  refine g_iload_n dX2_remove_6 rfl rfl ?_
  refine g_if_ge (tgt := 11) dX2_remove_7 (by decide) (fun c7 => ?_) (fun c7 => absurd c7 (by omega))
  refine g_iload_n dX2_remove_11 rfl rfl ?_
  refine g_iconst (x := 1) dX2_remove_12 (by decide) ?_
  refine e_iadd (v := ((p + 1 : Nat) : Int)) dX2_remove_13 (gadd_nat (by omega)) ?_
  refine e_istore_n (loc' := [gR (some 65), gR (some n), gI ((p : Int)), gI (((p + 1 : Nat) : Int))]) dX2_remove_14 rfl (by decide) rfl ?_
  exact g_eq rfl (by rw [sRem_0]) (loop (sz - (p + 1)) (p + 1) (by omega) (by omega))
def sAdm (C : Nat → Nat → Int) (n s : Nat) (z : Int) : Nat → Nat → Int := up (up (up (sStand C n 2) n 2 (s : Int)) n 3 z) n 5 0
set_option maxHeartbeats 1000000 in
theorem cX3_adm (l : Launch) {L : Nat} {C M : Nat → Nat → Int} {Z : Nat → Nat → Option Nat} {R : Nat → Option Nat} {s : Nat} (hs : s < 2) (hnum : C (70 + 2 * s) 0 = (s : Int)) {n : Nat} (h1 : 4 ≤ n) (h2 : n < 64) {z : Nat} (hz : z < 13) : gMv (gπ l) mX3_adm yX3_adm [gR (some (70 + 2 * s)), gR (some n), gI (z : Int)] (hq L C M Z R) (hq L (sAdm C n s (z : Int)) M (up Z s z (some n)) R) := by
  refine gMet_of pnX3 rfl rfl rfl (Nat.le_of_ble_eq_true rfl) (gAr (gAr (gAi gAn))) ?_
  show G (gπ l) mX3_adm 0 [gR (some (70 + 2 * s)), gR (some n), gI (z : Int)] [] (hq L C M Z R) 0 0 _
  refine g_aload_n dX3_adm_0 rfl rfl ?_
  refine g_iconst (x := 2) dX3_adm_1 (by decide) ?_
  refine g_Vv1 dX3_adm_2 (sX3_adm_2 l) (T0_cab (by omega) (by omega)) (by show n < 87; omega) (Nat.le_of_ble_eq_true rfl) (cX0_standAt l h1 h2) ?_
  refine g_aload_n dX3_adm_5 rfl rfl ?_
  refine g_aload_n dX3_adm_6 rfl rfl ?_
  refine c_getI (x := (s : Int)) dX3_adm_7 (fX3_17 l) rfl (T0_st (by omega)) (by omega) (by unfold sStand; rw [up_cell (by omega), up_cell (by omega), up_cell (by omega), up_cell (by omega)]; exact hnum) ?_
  refine c_putI dX3_adm_10 (fX3_25 l) gTX0 ⟨rfl, rfl⟩ rfl (T0_cab (by omega) (by omega)) (by omega) (by omega) ?_
  refine g_aload_n dX3_adm_13 rfl rfl ?_
  refine g_iload_n dX3_adm_14 rfl rfl ?_
  refine c_putI dX3_adm_15 (fX3_28 l) gTX0 ⟨rfl, rfl⟩ rfl (T0_cab (by omega) (by omega)) (by omega) (by omega) ?_
  refine g_aload_n dX3_adm_18 rfl rfl ?_
  refine g_iconst (x := 0) dX3_adm_19 (by decide) ?_
  refine c_putI dX3_adm_20 (fX3_31 l) gTX0 ⟨rfl, rfl⟩ rfl (T0_cab (by omega) (by omega)) (by omega) (by omega) ?_
  refine g_aload_n dX3_adm_23 rfl rfl ?_
  refine p_getR (o := some (71 + 2 * s)) dX3_adm_24 (fX3_11 l) (by decide) (T0_st (by omega)) (by omega) (rr_zs (by omega)) ?_
  refine g_iload_n dX3_adm_27 rfl rfl ?_
  refine g_aload_n dX3_adm_28 rfl rfl ?_
  refine p_aastZ (s := s) (kc0 l) dX3_adm_29 (by omega) (by omega) (by omega) (fun v hv => by cases hv; omega) ?_
  exact g_vret dX3_adm_30 rfl ⟨rfl, rfl⟩
set_option maxHeartbeats 1000000 in
theorem cX3_goOn_stay (l : Launch) {L : Nat} {C M : Nat → Nat → Int} {Z : Nat → Nat → Option Nat} {R : Nat → Option Nat} {s : Nat} (hs : s < 2) (hnum : C (70 + 2 * s) 0 = (s : Int)) {n : Nat} (h1 : 4 ≤ n) (h2 : n < 64) {z : Nat} (hz : z < 12) (hzn : Z s z = some n) (hst : C n 5 < 15 ∨ ∃ q, Z s (z + 1) = some q) : gMv (gπ l) mX3_goOn yX3_goOn [gR (some (70 + 2 * s)), gI (z : Int)] (hq L C M Z R) (hq L C M Z R) := by
  refine gMet_of pnX3 rfl rfl rfl (Nat.le_of_ble_eq_true rfl) (gAr (gAi gAn)) ?_
  show G (gπ l) mX3_goOn 0 [gR (some (70 + 2 * s)), gI (z : Int), gU] [] (hq L C M Z R) 0 0 _
  refine g_aload_n dX3_goOn_0 rfl rfl ?_
  refine p_getR (o := some (71 + 2 * s)) dX3_goOn_1 (fX3_11 l) (by decide) (T0_st (by omega)) (by omega) (rr_zs (by omega)) ?_
  refine g_iload_n dX3_goOn_4 rfl rfl ?_
  refine p_aald (ci := 0) (len := 13) (o := some n) (kc0 l) dX3_goOn_5 (T0_zones (by omega)) (by omega) (by omega) (by omega) (by rw [rr_zone (by omega)]; exact hzn) ?_
  refine e_astore_n (loc' := [gR (some (70 + 2 * s)), gI (z : Int), gR (some n)]) dX3_goOn_6 rfl (by decide) rfl ?_
  refine g_aload_n dX3_goOn_7 rfl rfl ?_
  refine g_ifnull (tgt := 46) dX3_goOn_8 (by decide) (fun z9 => absurd (z9.symm.trans rfl) (by simp)) (fun _ _ => ?_)
  refine g_aload_n dX3_goOn_11 rfl rfl ?_
  refine c_getI (x := C n 5) dX3_goOn_12 (fX3_31 l) rfl (T0_cab (by omega) (by omega)) (by omega) rfl ?_
  refine g_bipush (x := 15) dX3_goOn_15 (by decide) ?_
  refine g_icmp_lt (tgt := 46) dX3_goOn_17 (by decide) (fun c17 => ?_) (fun c17 => ?_)
  · exact g_vret dX3_goOn_46 rfl ⟨rfl, rfl⟩
  · refine g_aload_n dX3_goOn_20 rfl rfl ?_
    refine p_getR (o := some (71 + 2 * s)) dX3_goOn_21 (fX3_11 l) (by decide) (T0_st (by omega)) (by omega) (rr_zs (by omega)) ?_
    refine g_iload_n dX3_goOn_24 rfl rfl ?_
    refine g_iconst (x := 1) dX3_goOn_25 (by decide) ?_
    refine e_iadd (v := ((z + 1 : Nat) : Int)) dX3_goOn_26 (gadd_nat (by omega)) ?_
    refine p_aald (ci := 0) (len := 13) (o := Z s (z + 1)) (kc0 l) dX3_goOn_27 (T0_zones (by omega)) (by omega) (by omega) (by omega) (rr_zone (by omega)) ?_
    refine g_ifnonnull (tgt := 46) dX3_goOn_28 (by decide) (fun n28 c28 => ?_) (fun c28 => ?_)
    · exact g_vret dX3_goOn_46 rfl ⟨rfl, rfl⟩
    · exact absurd hst (by rintro (z9 | ⟨q, z9⟩); omega; rw [c28] at z9; cases z9)
set_option maxHeartbeats 1000000 in
theorem cX3_goOn_go (l : Launch) {L : Nat} {C M : Nat → Nat → Int} {Z : Nat → Nat → Option Nat} {R : Nat → Option Nat} {s : Nat} (hs : s < 2) (hnum : C (70 + 2 * s) 0 = (s : Int)) {n : Nat} (h1 : 4 ≤ n) (h2 : n < 64) {z : Nat} (hz : z < 12) (hzn : Z s z = some n) (hage : 15 ≤ C n 5) (hnx : Z s (z + 1) = none) : gMv (gπ l) mX3_goOn yX3_goOn [gR (some (70 + 2 * s)), gI (z : Int)] (hq L C M Z R) (hq L (sAdm C n s ((z + 1 : Nat) : Int)) M (up (up Z s z none) s (z + 1) (some n)) R) := by
  refine gMet_of pnX3 rfl rfl rfl (Nat.le_of_ble_eq_true rfl) (gAr (gAi gAn)) ?_
  show G (gπ l) mX3_goOn 0 [gR (some (70 + 2 * s)), gI (z : Int), gU] [] (hq L C M Z R) 0 0 _
  refine g_aload_n dX3_goOn_0 rfl rfl ?_
  refine p_getR (o := some (71 + 2 * s)) dX3_goOn_1 (fX3_11 l) (by decide) (T0_st (by omega)) (by omega) (rr_zs (by omega)) ?_
  refine g_iload_n dX3_goOn_4 rfl rfl ?_
  refine p_aald (ci := 0) (len := 13) (o := some n) (kc0 l) dX3_goOn_5 (T0_zones (by omega)) (by omega) (by omega) (by omega) (by rw [rr_zone (by omega)]; exact hzn) ?_
  refine e_astore_n (loc' := [gR (some (70 + 2 * s)), gI (z : Int), gR (some n)]) dX3_goOn_6 rfl (by decide) rfl ?_
  refine g_aload_n dX3_goOn_7 rfl rfl ?_
  refine g_ifnull (tgt := 46) dX3_goOn_8 (by decide) (fun z9 => absurd (z9.symm.trans rfl) (by simp)) (fun _ _ => ?_)
  refine g_aload_n dX3_goOn_11 rfl rfl ?_
  refine c_getI (x := C n 5) dX3_goOn_12 (fX3_31 l) rfl (T0_cab (by omega) (by omega)) (by omega) rfl ?_
  refine g_bipush (x := 15) dX3_goOn_15 (by decide) ?_
  refine g_icmp_lt (tgt := 46) dX3_goOn_17 (by decide) (fun c17 => absurd c17 (by omega)) (fun c17 => ?_)
  refine g_aload_n dX3_goOn_20 rfl rfl ?_
  refine p_getR (o := some (71 + 2 * s)) dX3_goOn_21 (fX3_11 l) (by decide) (T0_st (by omega)) (by omega) (rr_zs (by omega)) ?_
  refine g_iload_n dX3_goOn_24 rfl rfl ?_
  refine g_iconst (x := 1) dX3_goOn_25 (by decide) ?_
  refine e_iadd (v := ((z + 1 : Nat) : Int)) dX3_goOn_26 (gadd_nat (by omega)) ?_
  refine p_aald (ci := 0) (len := 13) (o := Z s (z + 1)) (kc0 l) dX3_goOn_27 (T0_zones (by omega)) (by omega) (by omega) (by omega) (rr_zone (by omega)) ?_
  refine g_ifnonnull (tgt := 46) dX3_goOn_28 (by decide) (fun n9 z9 => absurd (z9.symm.trans hnx) (by simp)) (fun _ => ?_)
  refine g_aload_n dX3_goOn_31 rfl rfl ?_
  refine p_getR (o := some (71 + 2 * s)) dX3_goOn_32 (fX3_11 l) (by decide) (T0_st (by omega)) (by omega) (rr_zs (by omega)) ?_
  refine g_iload_n dX3_goOn_35 rfl rfl ?_
  refine g_null dX3_goOn_36 ?_
  refine p_aastZ (s := s) (kc0 l) dX3_goOn_37 (by omega) (by omega) (by omega) (fun v hv => nomatch hv) ?_
  refine g_aload_n dX3_goOn_38 rfl rfl ?_
  refine g_aload_n dX3_goOn_39 rfl rfl ?_
  refine g_iload_n dX3_goOn_40 rfl rfl ?_
  refine g_iconst (x := 1) dX3_goOn_41 (by decide) ?_
  refine e_iadd (v := ((z + 1 : Nat) : Int)) dX3_goOn_42 (gadd_nat (by omega)) ?_
  refine g_Vv2 dX3_goOn_43 (sX3_goOn_43 l) (T0_st (by omega)) (by show 70 + 2 * s < 87; omega) (Nat.le_of_ble_eq_true rfl) (cX3_adm l hs hnum h1 h2 (by omega)) ?_
  exact g_vret dX3_goOn_46 rfl ⟨rfl, rfl⟩
set_option maxHeartbeats 1000000 in
theorem cX3_isEmptyUpTo (l : Launch) {L : Nat} {C M : Nat → Nat → Int} {Z : Nat → Nat → Option Nat} {R : Nat → Option Nat} {s : Nat} (hs : s < 2) : gMi (gπ l) mX3_isEmptyUpTo yX3_isEmptyUpTo [gR (some (70 + 2 * s)), gI 5] (hq L C M Z R) (if anyTo (fun j => decide (Z s (j + 1) ≠ none)) 5 = true then 0 else 1) (hq L C M Z R) := by
  refine gMet_of pnX3 rfl rfl rfl (Nat.le_of_ble_eq_true rfl) (gAr (gAi gAn)) ?_
  show G (gπ l) mX3_isEmptyUpTo 0 [gR (some (70 + 2 * s)), gI 5, gU] [] (hq L C M Z R) 0 0 _
  have loop : ∀ (m k : Nat), k + m = 5 → anyTo (fun j => decide (Z s (j + 1) ≠ none)) k = false → G (gπ l) mX3_isEmptyUpTo 2 [gR (some (70 + 2 * s)), gI 5, gI ((k + 1 : Nat) : Int)] [] (hq L C M Z R) 0 0 (fun r k => r = some (some (gI (if anyTo (fun j => decide (Z s (j + 1) ≠ none)) 5 = true then 0 else 1))) ∧ k = (hq L C M Z R)) := by
    intro m
    induction m with
    | zero =>
      intro k hk hno
      refine g_iload_n dX3_isEmptyUpTo_2 rfl rfl ?_
      refine g_iload_n dX3_isEmptyUpTo_3 rfl rfl ?_
      refine g_icmp_gt (tgt := 24) dX3_isEmptyUpTo_4 (by decide) (fun c4 => ?_) (fun c4 => absurd c4 (by omega))
      refine g_iconst (x := 1) dX3_isEmptyUpTo_24 (by decide) ?_
      exact g_iret dX3_isEmptyUpTo_25 (Or.inr ⟨rfl, Or.inr rfl⟩) ⟨congrArg gK1 (by rw [show k = 5 by omega] at hno; rw [hno]; rfl), rfl⟩
    | succ m ih =>
      intro k hk hno
      refine g_iload_n dX3_isEmptyUpTo_2 rfl rfl ?_
      refine g_iload_n dX3_isEmptyUpTo_3 rfl rfl ?_
      refine g_icmp_gt (tgt := 24) dX3_isEmptyUpTo_4 (by decide) (fun c4 => absurd c4 (by omega)) (fun c4 => ?_)
      refine g_aload_n dX3_isEmptyUpTo_7 rfl rfl ?_
      refine p_getR (o := some (71 + 2 * s)) dX3_isEmptyUpTo_8 (fX3_11 l) (by decide) (T0_st (by omega)) (by omega) (rr_zs (by omega)) ?_
      refine g_iload_n dX3_isEmptyUpTo_11 rfl rfl ?_
      refine p_aald (ci := 0) (len := 13) (o := Z s (k + 1)) (kc0 l) dX3_isEmptyUpTo_12 (T0_zones (by omega)) (by omega) (by omega) (by omega) (rr_zone (by omega)) ?_
      refine g_ifnull (tgt := 18) dX3_isEmptyUpTo_13 (by decide) (fun c13 => ?_) (fun n13 c13 => ?_)
      · refine e_iinc (v := ((k + 1 + 1 : Nat) : Int)) (loc' := [gR (some (70 + 2 * s)), gI 5, gI (((k + 1 + 1 : Nat) : Int))]) dX3_isEmptyUpTo_18 (by decide) rfl (gadd_nat (by omega)) rfl ?_
        refine g_goto (tgt := 2) dX3_isEmptyUpTo_21 (by decide) ?_
        refine ih (k + 1) (by omega) ?_
        unfold anyTo
        rw [hno, Bool.false_or, c13]
        rfl
      · refine g_iconst (x := 0) dX3_isEmptyUpTo_16 (by decide) ?_
        exact g_iret dX3_isEmptyUpTo_17 (Or.inr ⟨rfl, Or.inl rfl⟩) ⟨congrArg gK1 (by rw [if_pos ((anyTo_iff 5).mpr ⟨k, by omega, decide_eq_true (by rw [c13]; simp)⟩)]), rfl⟩
  refine g_iconst (x := 1) dX3_isEmptyUpTo_0 (by decide) ?_
  refine e_istore_n (loc' := [gR (some (70 + 2 * s)), gI 5, gI 1]) dX3_isEmptyUpTo_1 rfl (by decide) rfl ?_
  exact loop 5 0 (by omega) rfl
set_option maxHeartbeats 1000000 in
theorem cX3_count (l : Launch) {L : Nat} {C M : Nat → Nat → Int} {Z : Nat → Nat → Option Nat} {R : Nat → Option Nat} {s : Nat} (hs : s < 2) : gMi (gπ l) mX3_count yX3_count [gR (some (70 + 2 * s))] (hq L C M Z R) (cntTo (fun j => decide (Z s (j + 1) ≠ none)) 12) (hq L C M Z R) := by
  refine gMet_of pnX3 rfl rfl rfl (Nat.le_of_ble_eq_true rfl) (gAr gAn) ?_
  show G (gπ l) mX3_count 0 [gR (some (70 + 2 * s)), gU, gU] [] (hq L C M Z R) 0 0 _
  have loop : ∀ (m k : Nat), k + m = 12 → G (gπ l) mX3_count 4 [gR (some (70 + 2 * s)), gI (cntTo (fun j => decide (Z s (j + 1) ≠ none)) k), gI ((k + 1 : Nat) : Int)] [] (hq L C M Z R) 0 0 (fun r k => r = some (some (gI (cntTo (fun j => decide (Z s (j + 1) ≠ none)) 12))) ∧ k = (hq L C M Z R)) := by
    intro m
    induction m with
    | zero =>
      intro k hk 
      refine g_iload_n dX3_count_4 rfl rfl ?_
      refine g_bipush (x := 12) dX3_count_5 (by decide) ?_
      refine g_icmp_gt (tgt := 28) dX3_count_7 (by decide) (fun c7 => ?_) (fun c7 => absurd c7 (by omega))
      refine g_iload_n dX3_count_28 rfl rfl ?_
      exact g_iret dX3_count_29 (Or.inl rfl) ⟨by rw [show k = 12 by omega], rfl⟩
    | succ m ih =>
      intro k hk 
      refine g_iload_n dX3_count_4 rfl rfl ?_
      refine g_bipush (x := 12) dX3_count_5 (by decide) ?_
      refine g_icmp_gt (tgt := 28) dX3_count_7 (by decide) (fun c7 => absurd c7 (by omega)) (fun c7 => ?_)
      refine g_aload_n dX3_count_10 rfl rfl ?_
      refine p_getR (o := some (71 + 2 * s)) dX3_count_11 (fX3_11 l) (by decide) (T0_st (by omega)) (by omega) (rr_zs (by omega)) ?_
      refine g_iload_n dX3_count_14 rfl rfl ?_
      refine p_aald (ci := 0) (len := 13) (o := Z s (k + 1)) (kc0 l) dX3_count_15 (T0_zones (by omega)) (by omega) (by omega) (by omega) (rr_zone (by omega)) ?_
      refine g_ifnull (tgt := 22) dX3_count_16 (by decide) (fun c16 => ?_) (fun n16 c16 => ?_)
      · refine e_iinc (v := ((k + 1 + 1 : Nat) : Int)) (loc' := [gR (some (70 + 2 * s)), gI (cntTo (fun j => decide (Z s (j + 1) ≠ none)) k), gI (((k + 1 + 1 : Nat) : Int))]) dX3_count_22 (by decide) rfl (gadd_nat (by omega)) rfl ?_
        refine g_goto (tgt := 4) dX3_count_25 (by decide) ?_
        refine g_eq (loc' := [gR (some (70 + 2 * s)), gI (cntTo (fun j => decide (Z s (j + 1) ≠ none)) (k + 1)), gI ((k + 1 + 1 : Nat) : Int)]) ?_ rfl (ih (k + 1) (by omega))
        simp [cntTo, c16]
      · refine e_iinc (v := cntTo (fun j => decide (Z s (j + 1) ≠ none)) k + 1) (loc' := [gR (some (70 + 2 * s)), gI (cntTo (fun j => decide (Z s (j + 1) ≠ none)) k + 1), gI ((k + 1 : Nat) : Int)]) dX3_count_19 (by decide) rfl (gadd_eq (by have := cntTo_nn (p := (fun j => decide (Z s (j + 1) ≠ none))) k; omega) (by have := cntTo_nn (p := (fun j => decide (Z s (j + 1) ≠ none))) k; omega)) rfl ?_
        refine e_iinc (v := ((k + 1 + 1 : Nat) : Int)) (loc' := [gR (some (70 + 2 * s)), gI (cntTo (fun j => decide (Z s (j + 1) ≠ none)) k + 1), gI (((k + 1 + 1 : Nat) : Int))]) dX3_count_22 (by decide) rfl (gadd_nat (by omega)) rfl ?_
        refine g_goto (tgt := 4) dX3_count_25 (by decide) ?_
        refine g_eq (loc' := [gR (some (70 + 2 * s)), gI (cntTo (fun j => decide (Z s (j + 1) ≠ none)) (k + 1)), gI ((k + 1 + 1 : Nat) : Int)]) ?_ rfl (ih (k + 1) (by omega))
        simp [cntTo, c16]
  refine g_iconst (x := 0) dX3_count_0 (by decide) ?_
  refine e_istore_n (loc' := [gR (some (70 + 2 * s)), gI 0, gU]) dX3_count_1 rfl (by decide) rfl ?_
  refine g_iconst (x := 1) dX3_count_2 (by decide) ?_
  refine e_istore_n (loc' := [gR (some (70 + 2 * s)), gI 0, gI 1]) dX3_count_3 rfl (by decide) rfl ?_
  exact loop 12 0 (by omega)
