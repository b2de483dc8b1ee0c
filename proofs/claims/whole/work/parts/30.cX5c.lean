/-! contracts: the calls of the desk -/
theorem up_id {α : Type} {f : Nat → Nat → α} {a b : Nat} : up f a b (f a b) = f := by
  funext a' b'
  unfold up
  split
  · rename_i h; rw [h.1, h.2]
  · rfl
set_option maxHeartbeats 1000000 in
theorem cX5_passOneTick (l : Launch) {L : Nat} {S : sT} {M : Nat → Nat → Int} (hw : Wf S) : gMv (gπ l) mX5_passOneTick yX5_passOneTick [gR (some 1)] (hS L S M) (hS L (oTick S) M) := by
  refine gMet_of pnX5 rfl rfl rfl (Nat.le_of_ble_eq_true rfl) (gAr gAn) ?_
  show G (gπ l) mX5_passOneTick 0 [gR (some 1), gU] [] (hS L S M) 0 0 _
  have key : ∀ S : sT, Wf S → ∀ e1 : gV, G (gπ l) mX5_passOneTick 18 [gR (some 1), e1] [] (hS L S M) 0 0 (fun r k9 => r = some none ∧ k9 = hS L (oEnd (oZones (oZones S 0 12) 1 12)) M) := by
    intro S hw e1
    refine g_iconst (x := 0) dX5_passOneTick_18 (by decide) ?_
    refine e_istore_n (loc' := [gR (some 1), gI 0]) dX5_passOneTick_19 rfl (by decide) rfl ?_
    refine g_iload_n dX5_passOneTick_20 rfl rfl ?_
    refine g_iconst (x := 2) dX5_passOneTick_21 (by decide) ?_
    refine g_icmp_ge (tgt := 41) dX5_passOneTick_22 (by decide) (fun c22 => absurd c22 (by omega)) (fun c22 => ?_)
    refine g_aload_n dX5_passOneTick_25 rfl rfl ?_
    refine g_aload_n dX5_passOneTick_26 rfl rfl ?_
    refine p_getR (o := some 64) dX5_passOneTick_27 (fX5_18 l) (by decide) rfl (by omega) rfl ?_
    refine g_iload_n dX5_passOneTick_30 rfl rfl ?_
    refine p_aald (ci := 3) (len := 2) (o := some (70 + 2 * 0)) (kc3 l) dX5_passOneTick_31 rfl (by omega) (by omega) (by omega) (rr_st (by omega)) ?_
    refine g_Vv1 dX5_passOneTick_32 (sX5_passOneTick_32 l) rfl (by show 1 < 87; omega) (Nat.le_of_ble_eq_true rfl) (cX5_workZones l (s := 0) hw (by omega)) ?_
    refine e_iinc (v := 1) (loc' := [gR (some 1), gI (1)]) dX5_passOneTick_35 (by decide) rfl (by rw [gadd_eq (by omega) (by omega)]; rfl) rfl ?_
    refine g_goto (tgt := 20) dX5_passOneTick_38 (by decide) ?_
    refine g_iload_n dX5_passOneTick_20 rfl rfl ?_
    refine g_iconst (x := 2) dX5_passOneTick_21 (by decide) ?_
    refine g_icmp_ge (tgt := 41) dX5_passOneTick_22 (by decide) (fun c22 => absurd c22 (by omega)) (fun c22 => ?_)
    refine g_aload_n dX5_passOneTick_25 rfl rfl ?_
    refine g_aload_n dX5_passOneTick_26 rfl rfl ?_
    refine p_getR (o := some 64) dX5_passOneTick_27 (fX5_18 l) (by decide) rfl (by omega) rfl ?_
    refine g_iload_n dX5_passOneTick_30 rfl rfl ?_
    refine p_aald (ci := 3) (len := 2) (o := some (70 + 2 * 1)) (kc3 l) dX5_passOneTick_31 rfl (by omega) (by omega) (by omega) (rr_st (by omega)) ?_
    refine g_Vv1 dX5_passOneTick_32 (sX5_passOneTick_32 l) rfl (by show 1 < 87; omega) (Nat.le_of_ble_eq_true rfl) (cX5_workZones l (S := oZones S 0 12) (s := 1) (Wf.zones (by omega) 12 hw) (by omega)) ?_
    refine e_iinc (v := 2) (loc' := [gR (some 1), gI (2)]) dX5_passOneTick_35 (by decide) rfl (by rw [gadd_eq (by omega) (by omega)]; rfl) rfl ?_
    refine g_goto (tgt := 20) dX5_passOneTick_38 (by decide) ?_
    refine g_iload_n dX5_passOneTick_20 rfl rfl ?_
    refine g_iconst (x := 2) dX5_passOneTick_21 (by decide) ?_
    refine g_icmp_ge (tgt := 41) dX5_passOneTick_22 (by decide) (fun c22 => ?_) (fun c22 => absurd c22 (by omega))
    generalize oZones (oZones S 0 12) 1 12 = T
    refine g_aload_n dX5_passOneTick_41 rfl rfl ?_
    refine g_Vi0 dX5_passOneTick_42 (sX5_passOneTick_42 l) rfl (by show 1 < 87; omega) (Nat.le_of_ble_eq_true rfl) (cX5_targetSpeed l) ?_
    refine e_istore_n (loc' := [gR (some 1), gI (oTarget T)]) dX5_passOneTick_45 rfl (by decide) rfl ?_
    refine g_aload_n dX5_passOneTick_46 rfl rfl ?_
    refine c_getI (x := T.1 1 7) dX5_passOneTick_47 (fX5_46 l) rfl rfl (by omega) rfl ?_
    refine g_iload_n dX5_passOneTick_50 rfl rfl ?_
    refine g_icmp_ge (tgt := 67) dX5_passOneTick_51 (by decide) (fun c51 => ?_) (fun c51 => ?_)
    · refine g_aload_n dX5_passOneTick_67 rfl rfl ?_
      refine c_getI (x := T.1 1 7) dX5_passOneTick_68 (fX5_46 l) rfl rfl (by omega) rfl ?_
      refine g_iload_n dX5_passOneTick_71 rfl rfl ?_
      refine g_icmp_le (tgt := 85) dX5_passOneTick_72 (by decide) (fun c72 => ?_) (fun c72 => ?_)
      · refine g_aload_n dX5_passOneTick_85 rfl rfl ?_
        refine g_dupR dX5_passOneTick_86 ?_
        refine c_getI (x := T.1 1 8) dX5_passOneTick_87 (fX5_49 l) rfl rfl (by omega) rfl ?_
        refine g_iconst (x := 1) dX5_passOneTick_90 (by decide) ?_
        refine e_iadd (v := gadd (T.1 1 8) 1) dX5_passOneTick_91 rfl ?_
        refine c_putI dX5_passOneTick_92 (fX5_49 l) gTX5 ⟨rfl, rfl⟩ rfl rfl (by omega) (by omega) ?_
        exact g_vret dX5_passOneTick_95 rfl ⟨rfl, by unfold oEnd oSpeed; rw [if_neg (by omega), if_neg (by omega), up_id]⟩
      · refine g_aload_n dX5_passOneTick_75 rfl rfl ?_
        refine g_dupR dX5_passOneTick_76 ?_
        refine c_getI (x := T.1 1 7) dX5_passOneTick_77 (fX5_46 l) rfl rfl (by omega) rfl ?_
        refine g_iconst (x := 1) dX5_passOneTick_80 (by decide) ?_
        refine e_isub (v := gsub (T.1 1 7) 1) dX5_passOneTick_81 rfl ?_
        refine c_putI dX5_passOneTick_82 (fX5_46 l) gTX5 ⟨rfl, rfl⟩ rfl rfl (by omega) (by omega) ?_
        refine g_aload_n dX5_passOneTick_85 rfl rfl ?_
        refine g_dupR dX5_passOneTick_86 ?_
        refine c_getI (x := T.1 1 8) dX5_passOneTick_87 (fX5_49 l) rfl rfl (by omega) (up_slot (by omega)) ?_
        refine g_iconst (x := 1) dX5_passOneTick_90 (by decide) ?_
        refine e_iadd (v := gadd (T.1 1 8) 1) dX5_passOneTick_91 rfl ?_
        refine c_putI dX5_passOneTick_92 (fX5_49 l) gTX5 ⟨rfl, rfl⟩ rfl rfl (by omega) (by omega) ?_
        exact g_vret dX5_passOneTick_95 rfl ⟨rfl, by unfold oEnd oSpeed; rw [if_neg (by omega), if_pos c72]⟩
    · refine g_aload_n dX5_passOneTick_54 rfl rfl ?_
      refine g_dupR dX5_passOneTick_55 ?_
      refine c_getI (x := T.1 1 7) dX5_passOneTick_56 (fX5_46 l) rfl rfl (by omega) rfl ?_
      refine g_iconst (x := 1) dX5_passOneTick_59 (by decide) ?_
      refine e_iadd (v := gadd (T.1 1 7) 1) dX5_passOneTick_60 rfl ?_
      refine c_putI dX5_passOneTick_61 (fX5_46 l) gTX5 ⟨rfl, rfl⟩ rfl rfl (by omega) (by omega) ?_
      refine g_goto (tgt := 85) dX5_passOneTick_64 (by decide) ?_
      refine g_aload_n dX5_passOneTick_85 rfl rfl ?_
      refine g_dupR dX5_passOneTick_86 ?_
      refine c_getI (x := T.1 1 8) dX5_passOneTick_87 (fX5_49 l) rfl rfl (by omega) (up_slot (by omega)) ?_
      refine g_iconst (x := 1) dX5_passOneTick_90 (by decide) ?_
      refine e_iadd (v := gadd (T.1 1 8) 1) dX5_passOneTick_91 rfl ?_
      refine c_putI dX5_passOneTick_92 (fX5_49 l) gTX5 ⟨rfl, rfl⟩ rfl rfl (by omega) (by omega) ?_
      exact g_vret dX5_passOneTick_95 rfl ⟨rfl, by unfold oEnd oSpeed; rw [if_pos c51]⟩
  refine g_aload_n dX5_passOneTick_0 rfl rfl ?_
  refine p_getR (o := some 67) dX5_passOneTick_1 (fX5_32 l) (by decide) rfl (by omega) rfl ?_
  refine c_getI (x := S.1 67 4) dX5_passOneTick_4 (fX5_177 l) rfl rfl (by omega) rfl ?_
  refine g_sipush (x := 250) dX5_passOneTick_7 (by decide) ?_
  refine g_icmp_le (tgt := 18) dX5_passOneTick_10 (by decide) (fun c10 => ?_) (fun c10 => ?_)
  · rw [show oTick S = oEnd (oZones (oZones S 0 12) 1 12) from by unfold oTick oWind; rw [if_pos c10]]
    exact key S hw gU
  · refine g_aload_n dX5_passOneTick_13 rfl rfl ?_
    refine g_iconst (x := 2) dX5_passOneTick_14 (by decide) ?_
    refine g_Vv1 dX5_passOneTick_15 (sX5_passOneTick_15 l) rfl (by show 1 < 87; omega) (Nat.le_of_ble_eq_true rfl) (cX5_lock l) ?_
    rw [show oTick S = oEnd (oZones (oZones (oLock S.1 2, S.2) 0 12) 1 12) from by unfold oTick oWind; rw [if_neg (by omega)]]
    exact key (oLock S.1 2, S.2) hw.lock gU
set_option maxHeartbeats 1000000 in
theorem cX5_tick (l : Launch) {L : Nat} {S : sT} {M : Nat → Nat → Int} (hw : Wf S) {t : Nat} (h1 : 1 ≤ t) (h2 : t ≤ 100) : gMi (gπ l) mX5_tick yX5_tick [gR (some 1), gI (t : Int)] (hS L S M) ((oTicks S t).1 1 7) (hS L (oTicks S t) M) := by
  refine gMet_of pnX5 rfl rfl rfl (Nat.le_of_ble_eq_true rfl) (gAr (gAi gAn)) ?_
  show G (gπ l) mX5_tick 0 [gR (some 1), gI (t : Int), gU] [] (hS L S M) 0 0 _
  have loop : ∀ (m k : Nat) (S : sT), k + m = t → Wf S → G (gπ l) mX5_tick 23 [gR (some 1), gI (t : Int), gI (k : Int)] [] (hS L S M) 0 0 (fun r k9 => r = some (some (gI ((oTicks S m).1 1 7))) ∧ k9 = hS L (oTicks S m) M) := by
    intro m
    induction m with
    | zero =>
      intro k S hk hw
      refine g_iload_n dX5_tick_23 rfl rfl ?_
      refine g_iload_n dX5_tick_24 rfl rfl ?_
      refine g_icmp_ge (tgt := 38) dX5_tick_25 (by decide) (fun c25 => ?_) (fun c25 => absurd c25 (by omega))
      refine g_aload_n dX5_tick_38 rfl rfl ?_
      refine c_getI (x := S.1 1 7) dX5_tick_39 (fX5_46 l) rfl rfl (by omega) rfl ?_
      exact g_iret dX5_tick_42 (Or.inl rfl) ⟨rfl, rfl⟩
    | succ m ih =>
      intro k S hk hw
      refine g_iload_n dX5_tick_23 rfl rfl ?_
      refine g_iload_n dX5_tick_24 rfl rfl ?_
      refine g_icmp_ge (tgt := 38) dX5_tick_25 (by decide) (fun c25 => absurd c25 (by omega)) (fun c25 => ?_)
      refine g_aload_n dX5_tick_28 rfl rfl ?_
      refine g_Vv0 dX5_tick_29 (sX5_tick_29 l) rfl (by show 1 < 87; omega) (Nat.le_of_ble_eq_true rfl) (cX5_passOneTick l hw) ?_
      refine e_iinc (v := ((k + 1 : Nat) : Int)) (loc' := [gR (some 1), gI (t : Int), gI (((k + 1 : Nat) : Int))]) dX5_tick_32 (by decide) rfl (gadd_nat (by omega)) rfl ?_
      refine g_goto (tgt := 23) dX5_tick_35 (by decide) ?_
      exact ih (k + 1) (oTick S) (by omega) hw.tick
  refine g_iload_n dX5_tick_0 rfl rfl ?_
  refine g_iconst (x := 1) dX5_tick_1 (by decide) ?_
  refine g_icmp_lt (tgt := 11) dX5_tick_2 (by decide) (fun c2 => absurd c2 (by omega)) (fun c2 => ?_)
  refine g_iload_n dX5_tick_5 rfl rfl ?_
  refine g_bipush (x := 100) dX5_tick_6 (by decide) ?_
  refine g_icmp_le (tgt := 21) dX5_tick_8 (by decide) (fun c8 => ?_) (fun c8 => absurd c8 (by omega))
  refine g_iconst (x := 0) dX5_tick_21 (by decide) ?_
  refine e_istore_n (loc' := [gR (some 1), gI (t : Int), gI 0]) dX5_tick_22 rfl (by decide) rfl ?_
  exact loop t 0 S (by omega) hw
set_option maxHeartbeats 1000000 in
theorem cX5_tick_x (l : Launch) {L : Nat} {S : sT} {M : Nat → Nat → Int} {v : Int} (h1 : ¬ (1 ≤ v ∧ v ≤ 100)) : gMx (gπ l) mX5_tick yX5_tick [gR (some 1), gI v] (hS L S M) (hS L S M) := by
  refine gMet_of pnX5 rfl rfl rfl (Nat.le_of_ble_eq_true rfl) (gAr (gAi gAn)) ?_
  show G (gπ l) mX5_tick 0 [gR (some 1), gI v, gU] [] (hS L S M) 1 6 _
  refine g_iload_n dX5_tick_0 rfl rfl ?_
  refine g_iconst (x := 1) dX5_tick_1 (by decide) ?_
  refine g_icmp_lt (tgt := 11) dX5_tick_2 (by decide) (fun c2 => ?_) (fun c2 => ?_)
  · exact g_throw (mc := 0) (ms := 0) (names := gNm) (text := "n is not 1 .. 100") dX5_tick_11 dX5_tick_14 dX5_tick_15 dX5_tick_17 dX5_tick_20 (wthr l) fthr (List.mem_of_getElem? (i := 1) rfl) rfl ⟨by decide, Nat.le_of_ble_eq_true rfl⟩ ⟨rfl, rfl⟩
  · refine g_iload_n dX5_tick_5 rfl rfl ?_
    refine g_bipush (x := 100) dX5_tick_6 (by decide) ?_
    refine g_icmp_le (tgt := 21) dX5_tick_8 (by decide) (fun c8 => absurd c8 (by omega)) (fun c8 => ?_)
    exact g_throw (mc := 0) (ms := 0) (names := gNm) (text := "n is not 1 .. 100") dX5_tick_11 dX5_tick_14 dX5_tick_15 dX5_tick_17 dX5_tick_20 (wthr l) fthr (List.mem_of_getElem? (i := 1) rfl) rfl ⟨by decide, Nat.le_of_ble_eq_true rfl⟩ ⟨rfl, rfl⟩
def oMove (n : Int) : Nat → sT → Int → sT × Int
  | 0, S, v => (S, v)
  | f + 1, S, v => if n ≤ v then (S, v) else if gsub 5700 (oFar S.1) ≤ 0 then ((oLock S.1 3, S.2), v) else oMove n f (oGo (sAdv S.1 (min (gsub 5700 (oFar S.1)) (n - v)) 60, S.2)) (v + min (gsub 5700 (oFar S.1)) (n - v))
set_option maxHeartbeats 1000000 in
theorem cX5_moveRope (l : Launch) {L : Nat} {S : sT} {M : Nat → Nat → Int} (hw : Wf S) {n : Int} (h1 : 0 ≤ n) (h2 : n ≤ 600) : gMi (gπ l) mX5_moveRope yX5_moveRope [gR (some 1), gI n] (hS L S M) ((oMove n n.toNat S 0).2) (hS L ((oMove n n.toNat S 0).1) M) := by
  refine gMet_of pnX5 rfl rfl rfl (Nat.le_of_ble_eq_true rfl) (gAr (gAi gAn)) ?_
  show G (gπ l) mX5_moveRope 0 [gR (some 1), gI n, gU, gU, gU] [] (hS L S M) 0 0 _
  have loop : ∀ (f : Nat) (S : sT) (v : Int), Wf S → 0 ≤ v → v ≤ n → n - v ≤ f → ∀ e3 e4 : gV, G (gπ l) mX5_moveRope 2 [gR (some 1), gI n, gI v, e3, e4] [] (hS L S M) 0 0 (fun r k9 => r = some (some (gI (oMove n f S v).2)) ∧ k9 = hS L (oMove n f S v).1 M) := by
    intro f
    induction f with
    | zero =>
      intro S v hw v1 v2 v3 e3 e4
      refine g_iload_n dX5_moveRope_2 rfl rfl ?_
      refine g_iload_n dX5_moveRope_3 rfl rfl ?_
      refine g_icmp_ge (tgt := 60) dX5_moveRope_4 (by decide) (fun c4 => ?_) (fun c4 => absurd c4 (by omega))
      refine g_iload_n dX5_moveRope_60 rfl rfl ?_
      exact g_iret dX5_moveRope_61 (Or.inl rfl) ⟨rfl, rfl⟩
    | succ f ih =>
      intro S v hw v1 v2 v3 e3 e4
      refine g_iload_n dX5_moveRope_2 rfl rfl ?_
      refine g_iload_n dX5_moveRope_3 rfl rfl ?_
      refine g_icmp_ge (tgt := 60) dX5_moveRope_4 (by decide) (fun c4 => ?_) (fun c4 => ?_)
      · refine g_iload_n dX5_moveRope_60 rfl rfl ?_
        exact g_iret dX5_moveRope_61 (Or.inl rfl) ⟨by rw [oMove, if_pos c4], by rw [oMove, if_pos c4]⟩
      · refine g_sipush (x := 5700) dX5_moveRope_7 (by decide) ?_
        refine g_aload_n dX5_moveRope_10 rfl rfl ?_
        refine p_getR (o := some 2) dX5_moveRope_11 (fX5_10 l) (by decide) rfl (by omega) rfl ?_
        refine g_Vi0 dX5_moveRope_14 (sX5_moveRope_14 l) rfl (by show 2 < 87; omega) (Nat.le_of_ble_eq_true rfl) (gMi_to (oFar S.1) (cX1_farthest l) rfl) ?_
        refine e_isub (v := gsub 5700 (oFar S.1)) dX5_moveRope_17 rfl ?_
        refine e_istore_n (loc' := [gR (some 1), gI n, gI v, gI (gsub 5700 (oFar S.1)), e4]) dX5_moveRope_18 rfl (by decide) rfl ?_
        refine g_iload_n dX5_moveRope_19 rfl rfl ?_
        refine g_if_gt (tgt := 30) dX5_moveRope_20 (by decide) (fun c20 => ?_) (fun c20 => ?_)
        · refine g_iload_n dX5_moveRope_30 rfl rfl ?_
          refine g_iload_n dX5_moveRope_31 rfl rfl ?_
          refine g_iload_n dX5_moveRope_32 rfl rfl ?_
          refine e_isub (v := n - v) dX5_moveRope_33 (gsub_eq (by omega) (by omega)) ?_
          refine g_min dX5_moveRope_34 aX5_203 ⟨by decide, Nat.le_of_ble_eq_true rfl⟩ ?_
          refine e_istore (loc' := [gR (some 1), gI n, gI v, gI (gsub 5700 (oFar S.1)), gI (min (gsub 5700 (oFar S.1)) (n - v))]) dX5_moveRope_37 (by decide) rfl ?_
          refine g_aload_n dX5_moveRope_39 rfl rfl ?_
          refine p_getR (o := some 2) dX5_moveRope_40 (fX5_10 l) (by decide) rfl (by omega) rfl ?_
          refine g_iload dX5_moveRope_43 rfl ?_
          refine g_Vv1 dX5_moveRope_45 (sX5_moveRope_45 l) rfl (by show 2 < 87; omega) (Nat.le_of_ble_eq_true rfl) (cX1_advance l) ?_
          refine g_aload_n dX5_moveRope_48 rfl rfl ?_
          refine g_Vv0 dX5_moveRope_49 (sX5_moveRope_49 l) rfl (by show 1 < 87; omega) (Nat.le_of_ble_eq_true rfl) (cX5_letGo l (S := (sAdv S.1 (min (gsub 5700 (oFar S.1)) (n - v)) 60, S.2)) hw.adv) ?_
          refine g_iload_n dX5_moveRope_52 rfl rfl ?_
          refine g_iload dX5_moveRope_53 rfl ?_
          refine e_iadd (v := v + min (gsub 5700 (oFar S.1)) (n - v)) dX5_moveRope_55 (gadd_eq (by omega) (by omega)) ?_
          refine e_istore_n (loc' := [gR (some 1), gI n, gI (v + min (gsub 5700 (oFar S.1)) (n - v)), gI (gsub 5700 (oFar S.1)), gI (min (gsub 5700 (oFar S.1)) (n - v))]) dX5_moveRope_56 rfl (by decide) rfl ?_
          refine g_goto (tgt := 2) dX5_moveRope_57 (by decide) ?_
          rw [show oMove n (f + 1) S v = oMove n f (oGo (sAdv S.1 (min (gsub 5700 (oFar S.1)) (n - v)) 60, S.2)) (v + min (gsub 5700 (oFar S.1)) (n - v)) from by rw [oMove, if_neg (by omega), if_neg (by omega)]]
          exact ih (oGo (sAdv S.1 (min (gsub 5700 (oFar S.1)) (n - v)) 60, S.2)) (v + min (gsub 5700 (oFar S.1)) (n - v)) (Wf.go hw.adv) (by omega) (by omega) (by omega) _ _
        · refine g_aload_n dX5_moveRope_23 rfl rfl ?_
          refine g_iconst (x := 3) dX5_moveRope_24 (by decide) ?_
          refine g_Vv1 dX5_moveRope_25 (sX5_moveRope_25 l) rfl (by show 1 < 87; omega) (Nat.le_of_ble_eq_true rfl) (cX5_lock l) ?_
          refine g_iload_n dX5_moveRope_28 rfl rfl ?_
          exact g_iret dX5_moveRope_29 (Or.inl rfl) ⟨by rw [oMove, if_neg (by omega), if_pos c20], by rw [oMove, if_neg (by omega), if_pos c20]⟩
  refine g_iconst (x := 0) dX5_moveRope_0 (by decide) ?_
  refine e_istore_n (loc' := [gR (some 1), gI n, gI 0, gU, gU]) dX5_moveRope_1 rfl (by decide) rfl ?_
  exact loop n.toNat S 0 hw (by omega) (by omega) (by omega) gU gU
def oPulse (S : sT) (n : Int) : sT × Int := ((up (oMove n n.toNat (oGo S) 0).1.1 1 9 (gadd ((oMove n n.toNat (oGo S) 0).1.1 1 9) (oMove n n.toNat (oGo S) 0).2), (oMove n n.toNat (oGo S) 0).1.2), (oMove n n.toNat (oGo S) 0).2)
set_option maxHeartbeats 1000000 in
theorem cX5_pulse (l : Launch) {L : Nat} {S : sT} {M : Nat → Nat → Int} (hw : Wf S) {n : Int} (h1 : 0 ≤ n) (h2 : n ≤ 600) : gMi (gπ l) mX5_pulse yX5_pulse [gR (some 1), gI n] (hS L S M) ((oPulse S n).2) (hS L ((oPulse S n).1) M) := by
  refine gMet_of pnX5 rfl rfl rfl (Nat.le_of_ble_eq_true rfl) (gAr (gAi gAn)) ?_
  show G (gπ l) mX5_pulse 0 [gR (some 1), gI n, gU] [] (hS L S M) 0 0 _
  refine g_iload_n dX5_pulse_0 rfl rfl ?_
  refine g_if_lt (tgt := 11) dX5_pulse_1 (by decide) (fun c1 => absurd c1 (by omega)) (fun c1 => ?_)
  refine g_iload_n dX5_pulse_4 rfl rfl ?_
  refine g_sipush (x := 600) dX5_pulse_5 (by decide) ?_
  refine g_icmp_le (tgt := 21) dX5_pulse_8 (by decide) (fun c8 => ?_) (fun c8 => absurd c8 (by omega))
  refine g_aload_n dX5_pulse_21 rfl rfl ?_
  refine g_Vv0 dX5_pulse_22 (sX5_pulse_22 l) rfl (by show 1 < 87; omega) (Nat.le_of_ble_eq_true rfl) (cX5_letGo l hw) ?_
  refine g_aload_n dX5_pulse_25 rfl rfl ?_
  refine g_iload_n dX5_pulse_26 rfl rfl ?_
  refine g_Vi1 dX5_pulse_27 (sX5_pulse_27 l) rfl (by show 1 < 87; omega) (Nat.le_of_ble_eq_true rfl) (cX5_moveRope l (S := oGo S) hw.go h1 h2) ?_
  refine e_istore_n (loc' := [gR (some 1), gI n, gI ((oMove n n.toNat (oGo S) 0).2)]) dX5_pulse_30 rfl (by decide) rfl ?_
  refine g_aload_n dX5_pulse_31 rfl rfl ?_
  refine g_dupR dX5_pulse_32 ?_
  refine c_getI (x := ((oMove n n.toNat (oGo S) 0).1.1) 1 9) dX5_pulse_33 (fX5_52 l) rfl rfl (by omega) rfl ?_
  refine g_iload_n dX5_pulse_36 rfl rfl ?_
  refine e_iadd (v := gadd (((oMove n n.toNat (oGo S) 0).1.1) 1 9) ((oMove n n.toNat (oGo S) 0).2)) dX5_pulse_37 rfl ?_
  refine c_putI dX5_pulse_38 (fX5_52 l) gTX5 ⟨rfl, rfl⟩ rfl rfl (by omega) (by omega) ?_
  refine g_iload_n dX5_pulse_41 rfl rfl ?_
  exact g_iret dX5_pulse_42 (Or.inl rfl) ⟨rfl, rfl⟩
set_option maxHeartbeats 1000000 in
theorem cX5_pulse_x (l : Launch) {L : Nat} {S : sT} {M : Nat → Nat → Int} {v : Int} (h1 : ¬ (0 ≤ v ∧ v ≤ 600)) : gMx (gπ l) mX5_pulse yX5_pulse [gR (some 1), gI v] (hS L S M) (hS L S M) := by
  refine gMet_of pnX5 rfl rfl rfl (Nat.le_of_ble_eq_true rfl) (gAr (gAi gAn)) ?_
  show G (gπ l) mX5_pulse 0 [gR (some 1), gI v, gU] [] (hS L S M) 1 6 _
  refine g_iload_n dX5_pulse_0 rfl rfl ?_
  refine g_if_lt (tgt := 11) dX5_pulse_1 (by decide) (fun c1 => ?_) (fun c1 => ?_)
  · exact g_throw (mc := 0) (ms := 0) (names := gNm) (text := "n is not 0 .. 600") dX5_pulse_11 dX5_pulse_14 dX5_pulse_15 dX5_pulse_17 dX5_pulse_20 (wthr l) fthr (List.mem_of_getElem? (i := 0) rfl) rfl ⟨by decide, Nat.le_of_ble_eq_true rfl⟩ ⟨rfl, rfl⟩
  · refine g_iload_n dX5_pulse_4 rfl rfl ?_
    refine g_sipush (x := 600) dX5_pulse_5 (by decide) ?_
    refine g_icmp_le (tgt := 21) dX5_pulse_8 (by decide) (fun c8 => absurd c8 (by omega)) (fun c8 => ?_)
    exact g_throw (mc := 0) (ms := 0) (names := gNm) (text := "n is not 0 .. 600") dX5_pulse_11 dX5_pulse_14 dX5_pulse_15 dX5_pulse_17 dX5_pulse_20 (wthr l) fthr (List.mem_of_getElem? (i := 0) rfl) rfl ⟨by decide, Nat.le_of_ble_eq_true rfl⟩ ⟨rfl, rfl⟩
def oGauge (S : sT) (s : Nat) (a b : Int) : sT × Int := match S.2.1 s 12 with
  | none => (S, 0)
  | some n => if 0 ≤ S.1 n 6 then ((up (up S.1 n 7 a) n 8 b, S.2), 1) else (S, 0)
set_option maxHeartbeats 1000000 in
theorem cX5_gauge (l : Launch) {L : Nat} {S : sT} {M : Nat → Nat → Int} (hw : Wf S) {s : Nat} (hs : s < 2) {a b : Int} (a1 : 0 ≤ a) (a2 : a ≤ 20000) (b1 : 0 ≤ b) (b2 : b ≤ 20000) : gMi (gπ l) mX5_gauge yX5_gauge [gR (some 1), gI (s : Int), gI a, gI b] (hS L S M) ((oGauge S s a b).2) (hS L ((oGauge S s a b).1) M) := by
  refine gMet_of pnX5 rfl rfl rfl (Nat.le_of_ble_eq_true rfl) (gAr (gAi (gAi (gAi gAn)))) ?_
  show G (gπ l) mX5_gauge 0 [gR (some 1), gI (s : Int), gI a, gI b, gU] [] (hS L S M) 0 0 _
  refine g_iload_n dX5_gauge_0 rfl rfl ?_
  refine g_Sv1 dX5_gauge_1 (sX5_gauge_1 l) (Nat.le_of_ble_eq_true rfl) (cX5_checkStation l (by omega) (by omega)) ?_
  refine g_iload_n dX5_gauge_4 rfl rfl ?_
  refine g_if_lt (tgt := 26) dX5_gauge_5 (by decide) (fun c5 => absurd c5 (by omega)) (fun c5 => ?_)
  refine g_iload_n dX5_gauge_8 rfl rfl ?_
  refine g_sipush (x := 20000) dX5_gauge_9 (by decide) ?_
  refine g_icmp_gt (tgt := 26) dX5_gauge_12 (by decide) (fun c12 => absurd c12 (by omega)) (fun c12 => ?_)
  refine g_iload_n dX5_gauge_15 rfl rfl ?_
  refine g_if_lt (tgt := 26) dX5_gauge_16 (by decide) (fun c16 => absurd c16 (by omega)) (fun c16 => ?_)
  refine g_iload_n dX5_gauge_19 rfl rfl ?_
  refine g_sipush (x := 20000) dX5_gauge_20 (by decide) ?_
  refine g_icmp_le (tgt := 36) dX5_gauge_23 (by decide) (fun c23 => ?_) (fun c23 => absurd c23 (by omega))
  refine g_aload_n dX5_gauge_36 rfl rfl ?_
  refine p_getR (o := some 64) dX5_gauge_37 (fX5_18 l) (by decide) rfl (by omega) rfl ?_
  refine g_iload_n dX5_gauge_40 rfl rfl ?_
  refine p_aald (ci := 3) (len := 2) (o := some (70 + 2 * s)) (kc3 l) dX5_gauge_41 rfl (by omega) (by omega) (by omega) (rr_st (by omega)) ?_
  refine p_getR (o := some (71 + 2 * s)) dX5_gauge_42 (fX5_82 l) (by decide) (T0_st (by omega)) (by omega) (rr_zs (by omega)) ?_
  refine g_bipush (x := 12) dX5_gauge_45 (by decide) ?_
  refine p_aald (ci := 0) (len := 13) (o := S.2.1 s 12) (kc0 l) dX5_gauge_47 (T0_zones (by omega)) (by omega) (by omega) (by omega) (rr_zone (by omega)) ?_
  refine e_astore (loc' := [gR (some 1), gI (s : Int), gI a, gI b, gR (S.2.1 s 12)]) dX5_gauge_48 (by decide) rfl ?_
  refine g_aload dX5_gauge_50 rfl ?_
  refine g_ifnull (tgt := 63) dX5_gauge_52 (by decide) (fun c52 => ?_) (fun n52 c52 => ?_)
  · rw [c52]
    refine g_iconst (x := 0) dX5_gauge_63 (by decide) ?_
    exact g_iret dX5_gauge_64 (Or.inr ⟨rfl, Or.inl rfl⟩) ⟨by unfold oGauge; rw [c52], by unfold oGauge; rw [c52]⟩
  · rw [c52]
    obtain ⟨h1, h2⟩ := hw.2.1 s 12 n52 c52
    refine g_aload dX5_gauge_55 rfl ?_
    refine g_Vi0 dX5_gauge_57 (sX5_gauge_57 l) (T0_cab (by omega) (by omega)) (by show n52 < 87; omega) (Nat.le_of_ble_eq_true rfl) (cX0_isClamping l h1 h2) ?_
    refine g_if_ne (tgt := 65) dX5_gauge_60 (by decide) (fun c60 => ?_) (fun c60 => ?_)
    · have c9 : 0 ≤ S.1 n52 6 := by split at c60 <;> omega
      refine g_aload dX5_gauge_65 rfl ?_
      refine g_iload_n dX5_gauge_67 rfl rfl ?_
      refine c_putI dX5_gauge_68 (fX5_92 l) gTX0 ⟨rfl, rfl⟩ rfl (T0_cab (by omega) (by omega)) (by omega) (by omega) ?_
      refine g_aload dX5_gauge_71 rfl ?_
      refine g_iload_n dX5_gauge_73 rfl rfl ?_
      refine c_putI dX5_gauge_74 (fX5_95 l) gTX0 ⟨rfl, rfl⟩ rfl (T0_cab (by omega) (by omega)) (by omega) (by omega) ?_
      refine g_iconst (x := 1) dX5_gauge_77 (by decide) ?_
      exact g_iret dX5_gauge_78 (Or.inr ⟨rfl, Or.inr rfl⟩) ⟨by unfold oGauge; rw [c52]; dsimp only; rw [if_pos c9], by unfold oGauge; rw [c52]; dsimp only; rw [if_pos c9]⟩
    · refine g_iconst (x := 0) dX5_gauge_63 (by decide) ?_
      exact g_iret dX5_gauge_64 (Or.inr ⟨rfl, Or.inl rfl⟩) ⟨by unfold oGauge; rw [c52]; dsimp only; rw [if_neg (by split at c60 <;> omega)], by unfold oGauge; rw [c52]; dsimp only; rw [if_neg (by split at c60 <;> omega)]⟩
set_option maxHeartbeats 1000000 in
theorem cX5_gauge_x1 (l : Launch) {L : Nat} {S : sT} {M : Nat → Nat → Int} {s a b : Int} (hs : ¬ (0 ≤ s ∧ s < 2)) : gMx (gπ l) mX5_gauge yX5_gauge [gR (some 1), gI s, gI a, gI b] (hS L S M) (hS L S M) := by
  refine gMet_of pnX5 rfl rfl rfl (Nat.le_of_ble_eq_true rfl) (gAr (gAi (gAi (gAi gAn)))) ?_
  show G (gπ l) mX5_gauge 0 [gR (some 1), gI s, gI a, gI b, gU] [] (hS L S M) 1 6 _
  refine g_iload_n dX5_gauge_0 rfl rfl ?_
  refine g_Sx1 dX5_gauge_1 (sX5_gauge_1 l) (Nat.le_of_ble_eq_true rfl) (cX5_checkStation_x l hs) ?_
  exact gx_out rfl ⟨rfl, rfl⟩
set_option maxHeartbeats 1000000 in
theorem cX5_gauge_x2 (l : Launch) {L : Nat} {S : sT} {M : Nat → Nat → Int} {s a b : Int} (hs : 0 ≤ s ∧ s < 2) (hab : ¬ (0 ≤ a ∧ a ≤ 20000 ∧ 0 ≤ b ∧ b ≤ 20000)) : gMx (gπ l) mX5_gauge yX5_gauge [gR (some 1), gI s, gI a, gI b] (hS L S M) (hS L S M) := by
  refine gMet_of pnX5 rfl rfl rfl (Nat.le_of_ble_eq_true rfl) (gAr (gAi (gAi (gAi gAn)))) ?_
  show G (gπ l) mX5_gauge 0 [gR (some 1), gI s, gI a, gI b, gU] [] (hS L S M) 1 6 _
  refine g_iload_n dX5_gauge_0 rfl rfl ?_
  refine g_Sv1 dX5_gauge_1 (sX5_gauge_1 l) (Nat.le_of_ble_eq_true rfl) (cX5_checkStation l hs.1 hs.2) ?_
  refine g_iload_n dX5_gauge_4 rfl rfl ?_
  refine g_if_lt (tgt := 26) dX5_gauge_5 (by decide) (fun c5 => ?_) (fun c5 => ?_)
  · exact g_throw (mc := 0) (ms := 0) (names := gNm) (text := "a force is not 0 .. 20,000") dX5_gauge_26 dX5_gauge_29 dX5_gauge_30 dX5_gauge_32 dX5_gauge_35 (wthr l) fthr (List.mem_of_getElem? (i := 3) rfl) rfl ⟨by decide, Nat.le_of_ble_eq_true rfl⟩ ⟨rfl, rfl⟩
  · refine g_iload_n dX5_gauge_8 rfl rfl ?_
    refine g_sipush (x := 20000) dX5_gauge_9 (by decide) ?_
    refine g_icmp_gt (tgt := 26) dX5_gauge_12 (by decide) (fun c12 => ?_) (fun c12 => ?_)
    · exact g_throw (mc := 0) (ms := 0) (names := gNm) (text := "a force is not 0 .. 20,000") dX5_gauge_26 dX5_gauge_29 dX5_gauge_30 dX5_gauge_32 dX5_gauge_35 (wthr l) fthr (List.mem_of_getElem? (i := 3) rfl) rfl ⟨by decide, Nat.le_of_ble_eq_true rfl⟩ ⟨rfl, rfl⟩
    · refine g_iload_n dX5_gauge_15 rfl rfl ?_
      refine g_if_lt (tgt := 26) dX5_gauge_16 (by decide) (fun c16 => ?_) (fun c16 => ?_)
      · exact g_throw (mc := 0) (ms := 0) (names := gNm) (text := "a force is not 0 .. 20,000") dX5_gauge_26 dX5_gauge_29 dX5_gauge_30 dX5_gauge_32 dX5_gauge_35 (wthr l) fthr (List.mem_of_getElem? (i := 3) rfl) rfl ⟨by decide, Nat.le_of_ble_eq_true rfl⟩ ⟨rfl, rfl⟩
      · refine g_iload_n dX5_gauge_19 rfl rfl ?_
        refine g_sipush (x := 20000) dX5_gauge_20 (by decide) ?_
        refine g_icmp_le (tgt := 36) dX5_gauge_23 (by decide) (fun c23 => absurd c23 (by omega)) (fun c23 => ?_)
        exact g_throw (mc := 0) (ms := 0) (names := gNm) (text := "a force is not 0 .. 20,000") dX5_gauge_26 dX5_gauge_29 dX5_gauge_30 dX5_gauge_32 dX5_gauge_35 (wthr l) fthr (List.mem_of_getElem? (i := 3) rfl) rfl ⟨by decide, Nat.le_of_ble_eq_true rfl⟩ ⟨rfl, rfl⟩
set_option maxHeartbeats 1000000 in
theorem cX5_wind_x (l : Launch) {L : Nat} {S : sT} {M : Nat → Nat → Int} {v : Int} (h1 : ¬ (0 ≤ v ∧ v ≤ 1000)) : gMx (gπ l) mX5_wind yX5_wind [gR (some 1), gI v] (hS L S M) (hS L S M) := by
  refine gMet_of pnX5 rfl rfl rfl (Nat.le_of_ble_eq_true rfl) (gAr (gAi gAn)) ?_
  show G (gπ l) mX5_wind 0 [gR (some 1), gI v] [] (hS L S M) 1 6 _
  refine g_iload_n dX5_wind_0 rfl rfl ?_
  refine g_if_lt (tgt := 11) dX5_wind_1 (by decide) (fun c1 => ?_) (fun c1 => ?_)
  · exact g_throw (mc := 0) (ms := 0) (names := gNm) (text := "the wind is not 0 .. 1,000") dX5_wind_11 dX5_wind_14 dX5_wind_15 dX5_wind_17 dX5_wind_20 (wthr l) fthr (List.mem_of_getElem? (i := 4) rfl) rfl ⟨by decide, Nat.le_of_ble_eq_true rfl⟩ ⟨rfl, rfl⟩
  · refine g_iload_n dX5_wind_4 rfl rfl ?_
    refine g_sipush (x := 1000) dX5_wind_5 (by decide) ?_
    refine g_icmp_le (tgt := 21) dX5_wind_8 (by decide) (fun c8 => absurd c8 (by omega)) (fun c8 => ?_)
    exact g_throw (mc := 0) (ms := 0) (names := gNm) (text := "the wind is not 0 .. 1,000") dX5_wind_11 dX5_wind_14 dX5_wind_15 dX5_wind_17 dX5_wind_20 (wthr l) fthr (List.mem_of_getElem? (i := 4) rfl) rfl ⟨by decide, Nat.le_of_ble_eq_true rfl⟩ ⟨rfl, rfl⟩
def oRepA (C : Nat → Nat → Int) (kp : Nat) (v : Int) : Nat → Nat → Int := up (sSort (up (up C 68 kp v) 67 2 ((kp + 1 : Nat) : Int)) (kp + 1)) 67 4 (sSort (up (up C 68 kp v) 67 2 ((kp + 1 : Nat) : Int)) (kp + 1) 69 ((kp + 1) / 2))
def oRepB (C : Nat → Nat → Int) (od : Nat) (v : Int) : Nat → Nat → Int := up (sSort (up (up C 68 od v) 67 3 (((od + 1) % 5 : Nat) : Int)) 5) 67 4 (sSort (up (up C 68 od v) 67 3 (((od + 1) % 5 : Nat) : Int)) 5 69 (5 / 2))
set_option maxHeartbeats 1000000 in
theorem cX5_wind_a (l : Launch) {L : Nat} {S : sT} {M : Nat → Nat → Int} {kp od : Nat} (hk : S.1 67 2 = (kp : Int)) (ho : S.1 67 3 = (od : Int)) {v : Int} (h1 : 0 ≤ v) (h2 : v ≤ 1000) (hk5 : kp < 5) : gMv (gπ l) mX5_wind yX5_wind [gR (some 1), gI v] (hS L S M) (hS L ((oRepA S.1 kp v, S.2)) M) := by
  refine gMet_of pnX5 rfl rfl rfl (Nat.le_of_ble_eq_true rfl) (gAr (gAi gAn)) ?_
  show G (gπ l) mX5_wind 0 [gR (some 1), gI v] [] (hS L S M) 0 0 _
  refine g_iload_n dX5_wind_0 rfl rfl ?_
  refine g_if_lt (tgt := 11) dX5_wind_1 (by decide) (fun c1 => absurd c1 (by omega)) (fun c1 => ?_)
  refine g_iload_n dX5_wind_4 rfl rfl ?_
  refine g_sipush (x := 1000) dX5_wind_5 (by decide) ?_
  refine g_icmp_le (tgt := 21) dX5_wind_8 (by decide) (fun c8 => ?_) (fun c8 => absurd c8 (by omega))
  refine g_aload_n dX5_wind_21 rfl rfl ?_
  refine p_getR (o := some 67) dX5_wind_22 (fX5_32 l) (by decide) rfl (by omega) rfl ?_
  refine g_iload_n dX5_wind_25 rfl rfl ?_
  refine g_Vv1 dX5_wind_26 (sX5_wind_26 l) rfl (by show 67 < 87; omega) (Nat.le_of_ble_eq_true rfl) (cX4_report_a l hk ho hk5) ?_
  exact g_vret dX5_wind_29 rfl ⟨rfl, rfl⟩
set_option maxHeartbeats 1000000 in
theorem cX5_wind_b (l : Launch) {L : Nat} {S : sT} {M : Nat → Nat → Int} {kp od : Nat} (hk : S.1 67 2 = (kp : Int)) (ho : S.1 67 3 = (od : Int)) {v : Int} (h1 : 0 ≤ v) (h2 : v ≤ 1000) (hk5 : kp = 5) (ho5 : od < 5) : gMv (gπ l) mX5_wind yX5_wind [gR (some 1), gI v] (hS L S M) (hS L ((oRepB S.1 od v, S.2)) M) := by
  refine gMet_of pnX5 rfl rfl rfl (Nat.le_of_ble_eq_true rfl) (gAr (gAi gAn)) ?_
  show G (gπ l) mX5_wind 0 [gR (some 1), gI v] [] (hS L S M) 0 0 _
  refine g_iload_n dX5_wind_0 rfl rfl ?_
  refine g_if_lt (tgt := 11) dX5_wind_1 (by decide) (fun c1 => absurd c1 (by omega)) (fun c1 => ?_)
  refine g_iload_n dX5_wind_4 rfl rfl ?_
  refine g_sipush (x := 1000) dX5_wind_5 (by decide) ?_
  refine g_icmp_le (tgt := 21) dX5_wind_8 (by decide) (fun c8 => ?_) (fun c8 => absurd c8 (by omega))
  refine g_aload_n dX5_wind_21 rfl rfl ?_
  refine p_getR (o := some 67) dX5_wind_22 (fX5_32 l) (by decide) rfl (by omega) rfl ?_
  refine g_iload_n dX5_wind_25 rfl rfl ?_
  refine g_Vv1 dX5_wind_26 (sX5_wind_26 l) rfl (by show 67 < 87; omega) (Nat.le_of_ble_eq_true rfl) (cX4_report_b l hk ho hk5 ho5) ?_
  exact g_vret dX5_wind_29 rfl ⟨rfl, rfl⟩
set_option maxHeartbeats 1000000 in
theorem cX5_drive_x (l : Launch) {L : Nat} {S : sT} {M : Nat → Nat → Int} {v : Int} (h1 : ¬ (0 ≤ v ∧ v ≤ 5)) : gMx (gπ l) mX5_drive yX5_drive [gR (some 1), gI v] (hS L S M) (hS L S M) := by
  refine gMet_of pnX5 rfl rfl rfl (Nat.le_of_ble_eq_true rfl) (gAr (gAi gAn)) ?_
  show G (gπ l) mX5_drive 0 [gR (some 1), gI v] [] (hS L S M) 1 6 _
  refine g_iload_n dX5_drive_0 rfl rfl ?_
  refine g_if_lt (tgt := 9) dX5_drive_1 (by decide) (fun c1 => ?_) (fun c1 => ?_)
  · exact g_throw (mc := 0) (ms := 0) (names := gNm) (text := "the step is not 0 .. 5") dX5_drive_9 dX5_drive_12 dX5_drive_13 dX5_drive_15 dX5_drive_18 (wthr l) fthr (List.mem_of_getElem? (i := 5) rfl) rfl ⟨by decide, Nat.le_of_ble_eq_true rfl⟩ ⟨rfl, rfl⟩
  · refine g_iload_n dX5_drive_4 rfl rfl ?_
    refine g_iconst (x := 5) dX5_drive_5 (by decide) ?_
    refine g_icmp_le (tgt := 19) dX5_drive_6 (by decide) (fun c6 => absurd c6 (by omega)) (fun c6 => ?_)
    exact g_throw (mc := 0) (ms := 0) (names := gNm) (text := "the step is not 0 .. 5") dX5_drive_9 dX5_drive_12 dX5_drive_13 dX5_drive_15 dX5_drive_18 (wthr l) fthr (List.mem_of_getElem? (i := 5) rfl) rfl ⟨by decide, Nat.le_of_ble_eq_true rfl⟩ ⟨rfl, rfl⟩
set_option maxHeartbeats 1000000 in
theorem cX5_drive_1 (l : Launch) {L : Nat} {S : sT} {M : Nat → Nat → Int} {v : Int} (h1 : 0 ≤ v) (h2 : v ≤ 5) (hl : S.1 1 4 = 0) : gMi (gπ l) mX5_drive yX5_drive [gR (some 1), gI v] (hS L S M) (1) (hS L ((up S.1 1 6 v, S.2)) M) := by
  refine gMet_of pnX5 rfl rfl rfl (Nat.le_of_ble_eq_true rfl) (gAr (gAi gAn)) ?_
  show G (gπ l) mX5_drive 0 [gR (some 1), gI v] [] (hS L S M) 0 0 _
  refine g_iload_n dX5_drive_0 rfl rfl ?_
  refine g_if_lt (tgt := 9) dX5_drive_1 (by decide) (fun c1 => absurd c1 (by omega)) (fun c1 => ?_)
  refine g_iload_n dX5_drive_4 rfl rfl ?_
  refine g_iconst (x := 5) dX5_drive_5 (by decide) ?_
  refine g_icmp_le (tgt := 19) dX5_drive_6 (by decide) (fun c6 => ?_) (fun c6 => absurd c6 (by omega))
  refine g_aload_n dX5_drive_19 rfl rfl ?_
  refine c_getI (x := S.1 1 4) dX5_drive_20 (fX5_36 l) rfl rfl (by omega) rfl ?_
  refine g_if_eq (tgt := 28) dX5_drive_23 (by decide) (fun c23 => ?_) (fun c23 => absurd c23 (by omega))
  refine g_aload_n dX5_drive_28 rfl rfl ?_
  refine g_iload_n dX5_drive_29 rfl rfl ?_
  refine c_putI dX5_drive_30 (fX5_43 l) gTX5 ⟨rfl, rfl⟩ rfl rfl (by omega) (by omega) ?_
  refine g_iconst (x := 1) dX5_drive_33 (by decide) ?_
  exact g_iret dX5_drive_34 (Or.inr ⟨rfl, Or.inr rfl⟩) ⟨rfl, rfl⟩
set_option maxHeartbeats 1000000 in
theorem cX5_drive_0 (l : Launch) {L : Nat} {S : sT} {M : Nat → Nat → Int} {v : Int} (h1 : 0 ≤ v) (h2 : v ≤ 5) (hl : S.1 1 4 ≠ 0) : gMi (gπ l) mX5_drive yX5_drive [gR (some 1), gI v] (hS L S M) (0) (hS L S M) := by
  refine gMet_of pnX5 rfl rfl rfl (Nat.le_of_ble_eq_true rfl) (gAr (gAi gAn)) ?_
  show G (gπ l) mX5_drive 0 [gR (some 1), gI v] [] (hS L S M) 0 0 _
  refine g_iload_n dX5_drive_0 rfl rfl ?_
  refine g_if_lt (tgt := 9) dX5_drive_1 (by decide) (fun c1 => absurd c1 (by omega)) (fun c1 => ?_)
  refine g_iload_n dX5_drive_4 rfl rfl ?_
  refine g_iconst (x := 5) dX5_drive_5 (by decide) ?_
  refine g_icmp_le (tgt := 19) dX5_drive_6 (by decide) (fun c6 => ?_) (fun c6 => absurd c6 (by omega))
  refine g_aload_n dX5_drive_19 rfl rfl ?_
  refine c_getI (x := S.1 1 4) dX5_drive_20 (fX5_36 l) rfl rfl (by omega) rfl ?_
  refine g_if_eq (tgt := 28) dX5_drive_23 (by decide) (fun c23 => absurd c23 (by omega)) (fun c23 => ?_)
  refine g_iconst (x := 0) dX5_drive_26 (by decide) ?_
  exact g_iret dX5_drive_27 (Or.inr ⟨rfl, Or.inl rfl⟩) ⟨rfl, rfl⟩
set_option maxHeartbeats 1000000 in
theorem cX5_bring_x (l : Launch) {L : Nat} {S : sT} {M : Nat → Nat → Int} {c : Int} (h1 : ¬ (0 ≤ c ∧ c < 60)) : gMx (gπ l) mX5_bring yX5_bring [gR (some 1), gI c] (hS L S M) (hS L S M) := by
  refine gMet_of pnX5 rfl rfl rfl (Nat.le_of_ble_eq_true rfl) (gAr (gAi gAn)) ?_
  show G (gπ l) mX5_bring 0 [gR (some 1), gI c, gU] [] (hS L S M) 1 6 _
  refine g_iload_n dX5_bring_0 rfl rfl ?_
  refine g_Sx1 dX5_bring_1 (sX5_bring_1 l) (Nat.le_of_ble_eq_true rfl) (cX5_checkCabin_x l h1) ?_
  exact gx_out rfl ⟨rfl, rfl⟩
set_option maxHeartbeats 1000000 in
theorem cX5_bring_1 (l : Launch) {L : Nat} {S : sT} {M : Nat → Nat → Int} (hw : Wf S) {c : Nat} (hc : c < 60) (hp : S.1 (4 + c) 1 = 0) (hr : S.1 65 1 < 20) : gMi (gπ l) mX5_bring yX5_bring [gR (some 1), gI (c : Int)] (hS L S M) (1) (hS L (oAppend S (4 + c)) M) := by
  refine gMet_of pnX5 rfl rfl rfl (Nat.le_of_ble_eq_true rfl) (gAr (gAi gAn)) ?_
  show G (gπ l) mX5_bring 0 [gR (some 1), gI (c : Int), gU] [] (hS L S M) 0 0 _
  refine g_iload_n dX5_bring_0 rfl rfl ?_
  refine g_Sv1 dX5_bring_1 (sX5_bring_1 l) (Nat.le_of_ble_eq_true rfl) (cX5_checkCabin l (by omega) (by omega)) ?_
  refine g_aload_n dX5_bring_4 rfl rfl ?_
  refine p_getR (o := some 2) dX5_bring_5 (fX5_10 l) (by decide) rfl (by omega) rfl ?_
  refine p_getR (o := some 3) dX5_bring_8 (fX5_108 l) (by decide) rfl (by omega) rfl ?_
  refine g_iload_n dX5_bring_11 rfl rfl ?_
  refine p_aald (ci := 0) (len := 60) (o := some (4 + c)) (kc0 l) dX5_bring_12 rfl (by omega) (by omega) (by omega) (rr_cab (by omega)) ?_
  refine e_astore_n (loc' := [gR (some 1), gI (c : Int), gR (some (4 + c))]) dX5_bring_13 rfl (by decide) rfl ?_
  refine g_aload_n dX5_bring_14 rfl rfl ?_
  refine c_getI (x := S.1 (4 + c) 1) dX5_bring_15 (fX5_111 l) rfl (T0_cab (by omega) (by omega)) (by omega) rfl ?_
  refine g_if_ne (tgt := 31) dX5_bring_18 (by decide) (fun c18 => absurd c18 (by omega)) (fun c18 => ?_)
  refine g_aload_n dX5_bring_21 rfl rfl ?_
  refine p_getR (o := some 65) dX5_bring_22 (fX5_25 l) (by decide) rfl (by omega) rfl ?_
  refine g_Vi0 dX5_bring_25 (sX5_bring_25 l) rfl (by show 65 < 87; omega) (Nat.le_of_ble_eq_true rfl) (gMi_to 1 (cX2_hasRoom l) (by rw [if_pos hr])) ?_
  refine g_if_ne (tgt := 33) dX5_bring_28 (by decide) (fun c28 => ?_) (fun c28 => absurd c28 (by omega))
  refine g_aload_n dX5_bring_33 rfl rfl ?_
  refine p_getR (o := some 65) dX5_bring_34 (fX5_25 l) (by decide) rfl (by omega) rfl ?_
  refine g_aload_n dX5_bring_37 rfl rfl ?_
  refine g_Vv1 dX5_bring_38 (sX5_bring_38 l) rfl (by show 65 < 87; omega) (Nat.le_of_ble_eq_true rfl) (cX2_append2 l (by omega) (by omega) hw.2.2.2.1.1 hr) ?_
  refine g_iconst (x := 1) dX5_bring_41 (by decide) ?_
  exact g_iret dX5_bring_42 (Or.inr ⟨rfl, Or.inr rfl⟩) ⟨rfl, rfl⟩
set_option maxHeartbeats 1000000 in
theorem cX5_bring_0 (l : Launch) {L : Nat} {S : sT} {M : Nat → Nat → Int} {c : Nat} (hc : c < 60) (hp : ¬ (S.1 (4 + c) 1 = 0 ∧ S.1 65 1 < 20)) : gMi (gπ l) mX5_bring yX5_bring [gR (some 1), gI (c : Int)] (hS L S M) (0) (hS L S M) := by
  refine gMet_of pnX5 rfl rfl rfl (Nat.le_of_ble_eq_true rfl) (gAr (gAi gAn)) ?_
  show G (gπ l) mX5_bring 0 [gR (some 1), gI (c : Int), gU] [] (hS L S M) 0 0 _
  refine g_iload_n dX5_bring_0 rfl rfl ?_
  refine g_Sv1 dX5_bring_1 (sX5_bring_1 l) (Nat.le_of_ble_eq_true rfl) (cX5_checkCabin l (by omega) (by omega)) ?_
  refine g_aload_n dX5_bring_4 rfl rfl ?_
  refine p_getR (o := some 2) dX5_bring_5 (fX5_10 l) (by decide) rfl (by omega) rfl ?_
  refine p_getR (o := some 3) dX5_bring_8 (fX5_108 l) (by decide) rfl (by omega) rfl ?_
  refine g_iload_n dX5_bring_11 rfl rfl ?_
  refine p_aald (ci := 0) (len := 60) (o := some (4 + c)) (kc0 l) dX5_bring_12 rfl (by omega) (by omega) (by omega) (rr_cab (by omega)) ?_
  refine e_astore_n (loc' := [gR (some 1), gI (c : Int), gR (some (4 + c))]) dX5_bring_13 rfl (by decide) rfl ?_
  refine g_aload_n dX5_bring_14 rfl rfl ?_
  refine c_getI (x := S.1 (4 + c) 1) dX5_bring_15 (fX5_111 l) rfl (T0_cab (by omega) (by omega)) (by omega) rfl ?_
  refine g_if_ne (tgt := 31) dX5_bring_18 (by decide) (fun c18 => ?_) (fun c18 => ?_)
  · refine g_iconst (x := 0) dX5_bring_31 (by decide) ?_
    exact g_iret dX5_bring_32 (Or.inr ⟨rfl, Or.inl rfl⟩) ⟨rfl, rfl⟩
  · refine g_aload_n dX5_bring_21 rfl rfl ?_
    refine p_getR (o := some 65) dX5_bring_22 (fX5_25 l) (by decide) rfl (by omega) rfl ?_
    refine g_Vi0 dX5_bring_25 (sX5_bring_25 l) rfl (by show 65 < 87; omega) (Nat.le_of_ble_eq_true rfl) (gMi_to 0 (cX2_hasRoom l) (by rw [if_neg (by omega)])) ?_
    refine g_if_ne (tgt := 33) dX5_bring_28 (by decide) (fun c28 => absurd c28 (by omega)) (fun c28 => ?_)
    refine g_iconst (x := 0) dX5_bring_31 (by decide) ?_
    exact g_iret dX5_bring_32 (Or.inr ⟨rfl, Or.inl rfl⟩) ⟨rfl, rfl⟩
set_option maxHeartbeats 1000000 in
theorem cX5_putOn_x1 (l : Launch) {L : Nat} {S : sT} {M : Nat → Nat → Int} {s c : Int} (hs : ¬ (0 ≤ s ∧ s < 2)) : gMx (gπ l) mX5_putOn yX5_putOn [gR (some 1), gI s, gI c] (hS L S M) (hS L S M) := by
  refine gMet_of pnX5 rfl rfl rfl (Nat.le_of_ble_eq_true rfl) (gAr (gAi (gAi gAn))) ?_
  show G (gπ l) mX5_putOn 0 [gR (some 1), gI s, gI c, gU, gU] [] (hS L S M) 1 6 _
  refine g_iload_n dX5_putOn_0 rfl rfl ?_
  refine g_Sx1 dX5_putOn_1 (sX5_putOn_1 l) (Nat.le_of_ble_eq_true rfl) (cX5_checkStation_x l hs) ?_
  exact gx_out rfl ⟨rfl, rfl⟩
set_option maxHeartbeats 1000000 in
theorem cX5_putOn_x2 (l : Launch) {L : Nat} {S : sT} {M : Nat → Nat → Int} {s c : Int} (hs : 0 ≤ s ∧ s < 2) (hc : ¬ (0 ≤ c ∧ c < 60)) : gMx (gπ l) mX5_putOn yX5_putOn [gR (some 1), gI s, gI c] (hS L S M) (hS L S M) := by
  refine gMet_of pnX5 rfl rfl rfl (Nat.le_of_ble_eq_true rfl) (gAr (gAi (gAi gAn))) ?_
  show G (gπ l) mX5_putOn 0 [gR (some 1), gI s, gI c, gU, gU] [] (hS L S M) 1 6 _
  refine g_iload_n dX5_putOn_0 rfl rfl ?_
  refine g_Sv1 dX5_putOn_1 (sX5_putOn_1 l) (Nat.le_of_ble_eq_true rfl) (cX5_checkStation l hs.1 hs.2) ?_
  refine g_iload_n dX5_putOn_4 rfl rfl ?_
  refine g_Sx1 dX5_putOn_5 (sX5_putOn_5 l) (Nat.le_of_ble_eq_true rfl) (cX5_checkCabin_x l hc) ?_
  exact gx_out rfl ⟨rfl, rfl⟩
set_option maxHeartbeats 1000000 in
theorem cX5_putOn_0 (l : Launch) {L : Nat} {S : sT} {M : Nat → Nat → Int} {s c : Nat} (hs : s < 2) (hc : c < 60) (hn : ¬ (S.1 (4 + c) 1 = 1 ∧ anyTo (fun j => decide (S.2.1 s (j + 1) ≠ none)) 5 = false ∧ cntTo (fun j => decide (S.1 (4 + j) 1 = 2)) 60 + cntTo (fun j => decide (S.1 (4 + j) 1 = 3)) 60 < S.1 1 5)) : gMi (gπ l) mX5_putOn yX5_putOn [gR (some 1), gI (s : Int), gI (c : Int)] (hS L S M) (0) (hS L S M) := by
  refine gMet_of pnX5 rfl rfl rfl (Nat.le_of_ble_eq_true rfl) (gAr (gAi (gAi gAn))) ?_
  show G (gπ l) mX5_putOn 0 [gR (some 1), gI (s : Int), gI (c : Int), gU, gU] [] (hS L S M) 0 0 _
  refine g_iload_n dX5_putOn_0 rfl rfl ?_
  refine g_Sv1 dX5_putOn_1 (sX5_putOn_1 l) (Nat.le_of_ble_eq_true rfl) (cX5_checkStation l (by omega) (by omega)) ?_
  refine g_iload_n dX5_putOn_4 rfl rfl ?_
  refine g_Sv1 dX5_putOn_5 (sX5_putOn_5 l) (Nat.le_of_ble_eq_true rfl) (cX5_checkCabin l (by omega) (by omega)) ?_
  refine g_aload_n dX5_putOn_8 rfl rfl ?_
  refine p_getR (o := some 2) dX5_putOn_9 (fX5_10 l) (by decide) rfl (by omega) rfl ?_
  refine p_getR (o := some 3) dX5_putOn_12 (fX5_108 l) (by decide) rfl (by omega) rfl ?_
  refine g_iload_n dX5_putOn_15 rfl rfl ?_
  refine p_aald (ci := 0) (len := 60) (o := some (4 + c)) (kc0 l) dX5_putOn_16 rfl (by omega) (by omega) (by omega) (rr_cab (by omega)) ?_
  refine e_astore_n (loc' := [gR (some 1), gI (s : Int), gI (c : Int), gR (some (4 + c)), gU]) dX5_putOn_17 rfl (by decide) rfl ?_
  refine g_aload_n dX5_putOn_18 rfl rfl ?_
  refine p_getR (o := some 64) dX5_putOn_19 (fX5_18 l) (by decide) rfl (by omega) rfl ?_
  refine g_iload_n dX5_putOn_22 rfl rfl ?_
  refine p_aald (ci := 3) (len := 2) (o := some (70 + 2 * s)) (kc3 l) dX5_putOn_23 rfl (by omega) (by omega) (by omega) (rr_st (by omega)) ?_
  refine e_astore (loc' := [gR (some 1), gI (s : Int), gI (c : Int), gR (some (4 + c)), gR (some (70 + 2 * s))]) dX5_putOn_24 (by decide) rfl ?_
  refine g_aload_n dX5_putOn_26 rfl rfl ?_
  refine c_getI (x := S.1 (4 + c) 1) dX5_putOn_27 (fX5_111 l) rfl (T0_cab (by omega) (by omega)) (by omega) rfl ?_
  refine g_iconst (x := 1) dX5_putOn_30 (by decide) ?_
  refine g_icmp_ne (tgt := 43) dX5_putOn_31 (by decide) (fun c31 => ?_) (fun c31 => ?_)
  · refine g_iconst (x := 0) dX5_putOn_43 (by decide) ?_
    exact g_iret dX5_putOn_44 (Or.inr ⟨rfl, Or.inl rfl⟩) ⟨rfl, rfl⟩
  · refine g_aload dX5_putOn_34 rfl ?_
    refine g_iconst (x := 5) dX5_putOn_36 (by decide) ?_
    refine g_Vi1 dX5_putOn_37 (sX5_putOn_37 l) (T0_st (by omega)) (by show 70 + 2 * s < 87; omega) (Nat.le_of_ble_eq_true rfl) (cX3_isEmptyUpTo l hs) ?_
    refine g_if_ne (tgt := 45) dX5_putOn_40 (by decide) (fun c40 => ?_) (fun c40 => ?_)
    · refine g_aload_n dX5_putOn_45 rfl rfl ?_
      refine p_getR (o := some 2) dX5_putOn_46 (fX5_10 l) (by decide) rfl (by omega) rfl ?_
      refine g_iconst (x := 2) dX5_putOn_49 (by decide) ?_
      refine g_Vi1 dX5_putOn_50 (sX5_putOn_50 l) rfl (by show 2 < 87; omega) (Nat.le_of_ble_eq_true rfl) (cX1_countAt l) ?_
      refine g_aload_n dX5_putOn_53 rfl rfl ?_
      refine p_getR (o := some 2) dX5_putOn_54 (fX5_10 l) (by decide) rfl (by omega) rfl ?_
      refine g_iconst (x := 3) dX5_putOn_57 (by decide) ?_
      refine g_Vi1 dX5_putOn_58 (sX5_putOn_58 l) rfl (by show 2 < 87; omega) (Nat.le_of_ble_eq_true rfl) (cX1_countAt l) ?_
      refine e_iadd (v := cntTo (fun j => decide (S.1 (4 + j) 1 = 2)) 60 + cntTo (fun j => decide (S.1 (4 + j) 1 = 3)) 60) dX5_putOn_61 (gadd_eq (by have := cntTo_nn (p := (fun j => decide (S.1 (4 + j) 1 = 2))) 60; have := cntTo_nn (p := (fun j => decide (S.1 (4 + j) 1 = 3))) 60; omega) (by have := cntTo_nn (p := (fun j => decide (S.1 (4 + j) 1 = 2))) 60; have := cntTo_nn (p := (fun j => decide (S.1 (4 + j) 1 = 3))) 60; omega)) ?_
      refine g_aload_n dX5_putOn_62 rfl rfl ?_
      refine c_getI (x := S.1 1 5) dX5_putOn_63 (fX5_40 l) rfl rfl (by omega) rfl ?_
      refine g_icmp_lt (tgt := 71) dX5_putOn_66 (by decide) (fun c66 => ?_) (fun c66 => ?_)
      · exact absurd ⟨c31, (by split at c40; omega; rename_i q; exact Bool.eq_false_iff.mpr q), c66⟩ hn
      · refine g_iconst (x := 0) dX5_putOn_69 (by decide) ?_
        exact g_iret dX5_putOn_70 (Or.inr ⟨rfl, Or.inl rfl⟩) ⟨rfl, rfl⟩
    · refine g_iconst (x := 0) dX5_putOn_43 (by decide) ?_
      exact g_iret dX5_putOn_44 (Or.inr ⟨rfl, Or.inl rfl⟩) ⟨rfl, rfl⟩
def oPut (S : sT) (s n p sz : Nat) : sT := (sAdm (up S.1 65 1 ((sz - 1 : Nat) : Int)) n s 5, up S.2.1 s 5 (some n), up1 (sRem S.2.2 p sz) (sz - 1) none)
set_option maxHeartbeats 1000000 in
theorem cX5_putOn_1 (l : Launch) {L : Nat} {S : sT} {M : Nat → Nat → Int} (hw : Wf S) {s c : Nat} (hs : s < 2) (hc : c < 60) (g1 : S.1 (4 + c) 1 = 1) (g2 : anyTo (fun j => decide (S.2.1 s (j + 1) ≠ none)) 5 = false) (g3 : cntTo (fun j => decide (S.1 (4 + j) 1 = 2)) 60 + cntTo (fun j => decide (S.1 (4 + j) 1 = 3)) 60 < S.1 1 5) {p sz : Nat} (hsz : S.1 65 1 = (sz : Int)) (h20 : sz ≤ 20) (hp : p < sz) (hR : S.2.2 p = some (4 + c)) (hno : ∀ j, j < p → S.2.2 j ≠ some (4 + c)) : gMi (gπ l) mX5_putOn yX5_putOn [gR (some 1), gI (s : Int), gI (c : Int)] (hS L S M) (1) (hS L (oPut S s (4 + c) p sz) M) := by
  refine gMet_of pnX5 rfl rfl rfl (Nat.le_of_ble_eq_true rfl) (gAr (gAi (gAi gAn))) ?_
  show G (gπ l) mX5_putOn 0 [gR (some 1), gI (s : Int), gI (c : Int), gU, gU] [] (hS L S M) 0 0 _
  refine g_iload_n dX5_putOn_0 rfl rfl ?_
  refine g_Sv1 dX5_putOn_1 (sX5_putOn_1 l) (Nat.le_of_ble_eq_true rfl) (cX5_checkStation l (by omega) (by omega)) ?_
  refine g_iload_n dX5_putOn_4 rfl rfl ?_
  refine g_Sv1 dX5_putOn_5 (sX5_putOn_5 l) (Nat.le_of_ble_eq_true rfl) (cX5_checkCabin l (by omega) (by omega)) ?_
  refine g_aload_n dX5_putOn_8 rfl rfl ?_
  refine p_getR (o := some 2) dX5_putOn_9 (fX5_10 l) (by decide) rfl (by omega) rfl ?_
  refine p_getR (o := some 3) dX5_putOn_12 (fX5_108 l) (by decide) rfl (by omega) rfl ?_
  refine g_iload_n dX5_putOn_15 rfl rfl ?_
  refine p_aald (ci := 0) (len := 60) (o := some (4 + c)) (kc0 l) dX5_putOn_16 rfl (by omega) (by omega) (by omega) (rr_cab (by omega)) ?_
  refine e_astore_n (loc' := [gR (some 1), gI (s : Int), gI (c : Int), gR (some (4 + c)), gU]) dX5_putOn_17 rfl (by decide) rfl ?_
  refine g_aload_n dX5_putOn_18 rfl rfl ?_
  refine p_getR (o := some 64) dX5_putOn_19 (fX5_18 l) (by decide) rfl (by omega) rfl ?_
  refine g_iload_n dX5_putOn_22 rfl rfl ?_
  refine p_aald (ci := 3) (len := 2) (o := some (70 + 2 * s)) (kc3 l) dX5_putOn_23 rfl (by omega) (by omega) (by omega) (rr_st (by omega)) ?_
  refine e_astore (loc' := [gR (some 1), gI (s : Int), gI (c : Int), gR (some (4 + c)), gR (some (70 + 2 * s))]) dX5_putOn_24 (by decide) rfl ?_
  refine g_aload_n dX5_putOn_26 rfl rfl ?_
  refine c_getI (x := S.1 (4 + c) 1) dX5_putOn_27 (fX5_111 l) rfl (T0_cab (by omega) (by omega)) (by omega) rfl ?_
  refine g_iconst (x := 1) dX5_putOn_30 (by decide) ?_
  refine g_icmp_ne (tgt := 43) dX5_putOn_31 (by decide) (fun c31 => absurd c31 (by omega)) (fun c31 => ?_)
  refine g_aload dX5_putOn_34 rfl ?_
  refine g_iconst (x := 5) dX5_putOn_36 (by decide) ?_
  refine g_Vi1 dX5_putOn_37 (sX5_putOn_37 l) (T0_st (by omega)) (by show 70 + 2 * s < 87; omega) (Nat.le_of_ble_eq_true rfl) (gMi_to 1 (cX3_isEmptyUpTo l hs) (by rw [g2]; rfl)) ?_
  refine g_if_ne (tgt := 45) dX5_putOn_40 (by decide) (fun c40 => ?_) (fun c40 => absurd c40 (by omega))
  refine g_aload_n dX5_putOn_45 rfl rfl ?_
  refine p_getR (o := some 2) dX5_putOn_46 (fX5_10 l) (by decide) rfl (by omega) rfl ?_
  refine g_iconst (x := 2) dX5_putOn_49 (by decide) ?_
  refine g_Vi1 dX5_putOn_50 (sX5_putOn_50 l) rfl (by show 2 < 87; omega) (Nat.le_of_ble_eq_true rfl) (cX1_countAt l) ?_
  refine g_aload_n dX5_putOn_53 rfl rfl ?_
  refine p_getR (o := some 2) dX5_putOn_54 (fX5_10 l) (by decide) rfl (by omega) rfl ?_
  refine g_iconst (x := 3) dX5_putOn_57 (by decide) ?_
  refine g_Vi1 dX5_putOn_58 (sX5_putOn_58 l) rfl (by show 2 < 87; omega) (Nat.le_of_ble_eq_true rfl) (cX1_countAt l) ?_
  refine e_iadd (v := cntTo (fun j => decide (S.1 (4 + j) 1 = 2)) 60 + cntTo (fun j => decide (S.1 (4 + j) 1 = 3)) 60) dX5_putOn_61 (gadd_eq (by have := cntTo_nn (p := (fun j => decide (S.1 (4 + j) 1 = 2))) 60; have := cntTo_nn (p := (fun j => decide (S.1 (4 + j) 1 = 3))) 60; omega) (by have := cntTo_nn (p := (fun j => decide (S.1 (4 + j) 1 = 2))) 60; have := cntTo_nn (p := (fun j => decide (S.1 (4 + j) 1 = 3))) 60; omega)) ?_
  refine g_aload_n dX5_putOn_62 rfl rfl ?_
  refine c_getI (x := S.1 1 5) dX5_putOn_63 (fX5_40 l) rfl rfl (by omega) rfl ?_
  refine g_icmp_lt (tgt := 71) dX5_putOn_66 (by decide) (fun c66 => ?_) (fun c66 => absurd c66 (by omega))
  refine g_aload_n dX5_putOn_71 rfl rfl ?_
  refine p_getR (o := some 65) dX5_putOn_72 (fX5_25 l) (by decide) rfl (by omega) rfl ?_
  refine g_aload_n dX5_putOn_75 rfl rfl ?_
  refine g_Vv1 dX5_putOn_76 (sX5_putOn_76 l) rfl (by show 65 < 87; omega) (Nat.le_of_ble_eq_true rfl) (cX2_remove l hsz h20 hp hR hno hw.2.2.1) ?_
  refine g_aload dX5_putOn_79 rfl ?_
  refine g_aload_n dX5_putOn_81 rfl rfl ?_
  refine g_iconst (x := 5) dX5_putOn_82 (by decide) ?_
  refine g_Vv2 dX5_putOn_83 (sX5_putOn_83 l) (T0_st (by omega)) (by show 70 + 2 * s < 87; omega) (Nat.le_of_ble_eq_true rfl) (cX3_adm l (z := 5) hs (by rw [up_cell (by omega)]; exact hw.1 s hs) (by omega) (by omega) (by omega)) ?_
  refine g_iconst (x := 1) dX5_putOn_86 (by decide) ?_
  exact g_iret dX5_putOn_87 (Or.inr ⟨rfl, Or.inr rfl⟩) ⟨rfl, rfl⟩
set_option maxHeartbeats 1000000 in
theorem cX5_takeOff_x1 (l : Launch) {L : Nat} {S : sT} {M : Nat → Nat → Int} {s c : Int} (hs : ¬ (0 ≤ s ∧ s < 2)) : gMx (gπ l) mX5_takeOff yX5_takeOff [gR (some 1), gI s, gI c] (hS L S M) (hS L S M) := by
  refine gMet_of pnX5 rfl rfl rfl (Nat.le_of_ble_eq_true rfl) (gAr (gAi (gAi gAn))) ?_
  show G (gπ l) mX5_takeOff 0 [gR (some 1), gI s, gI c, gU] [] (hS L S M) 1 6 _
  refine g_iload_n dX5_takeOff_0 rfl rfl ?_
  refine g_Sx1 dX5_takeOff_1 (sX5_takeOff_1 l) (Nat.le_of_ble_eq_true rfl) (cX5_checkStation_x l hs) ?_
  exact gx_out rfl ⟨rfl, rfl⟩
set_option maxHeartbeats 1000000 in
theorem cX5_takeOff_x2 (l : Launch) {L : Nat} {S : sT} {M : Nat → Nat → Int} {s c : Int} (hs : 0 ≤ s ∧ s < 2) (hc : ¬ (0 ≤ c ∧ c < 60)) : gMx (gπ l) mX5_takeOff yX5_takeOff [gR (some 1), gI s, gI c] (hS L S M) (hS L S M) := by
  refine gMet_of pnX5 rfl rfl rfl (Nat.le_of_ble_eq_true rfl) (gAr (gAi (gAi gAn))) ?_
  show G (gπ l) mX5_takeOff 0 [gR (some 1), gI s, gI c, gU] [] (hS L S M) 1 6 _
  refine g_iload_n dX5_takeOff_0 rfl rfl ?_
  refine g_Sv1 dX5_takeOff_1 (sX5_takeOff_1 l) (Nat.le_of_ble_eq_true rfl) (cX5_checkStation l hs.1 hs.2) ?_
  refine g_iload_n dX5_takeOff_4 rfl rfl ?_
  refine g_Sx1 dX5_takeOff_5 (sX5_takeOff_5 l) (Nat.le_of_ble_eq_true rfl) (cX5_checkCabin_x l hc) ?_
  exact gx_out rfl ⟨rfl, rfl⟩
set_option maxHeartbeats 1000000 in
theorem cX5_takeOff_0 (l : Launch) {L : Nat} {S : sT} {M : Nat → Nat → Int} {s c : Nat} (hs : s < 2) (hc : c < 60) (hn : ¬ (S.1 (4 + c) 1 = 2 ∧ S.1 (4 + c) 2 = (s : Int) ∧ 5 ≤ S.1 (4 + c) 3 ∧ S.1 (4 + c) 3 ≤ 8 ∧ S.1 65 1 < 20)) : gMi (gπ l) mX5_takeOff yX5_takeOff [gR (some 1), gI (s : Int), gI (c : Int)] (hS L S M) (0) (hS L S M) := by
  refine gMet_of pnX5 rfl rfl rfl (Nat.le_of_ble_eq_true rfl) (gAr (gAi (gAi gAn))) ?_
  show G (gπ l) mX5_takeOff 0 [gR (some 1), gI (s : Int), gI (c : Int), gU] [] (hS L S M) 0 0 _
  refine g_iload_n dX5_takeOff_0 rfl rfl ?_
  refine g_Sv1 dX5_takeOff_1 (sX5_takeOff_1 l) (Nat.le_of_ble_eq_true rfl) (cX5_checkStation l (by omega) (by omega)) ?_
  refine g_iload_n dX5_takeOff_4 rfl rfl ?_
  refine g_Sv1 dX5_takeOff_5 (sX5_takeOff_5 l) (Nat.le_of_ble_eq_true rfl) (cX5_checkCabin l (by omega) (by omega)) ?_
  refine g_aload_n dX5_takeOff_8 rfl rfl ?_
  refine p_getR (o := some 2) dX5_takeOff_9 (fX5_10 l) (by decide) rfl (by omega) rfl ?_
  refine p_getR (o := some 3) dX5_takeOff_12 (fX5_108 l) (by decide) rfl (by omega) rfl ?_
  refine g_iload_n dX5_takeOff_15 rfl rfl ?_
  refine p_aald (ci := 0) (len := 60) (o := some (4 + c)) (kc0 l) dX5_takeOff_16 rfl (by omega) (by omega) (by omega) (rr_cab (by omega)) ?_
  refine e_astore_n (loc' := [gR (some 1), gI (s : Int), gI (c : Int), gR (some (4 + c))]) dX5_takeOff_17 rfl (by decide) rfl ?_
  refine g_aload_n dX5_takeOff_18 rfl rfl ?_
  refine c_getI (x := S.1 (4 + c) 1) dX5_takeOff_19 (fX5_111 l) rfl (T0_cab (by omega) (by omega)) (by omega) rfl ?_
  refine g_iconst (x := 2) dX5_takeOff_22 (by decide) ?_
  refine g_icmp_ne (tgt := 34) dX5_takeOff_23 (by decide) (fun c23 => ?_) (fun c23 => ?_)
  · refine g_iconst (x := 0) dX5_takeOff_34 (by decide) ?_
    exact g_iret dX5_takeOff_35 (Or.inr ⟨rfl, Or.inl rfl⟩) ⟨rfl, rfl⟩
  · refine g_aload_n dX5_takeOff_26 rfl rfl ?_
    refine c_getI (x := S.1 (4 + c) 2) dX5_takeOff_27 (fX5_135 l) rfl (T0_cab (by omega) (by omega)) (by omega) rfl ?_
    refine g_iload_n dX5_takeOff_30 rfl rfl ?_
    refine g_icmp_eq (tgt := 36) dX5_takeOff_31 (by decide) (fun c31 => ?_) (fun c31 => ?_)
    · refine g_aload_n dX5_takeOff_36 rfl rfl ?_
      refine c_getI (x := S.1 (4 + c) 3) dX5_takeOff_37 (fX5_138 l) rfl (T0_cab (by omega) (by omega)) (by omega) rfl ?_
      refine g_iconst (x := 5) dX5_takeOff_40 (by decide) ?_
      refine g_icmp_lt (tgt := 63) dX5_takeOff_41 (by decide) (fun c41 => ?_) (fun c41 => ?_)
      · refine g_iconst (x := 0) dX5_takeOff_63 (by decide) ?_
        exact g_iret dX5_takeOff_64 (Or.inr ⟨rfl, Or.inl rfl⟩) ⟨rfl, rfl⟩
      · refine g_aload_n dX5_takeOff_44 rfl rfl ?_
        refine c_getI (x := S.1 (4 + c) 3) dX5_takeOff_45 (fX5_138 l) rfl (T0_cab (by omega) (by omega)) (by omega) rfl ?_
        refine g_bipush (x := 8) dX5_takeOff_48 (by decide) ?_
        refine g_icmp_gt (tgt := 63) dX5_takeOff_50 (by decide) (fun c50 => ?_) (fun c50 => ?_)
        · refine g_iconst (x := 0) dX5_takeOff_63 (by decide) ?_
          exact g_iret dX5_takeOff_64 (Or.inr ⟨rfl, Or.inl rfl⟩) ⟨rfl, rfl⟩
        · refine g_aload_n dX5_takeOff_53 rfl rfl ?_
          refine p_getR (o := some 65) dX5_takeOff_54 (fX5_25 l) (by decide) rfl (by omega) rfl ?_
          refine g_Vi0 dX5_takeOff_57 (sX5_takeOff_57 l) rfl (by show 65 < 87; omega) (Nat.le_of_ble_eq_true rfl) (cX2_hasRoom l) ?_
          refine g_if_ne (tgt := 65) dX5_takeOff_60 (by decide) (fun c60 => ?_) (fun c60 => ?_)
          · exact absurd ⟨c23, c31, c41, c50, by split at c60 <;> omega⟩ hn
          · refine g_iconst (x := 0) dX5_takeOff_63 (by decide) ?_
            exact g_iret dX5_takeOff_64 (Or.inr ⟨rfl, Or.inl rfl⟩) ⟨rfl, rfl⟩
    · refine g_iconst (x := 0) dX5_takeOff_34 (by decide) ?_
      exact g_iret dX5_takeOff_35 (Or.inr ⟨rfl, Or.inl rfl⟩) ⟨rfl, rfl⟩
set_option maxHeartbeats 1000000 in
theorem cX5_takeOff_1 (l : Launch) {L : Nat} {S : sT} {M : Nat → Nat → Int} (hw : Wf S) {s c z : Nat} (hs : s < 2) (hc : c < 60) (g1 : S.1 (4 + c) 1 = 2) (g2 : S.1 (4 + c) 2 = (s : Int)) (g3 : S.1 (4 + c) 3 = (z : Int)) (g4 : 5 ≤ z) (g5 : z ≤ 8) (g6 : S.1 65 1 < 20) : gMi (gπ l) mX5_takeOff yX5_takeOff [gR (some 1), gI (s : Int), gI (c : Int)] (hS L S M) (1) (hS L (oAppend (S.1, up S.2.1 s z none, S.2.2) (4 + c)) M) := by
  refine gMet_of pnX5 rfl rfl rfl (Nat.le_of_ble_eq_true rfl) (gAr (gAi (gAi gAn))) ?_
  show G (gπ l) mX5_takeOff 0 [gR (some 1), gI (s : Int), gI (c : Int), gU] [] (hS L S M) 0 0 _
  refine g_iload_n dX5_takeOff_0 rfl rfl ?_
  refine g_Sv1 dX5_takeOff_1 (sX5_takeOff_1 l) (Nat.le_of_ble_eq_true rfl) (cX5_checkStation l (by omega) (by omega)) ?_
  refine g_iload_n dX5_takeOff_4 rfl rfl ?_
  refine g_Sv1 dX5_takeOff_5 (sX5_takeOff_5 l) (Nat.le_of_ble_eq_true rfl) (cX5_checkCabin l (by omega) (by omega)) ?_
  refine g_aload_n dX5_takeOff_8 rfl rfl ?_
  refine p_getR (o := some 2) dX5_takeOff_9 (fX5_10 l) (by decide) rfl (by omega) rfl ?_
  refine p_getR (o := some 3) dX5_takeOff_12 (fX5_108 l) (by decide) rfl (by omega) rfl ?_
  refine g_iload_n dX5_takeOff_15 rfl rfl ?_
  refine p_aald (ci := 0) (len := 60) (o := some (4 + c)) (kc0 l) dX5_takeOff_16 rfl (by omega) (by omega) (by omega) (rr_cab (by omega)) ?_
  refine e_astore_n (loc' := [gR (some 1), gI (s : Int), gI (c : Int), gR (some (4 + c))]) dX5_takeOff_17 rfl (by decide) rfl ?_
  refine g_aload_n dX5_takeOff_18 rfl rfl ?_
  refine c_getI (x := S.1 (4 + c) 1) dX5_takeOff_19 (fX5_111 l) rfl (T0_cab (by omega) (by omega)) (by omega) rfl ?_
  refine g_iconst (x := 2) dX5_takeOff_22 (by decide) ?_
  refine g_icmp_ne (tgt := 34) dX5_takeOff_23 (by decide) (fun c23 => absurd c23 (by omega)) (fun c23 => ?_)
  refine g_aload_n dX5_takeOff_26 rfl rfl ?_
  refine c_getI (x := S.1 (4 + c) 2) dX5_takeOff_27 (fX5_135 l) rfl (T0_cab (by omega) (by omega)) (by omega) rfl ?_
  refine g_iload_n dX5_takeOff_30 rfl rfl ?_
  refine g_icmp_eq (tgt := 36) dX5_takeOff_31 (by decide) (fun c31 => ?_) (fun c31 => absurd c31 (by omega))
  refine g_aload_n dX5_takeOff_36 rfl rfl ?_
  refine c_getI (x := (z : Int)) dX5_takeOff_37 (fX5_138 l) rfl (T0_cab (by omega) (by omega)) (by omega) g3 ?_
  refine g_iconst (x := 5) dX5_takeOff_40 (by decide) ?_
  refine g_icmp_lt (tgt := 63) dX5_takeOff_41 (by decide) (fun c41 => absurd c41 (by omega)) (fun c41 => ?_)
  refine g_aload_n dX5_takeOff_44 rfl rfl ?_
  refine c_getI (x := (z : Int)) dX5_takeOff_45 (fX5_138 l) rfl (T0_cab (by omega) (by omega)) (by omega) g3 ?_
  refine g_bipush (x := 8) dX5_takeOff_48 (by decide) ?_
  refine g_icmp_gt (tgt := 63) dX5_takeOff_50 (by decide) (fun c50 => absurd c50 (by omega)) (fun c50 => ?_)
  refine g_aload_n dX5_takeOff_53 rfl rfl ?_
  refine p_getR (o := some 65) dX5_takeOff_54 (fX5_25 l) (by decide) rfl (by omega) rfl ?_
  refine g_Vi0 dX5_takeOff_57 (sX5_takeOff_57 l) rfl (by show 65 < 87; omega) (Nat.le_of_ble_eq_true rfl) (gMi_to 1 (cX2_hasRoom l) (by rw [if_pos g6])) ?_
  refine g_if_ne (tgt := 65) dX5_takeOff_60 (by decide) (fun c60 => ?_) (fun c60 => absurd c60 (by omega))
  refine g_aload_n dX5_takeOff_65 rfl rfl ?_
  refine p_getR (o := some 64) dX5_takeOff_66 (fX5_18 l) (by decide) rfl (by omega) rfl ?_
  refine g_iload_n dX5_takeOff_69 rfl rfl ?_
  refine p_aald (ci := 3) (len := 2) (o := some (70 + 2 * s)) (kc3 l) dX5_takeOff_70 rfl (by omega) (by omega) (by omega) (rr_st (by omega)) ?_
  refine p_getR (o := some (71 + 2 * s)) dX5_takeOff_71 (fX5_82 l) (by decide) (T0_st (by omega)) (by omega) (rr_zs (by omega)) ?_
  refine g_aload_n dX5_takeOff_74 rfl rfl ?_
  refine c_getI (x := (z : Int)) dX5_takeOff_75 (fX5_138 l) rfl (T0_cab (by omega) (by omega)) (by omega) g3 ?_
  refine g_null dX5_takeOff_78 ?_
  refine p_aastZ (s := s) (kc0 l) dX5_takeOff_79 (by omega) (by omega) (by omega) (fun v hv => nomatch hv) ?_
  refine g_aload_n dX5_takeOff_80 rfl rfl ?_
  refine p_getR (o := some 65) dX5_takeOff_81 (fX5_25 l) (by decide) rfl (by omega) rfl ?_
  refine g_aload_n dX5_takeOff_84 rfl rfl ?_
  refine g_Vv1 dX5_takeOff_85 (sX5_takeOff_85 l) rfl (by show 65 < 87; omega) (Nat.le_of_ble_eq_true rfl) (cX2_append2 l (S := (S.1, up S.2.1 s z none, S.2.2)) (by omega) (by omega) hw.2.2.2.1.1 g6) ?_
  refine g_iconst (x := 1) dX5_takeOff_88 (by decide) ?_
  exact g_iret dX5_takeOff_89 (Or.inr ⟨rfl, Or.inr rfl⟩) ⟨rfl, rfl⟩
set_option maxHeartbeats 1000000 in
theorem cX5_plan_x (l : Launch) {L : Nat} {S : sT} {M : Nat → Nat → Int} {v : Int} (h1 : ¬ (1 ≤ v ∧ v ≤ 900)) : gMx (gπ l) mX5_plan yX5_plan [gR (some 1), gI v] (hS L S M) (hS L S M) := by
  refine gMet_of pnX5 rfl rfl rfl (Nat.le_of_ble_eq_true rfl) (gAr (gAi gAn)) ?_
  show G (gπ l) mX5_plan 0 [gR (some 1), gI v] [] (hS L S M) 1 6 _
  refine g_iload_n dX5_plan_0 rfl rfl ?_
  refine g_iconst (x := 1) dX5_plan_1 (by decide) ?_
  refine g_icmp_lt (tgt := 12) dX5_plan_2 (by decide) (fun c2 => ?_) (fun c2 => ?_)
  · exact g_throw (mc := 0) (ms := 0) (names := gNm) (text := "it is not 1 .. 900 an hour") dX5_plan_12 dX5_plan_15 dX5_plan_16 dX5_plan_18 dX5_plan_21 (wthr l) fthr (List.mem_of_getElem? (i := 7) rfl) rfl ⟨by decide, Nat.le_of_ble_eq_true rfl⟩ ⟨rfl, rfl⟩
  · refine g_iload_n dX5_plan_5 rfl rfl ?_
    refine g_sipush (x := 900) dX5_plan_6 (by decide) ?_
    refine g_icmp_le (tgt := 22) dX5_plan_9 (by decide) (fun c9 => absurd c9 (by omega)) (fun c9 => ?_)
    exact g_throw (mc := 0) (ms := 0) (names := gNm) (text := "it is not 1 .. 900 an hour") dX5_plan_12 dX5_plan_15 dX5_plan_16 dX5_plan_18 dX5_plan_21 (wthr l) fthr (List.mem_of_getElem? (i := 7) rfl) rfl ⟨by decide, Nat.le_of_ble_eq_true rfl⟩ ⟨rfl, rfl⟩
set_option maxHeartbeats 1000000 in
theorem cX5_plan (l : Launch) {L : Nat} {S : sT} {M : Nat → Nat → Int} {v : Int} (h1 : 1 ≤ v) (h2 : v ≤ 900) : gMi (gπ l) mX5_plan yX5_plan [gR (some 1), gI v] (hS L S M) ((v + 14) / 15) (hS L ((up S.1 1 5 ((v + 14) / 15), S.2)) M) := by
  refine gMet_of pnX5 rfl rfl rfl (Nat.le_of_ble_eq_true rfl) (gAr (gAi gAn)) ?_
  show G (gπ l) mX5_plan 0 [gR (some 1), gI v] [] (hS L S M) 0 0 _
  refine g_iload_n dX5_plan_0 rfl rfl ?_
  refine g_iconst (x := 1) dX5_plan_1 (by decide) ?_
  refine g_icmp_lt (tgt := 12) dX5_plan_2 (by decide) (fun c2 => absurd c2 (by omega)) (fun c2 => ?_)
  refine g_iload_n dX5_plan_5 rfl rfl ?_
  refine g_sipush (x := 900) dX5_plan_6 (by decide) ?_
  refine g_icmp_le (tgt := 22) dX5_plan_9 (by decide) (fun c9 => ?_) (fun c9 => absurd c9 (by omega))
  refine g_aload_n dX5_plan_22 rfl rfl ?_
  refine g_iload_n dX5_plan_23 rfl rfl ?_
  refine g_bipush (x := 15) dX5_plan_24 (by decide) ?_
  refine e_iadd (v := v + 15) dX5_plan_26 (gadd_eq (by omega) (by omega)) ?_
  refine g_iconst (x := 1) dX5_plan_27 (by decide) ?_
  refine e_isub (v := v + 14) dX5_plan_28 (by rw [gsub_eq (by omega) (by omega)]; omega) ?_
  refine g_bipush (x := 15) dX5_plan_29 (by decide) ?_
  refine e_idiv (v := (v + 14) / 15) dX5_plan_31 (by decide) (gdiv_eq (by omega) (by omega) (by omega) (by omega)) ?_
  refine c_putI dX5_plan_32 (fX5_40 l) gTX5 ⟨rfl, rfl⟩ rfl rfl (by omega) (by omega) ?_
  refine g_aload_n dX5_plan_35 rfl rfl ?_
  refine c_getI (x := (v + 14) / 15) dX5_plan_36 (fX5_40 l) rfl rfl (by omega) up_same ?_
  exact g_iret dX5_plan_39 (Or.inl rfl) ⟨rfl, rfl⟩
set_option maxHeartbeats 1000000 in
theorem cX5_release_x (l : Launch) {L : Nat} {S : sT} {M : Nat → Nat → Int} {k : Int} (h1 : ¬ (0 ≤ k ∧ k ≤ 3)) : gMx (gπ l) mX5_release yX5_release [gR (some 1), gI k] (hS L S M) (hS L S M) := by
  refine gMet_of pnX5 rfl rfl rfl (Nat.le_of_ble_eq_true rfl) (gAr (gAi gAn)) ?_
  show G (gπ l) mX5_release 0 [gR (some 1), gI k, gU] [] (hS L S M) 1 6 _
  refine g_iload_n dX5_release_0 rfl rfl ?_
  refine g_if_lt (tgt := 9) dX5_release_1 (by decide) (fun c1 => ?_) (fun c1 => ?_)
  · exact g_throw (mc := 0) (ms := 0) (names := gNm) (text := "no such lock") dX5_release_9 dX5_release_12 dX5_release_13 dX5_release_15 dX5_release_18 (wthr l) fthr (List.mem_of_getElem? (i := 8) rfl) rfl ⟨by decide, Nat.le_of_ble_eq_true rfl⟩ ⟨rfl, rfl⟩
  · refine g_iload_n dX5_release_4 rfl rfl ?_
    refine g_iconst (x := 3) dX5_release_5 (by decide) ?_
    refine g_icmp_le (tgt := 19) dX5_release_6 (by decide) (fun c6 => absurd c6 (by omega)) (fun c6 => ?_)
    exact g_throw (mc := 0) (ms := 0) (names := gNm) (text := "no such lock") dX5_release_9 dX5_release_12 dX5_release_13 dX5_release_15 dX5_release_18 (wthr l) fthr (List.mem_of_getElem? (i := 8) rfl) rfl ⟨by decide, Nat.le_of_ble_eq_true rfl⟩ ⟨rfl, rfl⟩
set_option maxHeartbeats 1000000 in
theorem cX5_release_0 (l : Launch) {L : Nat} {S : sT} {M : Nat → Nat → Int} {k : Int} (h1 : 0 ≤ k) (h2 : k ≤ 3) (hn : ¬ (gand (S.1 1 4) (gshl 1 k) ≠ 0 ∧ oCause S k = 0)) : gMi (gπ l) mX5_release yX5_release [gR (some 1), gI k] (hS L S M) (0) (hS L S M) := by
  refine gMet_of pnX5 rfl rfl rfl (Nat.le_of_ble_eq_true rfl) (gAr (gAi gAn)) ?_
  show G (gπ l) mX5_release 0 [gR (some 1), gI k, gU] [] (hS L S M) 0 0 _
  refine g_iload_n dX5_release_0 rfl rfl ?_
  refine g_if_lt (tgt := 9) dX5_release_1 (by decide) (fun c1 => absurd c1 (by omega)) (fun c1 => ?_)
  refine g_iload_n dX5_release_4 rfl rfl ?_
  refine g_iconst (x := 3) dX5_release_5 (by decide) ?_
  refine g_icmp_le (tgt := 19) dX5_release_6 (by decide) (fun c6 => ?_) (fun c6 => absurd c6 (by omega))
  refine g_iconst (x := 1) dX5_release_19 (by decide) ?_
  refine g_iload_n dX5_release_20 rfl rfl ?_
  refine e_ishl (v := gshl 1 k) dX5_release_21 rfl ?_
  refine e_istore_n (loc' := [gR (some 1), gI k, gI (gshl 1 k)]) dX5_release_22 rfl (by decide) rfl ?_
  refine g_aload_n dX5_release_23 rfl rfl ?_
  refine c_getI (x := S.1 1 4) dX5_release_24 (fX5_36 l) rfl rfl (by omega) rfl ?_
  refine g_iload_n dX5_release_27 rfl rfl ?_
  refine e_iand (v := gand (S.1 1 4) (gshl 1 k)) dX5_release_28 rfl ?_
  refine g_if_eq (tgt := 40) dX5_release_29 (by decide) (fun c29 => ?_) (fun c29 => ?_)
  · refine g_iconst (x := 0) dX5_release_40 (by decide) ?_
    exact g_iret dX5_release_41 (Or.inr ⟨rfl, Or.inl rfl⟩) ⟨rfl, rfl⟩
  · refine g_aload_n dX5_release_32 rfl rfl ?_
    refine g_iload_n dX5_release_33 rfl rfl ?_
    refine g_Vi1 dX5_release_34 (sX5_release_34 l) rfl (by show 1 < 87; omega) (Nat.le_of_ble_eq_true rfl) (cX5_hasCauseStill l) ?_
    refine g_if_eq (tgt := 42) dX5_release_37 (by decide) (fun c37 => ?_) (fun c37 => ?_)
    · exact absurd ⟨c29, c37⟩ hn
    · refine g_iconst (x := 0) dX5_release_40 (by decide) ?_
      exact g_iret dX5_release_41 (Or.inr ⟨rfl, Or.inl rfl⟩) ⟨rfl, rfl⟩
set_option maxHeartbeats 1000000 in
theorem cX5_release_1 (l : Launch) {L : Nat} {S : sT} {M : Nat → Nat → Int} {k : Int} (h1 : 0 ≤ k) (h2 : k ≤ 3) (g1 : gand (S.1 1 4) (gshl 1 k) ≠ 0) (g2 : oCause S k = 0) : gMi (gπ l) mX5_release yX5_release [gR (some 1), gI k] (hS L S M) (1) (hS L ((up S.1 1 4 (gand (S.1 1 4) (gxor (gshl 1 k) (-1))), S.2)) M) := by
  refine gMet_of pnX5 rfl rfl rfl (Nat.le_of_ble_eq_true rfl) (gAr (gAi gAn)) ?_
  show G (gπ l) mX5_release 0 [gR (some 1), gI k, gU] [] (hS L S M) 0 0 _
  refine g_iload_n dX5_release_0 rfl rfl ?_
  refine g_if_lt (tgt := 9) dX5_release_1 (by decide) (fun c1 => absurd c1 (by omega)) (fun c1 => ?_)
  refine g_iload_n dX5_release_4 rfl rfl ?_
  refine g_iconst (x := 3) dX5_release_5 (by decide) ?_
  refine g_icmp_le (tgt := 19) dX5_release_6 (by decide) (fun c6 => ?_) (fun c6 => absurd c6 (by omega))
  refine g_iconst (x := 1) dX5_release_19 (by decide) ?_
  refine g_iload_n dX5_release_20 rfl rfl ?_
  refine e_ishl (v := gshl 1 k) dX5_release_21 rfl ?_
  refine e_istore_n (loc' := [gR (some 1), gI k, gI (gshl 1 k)]) dX5_release_22 rfl (by decide) rfl ?_
  refine g_aload_n dX5_release_23 rfl rfl ?_
  refine c_getI (x := S.1 1 4) dX5_release_24 (fX5_36 l) rfl rfl (by omega) rfl ?_
  refine g_iload_n dX5_release_27 rfl rfl ?_
  refine e_iand (v := gand (S.1 1 4) (gshl 1 k)) dX5_release_28 rfl ?_
  refine g_if_eq (tgt := 40) dX5_release_29 (by decide) (fun c29 => absurd c29 (by omega)) (fun c29 => ?_)
  refine g_aload_n dX5_release_32 rfl rfl ?_
  refine g_iload_n dX5_release_33 rfl rfl ?_
  refine g_Vi1 dX5_release_34 (sX5_release_34 l) rfl (by show 1 < 87; omega) (Nat.le_of_ble_eq_true rfl) (cX5_hasCauseStill l) ?_
  refine g_if_eq (tgt := 42) dX5_release_37 (by decide) (fun c37 => ?_) (fun c37 => absurd c37 (by omega))
  refine g_aload_n dX5_release_42 rfl rfl ?_
  refine g_dupR dX5_release_43 ?_
  refine c_getI (x := S.1 1 4) dX5_release_44 (fX5_36 l) rfl rfl (by omega) rfl ?_
  refine g_iload_n dX5_release_47 rfl rfl ?_
  refine g_iconst (x := -1) dX5_release_48 (by decide) ?_
  refine e_ixor (v := gxor (gshl 1 k) (-1)) dX5_release_49 rfl ?_
  refine e_iand (v := gand (S.1 1 4) (gxor (gshl 1 k) (-1))) dX5_release_50 rfl ?_
  refine c_putI dX5_release_51 (fX5_36 l) gTX5 ⟨rfl, rfl⟩ rfl rfl (by omega) (by omega) ?_
  refine g_iconst (x := 1) dX5_release_54 (by decide) ?_
  exact g_iret dX5_release_55 (Or.inr ⟨rfl, Or.inr rfl⟩) ⟨rfl, rfl⟩
set_option maxHeartbeats 1000000 in
theorem cX5_locks (l : Launch) {L : Nat} {S : sT} {M : Nat → Nat → Int}  : gMi (gπ l) mX5_locks yX5_locks [gR (some 1)] (hS L S M) (S.1 1 4) (hS L S M) := by
  refine gMet_of pnX5 rfl rfl rfl (Nat.le_of_ble_eq_true rfl) (gAr gAn) ?_
  show G (gπ l) mX5_locks 0 [gR (some 1)] [] (hS L S M) 0 0 _
  refine g_aload_n dX5_locks_0 rfl rfl ?_
  refine c_getI (x := S.1 1 4) dX5_locks_1 (fX5_36 l) rfl rfl (by omega) rfl ?_
  exact g_iret dX5_locks_4 (Or.inl rfl) ⟨rfl, rfl⟩
set_option maxHeartbeats 1000000 in
theorem cX5_where_x (l : Launch) {L : Nat} {S : sT} {M : Nat → Nat → Int} {c w : Int} (h1 : ¬ (0 ≤ c ∧ c < 60)) : gMx (gπ l) mX5_where yX5_where [gR (some 1), gI c, gI w] (hS L S M) (hS L S M) := by
  refine gMet_of pnX5 rfl rfl rfl (Nat.le_of_ble_eq_true rfl) (gAr (gAi (gAi gAn))) ?_
  show G (gπ l) mX5_where 0 [gR (some 1), gI c, gI w, gU] [] (hS L S M) 1 6 _
  refine g_iload_n dX5_where_0 rfl rfl ?_
  refine g_Sx1 dX5_where_1 (sX5_where_1 l) (Nat.le_of_ble_eq_true rfl) (cX5_checkCabin_x l h1) ?_
  exact gx_out rfl ⟨rfl, rfl⟩
def oWhere (S : sT) (n : Nat) (sp w : Int) : Int := if w = 0 then S.1 n 1 else if w = 1 then sp else if w = 2 then S.1 n 2 else if w = 3 then S.1 n 5 else if w = 4 then S.1 n 6 else if w = 5 then sDoors (S.1 n 3) (S.1 n 5) else if w = 6 then S.1 n 9 else if w = 7 then S.1 n 10 else -1
theorem sDoors_b (z a : Int) : sDoors z a = 0 ∨ sDoors z a = 1 := by unfold sDoors; (repeat' split) <;> omega
set_option maxHeartbeats 1000000 in
theorem cX5_where (l : Launch) {L : Nat} {S : sT} {M : Nat → Nat → Int} {c : Nat} (hc : c < 60) {w sp : Int} (hsp : gMi (gπ l) mX5_spotOf yX5_spotOf [gR (some 1), gR (some (4 + c))] (hS L S M) sp (hS L S M)) : gMi (gπ l) mX5_where yX5_where [gR (some 1), gI (c : Int), gI w] (hS L S M) (oWhere S (4 + c) sp w) (hS L S M) := by
  refine gMet_of pnX5 rfl rfl rfl (Nat.le_of_ble_eq_true rfl) (gAr (gAi (gAi gAn))) ?_
  show G (gπ l) mX5_where 0 [gR (some 1), gI (c : Int), gI w, gU] [] (hS L S M) 0 0 _
  refine g_iload_n dX5_where_0 rfl rfl ?_
  refine g_Sv1 dX5_where_1 (sX5_where_1 l) (Nat.le_of_ble_eq_true rfl) (cX5_checkCabin l (by omega) (by omega)) ?_
  refine g_aload_n dX5_where_4 rfl rfl ?_
  refine p_getR (o := some 2) dX5_where_5 (fX5_10 l) (by decide) rfl (by omega) rfl ?_
  refine p_getR (o := some 3) dX5_where_8 (fX5_108 l) (by decide) rfl (by omega) rfl ?_
  refine g_iload_n dX5_where_11 rfl rfl ?_
  refine p_aald (ci := 0) (len := 60) (o := some (4 + c)) (kc0 l) dX5_where_12 rfl (by omega) (by omega) (by omega) (rr_cab (by omega)) ?_
  refine e_astore_n (loc' := [gR (some 1), gI (c : Int), gI w, gR (some (4 + c))]) dX5_where_13 rfl (by decide) rfl ?_
  refine g_iload_n dX5_where_14 rfl rfl ?_
  rcases (by omega : (w < 0 ∨ 7 < w) ∨ w = 0 ∨ w = 1 ∨ w = 2 ∨ w = 3 ∨ w = 4 ∨ w = 5 ∨ w = 6 ∨ w = 7) with w15 | w15 | w15 | w15 | w15 | w15 | w15 | w15 | w15
  · refine g_tableOut (tgt := 109) dX5_where_15 (by omega) (by decide) ?_
    refine g_iconst (x := -1) dX5_where_109 (by decide) ?_
    exact g_iret dX5_where_110 (Or.inl rfl) ⟨congrArg gK1 (by have := sDoors_b (S.1 (4 + c) 3) (S.1 (4 + c) 5); unfold oWhere; (repeat' split) <;> omega), rfl⟩
  · refine g_tableIn (tgt := 60) (off := 45) dX5_where_15 (by omega) (by omega) (by rw [w15]; rfl) (by decide) ?_
    refine g_aload_n dX5_where_60 rfl rfl ?_
    refine c_getI (x := S.1 (4 + c) 1) dX5_where_61 (fX5_111 l) rfl (T0_cab (by omega) (by omega)) (by omega) rfl ?_
    exact g_iret dX5_where_64 (Or.inl rfl) ⟨congrArg gK1 (by have := sDoors_b (S.1 (4 + c) 3) (S.1 (4 + c) 5); unfold oWhere; (repeat' split) <;> omega), rfl⟩
  · refine g_tableIn (tgt := 65) (off := 50) dX5_where_15 (by omega) (by omega) (by rw [w15]; rfl) (by decide) ?_
    refine g_aload_n dX5_where_65 rfl rfl ?_
    refine g_aload_n dX5_where_66 rfl rfl ?_
    refine g_Vi1 dX5_where_67 (sX5_where_67 l) rfl (by show 1 < 87; omega) (Nat.le_of_ble_eq_true rfl) hsp ?_
    exact g_iret dX5_where_70 (Or.inl rfl) ⟨congrArg gK1 (by have := sDoors_b (S.1 (4 + c) 3) (S.1 (4 + c) 5); unfold oWhere; (repeat' split) <;> omega), rfl⟩
  · refine g_tableIn (tgt := 71) (off := 56) dX5_where_15 (by omega) (by omega) (by rw [w15]; rfl) (by decide) ?_
    refine g_aload_n dX5_where_71 rfl rfl ?_
    refine c_getI (x := S.1 (4 + c) 2) dX5_where_72 (fX5_135 l) rfl (T0_cab (by omega) (by omega)) (by omega) rfl ?_
    exact g_iret dX5_where_75 (Or.inl rfl) ⟨congrArg gK1 (by have := sDoors_b (S.1 (4 + c) 3) (S.1 (4 + c) 5); unfold oWhere; (repeat' split) <;> omega), rfl⟩
  · refine g_tableIn (tgt := 76) (off := 61) dX5_where_15 (by omega) (by omega) (by rw [w15]; rfl) (by decide) ?_
    refine g_aload_n dX5_where_76 rfl rfl ?_
    refine c_getI (x := S.1 (4 + c) 5) dX5_where_77 (fX5_152 l) rfl (T0_cab (by omega) (by omega)) (by omega) rfl ?_
    exact g_iret dX5_where_80 (Or.inl rfl) ⟨congrArg gK1 (by have := sDoors_b (S.1 (4 + c) 3) (S.1 (4 + c) 5); unfold oWhere; (repeat' split) <;> omega), rfl⟩
  · refine g_tableIn (tgt := 81) (off := 66) dX5_where_15 (by omega) (by omega) (by rw [w15]; rfl) (by decide) ?_
    refine g_aload_n dX5_where_81 rfl rfl ?_
    refine c_getI (x := S.1 (4 + c) 6) dX5_where_82 (fX5_155 l) rfl (T0_cab (by omega) (by omega)) (by omega) rfl ?_
    exact g_iret dX5_where_85 (Or.inl rfl) ⟨congrArg gK1 (by have := sDoors_b (S.1 (4 + c) 3) (S.1 (4 + c) 5); unfold oWhere; (repeat' split) <;> omega), rfl⟩
  · refine g_tableIn (tgt := 86) (off := 71) dX5_where_15 (by omega) (by omega) (by rw [w15]; rfl) (by decide) ?_
    refine g_aload_n dX5_where_86 rfl rfl ?_
    refine g_Vi0 dX5_where_87 (sX5_where_87 l) (T0_cab (by omega) (by omega)) (by show 4 + c < 87; omega) (Nat.le_of_ble_eq_true rfl) (cX0_hasDoorsOpen l (by omega) (by omega)) ?_
    refine g_if_eq (tgt := 97) dX5_where_90 (by decide) (fun c90 => ?_) (fun c90 => ?_)
    · refine g_iconst (x := 0) dX5_where_97 (by decide) ?_
      exact g_iret dX5_where_98 (Or.inl rfl) ⟨congrArg gK1 (by have := sDoors_b (S.1 (4 + c) 3) (S.1 (4 + c) 5); unfold oWhere; (repeat' split) <;> omega), rfl⟩
    · refine g_iconst (x := 1) dX5_where_93 (by decide) ?_
      refine g_goto (tgt := 98) dX5_where_94 (by decide) ?_
      exact g_iret dX5_where_98 (Or.inl rfl) ⟨congrArg gK1 (by have := sDoors_b (S.1 (4 + c) 3) (S.1 (4 + c) 5); unfold oWhere; (repeat' split) <;> omega), rfl⟩
  · refine g_tableIn (tgt := 99) (off := 84) dX5_where_15 (by omega) (by omega) (by rw [w15]; rfl) (by decide) ?_
    refine g_aload_n dX5_where_99 rfl rfl ?_
    refine c_getI (x := S.1 (4 + c) 9) dX5_where_100 (fX5_161 l) rfl (T0_cab (by omega) (by omega)) (by omega) rfl ?_
    exact g_iret dX5_where_103 (Or.inl rfl) ⟨congrArg gK1 (by have := sDoors_b (S.1 (4 + c) 3) (S.1 (4 + c) 5); unfold oWhere; (repeat' split) <;> omega), rfl⟩
  · refine g_tableIn (tgt := 104) (off := 89) dX5_where_15 (by omega) (by omega) (by rw [w15]; rfl) (by decide) ?_
    refine g_aload_n dX5_where_104 rfl rfl ?_
    refine c_getI (x := S.1 (4 + c) 10) dX5_where_105 (fX5_164 l) rfl (T0_cab (by omega) (by omega)) (by omega) rfl ?_
    exact g_iret dX5_where_108 (Or.inl rfl) ⟨congrArg gK1 (by have := sDoors_b (S.1 (4 + c) 3) (S.1 (4 + c) 5); unfold oWhere; (repeat' split) <;> omega), rfl⟩
set_option maxHeartbeats 1000000 in
theorem cX5_gap_x (l : Launch) {L : Nat} {S : sT} {M : Nat → Nat → Int} {c : Int} (h1 : ¬ (0 ≤ c ∧ c < 60)) : gMx (gπ l) mX5_gap yX5_gap [gR (some 1), gI c] (hS L S M) (hS L S M) := by
  refine gMet_of pnX5 rfl rfl rfl (Nat.le_of_ble_eq_true rfl) (gAr (gAi gAn)) ?_
  show G (gπ l) mX5_gap 0 [gR (some 1), gI c, gU] [] (hS L S M) 1 6 _
  refine g_iload_n dX5_gap_0 rfl rfl ?_
  refine g_Sx1 dX5_gap_1 (sX5_gap_1 l) (Nat.le_of_ble_eq_true rfl) (cX5_checkCabin_x l h1) ?_
  exact gx_out rfl ⟨rfl, rfl⟩
set_option maxHeartbeats 1000000 in
theorem cX5_gap_0 (l : Launch) {L : Nat} {S : sT} {M : Nat → Nat → Int} {c : Nat} (hc : c < 60) (hp : S.1 (4 + c) 1 ≠ 3) : gMi (gπ l) mX5_gap yX5_gap [gR (some 1), gI (c : Int)] (hS L S M) (-1) (hS L S M) := by
  refine gMet_of pnX5 rfl rfl rfl (Nat.le_of_ble_eq_true rfl) (gAr (gAi gAn)) ?_
  show G (gπ l) mX5_gap 0 [gR (some 1), gI (c : Int), gU] [] (hS L S M) 0 0 _
  refine g_iload_n dX5_gap_0 rfl rfl ?_
  refine g_Sv1 dX5_gap_1 (sX5_gap_1 l) (Nat.le_of_ble_eq_true rfl) (cX5_checkCabin l (by omega) (by omega)) ?_
  refine g_aload_n dX5_gap_4 rfl rfl ?_
  refine p_getR (o := some 2) dX5_gap_5 (fX5_10 l) (by decide) rfl (by omega) rfl ?_
  refine p_getR (o := some 3) dX5_gap_8 (fX5_108 l) (by decide) rfl (by omega) rfl ?_
  refine g_iload_n dX5_gap_11 rfl rfl ?_
  refine p_aald (ci := 0) (len := 60) (o := some (4 + c)) (kc0 l) dX5_gap_12 rfl (by omega) (by omega) (by omega) (rr_cab (by omega)) ?_
  refine e_astore_n (loc' := [gR (some 1), gI (c : Int), gR (some (4 + c))]) dX5_gap_13 rfl (by decide) rfl ?_
  refine g_aload_n dX5_gap_14 rfl rfl ?_
  refine c_getI (x := S.1 (4 + c) 1) dX5_gap_15 (fX5_111 l) rfl (T0_cab (by omega) (by omega)) (by omega) rfl ?_
  refine g_iconst (x := 3) dX5_gap_18 (by decide) ?_
  refine g_icmp_ne (tgt := 33) dX5_gap_19 (by decide) (fun c19 => ?_) (fun c19 => absurd c19 (by omega))
  refine g_iconst (x := -1) dX5_gap_33 (by decide) ?_
  exact g_iret dX5_gap_34 (Or.inl rfl) ⟨rfl, rfl⟩
set_option maxHeartbeats 1000000 in
theorem cX5_gap_1 (l : Launch) {L : Nat} {S : sT} {M : Nat → Nat → Int} {c : Nat} (hc : c < 60) (hp : S.1 (4 + c) 1 = 3) (hsp : ∀ j, j < 60 → S.1 (4 + j) 1 = 3 → -12000 < gsub (sSpot S.1 (4 + j)) (sSpot S.1 (4 + c)) ∧ gsub (sSpot S.1 (4 + j)) (sSpot S.1 (4 + c)) < 12000) : gMi (gπ l) mX5_gap yX5_gap [gR (some 1), gI (c : Int)] (hS L S M) (sWay S.1 (4 + c) 60) (hS L S M) := by
  refine gMet_of pnX5 rfl rfl rfl (Nat.le_of_ble_eq_true rfl) (gAr (gAi gAn)) ?_
  show G (gπ l) mX5_gap 0 [gR (some 1), gI (c : Int), gU] [] (hS L S M) 0 0 _
  refine g_iload_n dX5_gap_0 rfl rfl ?_
  refine g_Sv1 dX5_gap_1 (sX5_gap_1 l) (Nat.le_of_ble_eq_true rfl) (cX5_checkCabin l (by omega) (by omega)) ?_
  refine g_aload_n dX5_gap_4 rfl rfl ?_
  refine p_getR (o := some 2) dX5_gap_5 (fX5_10 l) (by decide) rfl (by omega) rfl ?_
  refine p_getR (o := some 3) dX5_gap_8 (fX5_108 l) (by decide) rfl (by omega) rfl ?_
  refine g_iload_n dX5_gap_11 rfl rfl ?_
  refine p_aald (ci := 0) (len := 60) (o := some (4 + c)) (kc0 l) dX5_gap_12 rfl (by omega) (by omega) (by omega) (rr_cab (by omega)) ?_
  refine e_astore_n (loc' := [gR (some 1), gI (c : Int), gR (some (4 + c))]) dX5_gap_13 rfl (by decide) rfl ?_
  refine g_aload_n dX5_gap_14 rfl rfl ?_
  refine c_getI (x := S.1 (4 + c) 1) dX5_gap_15 (fX5_111 l) rfl (T0_cab (by omega) (by omega)) (by omega) rfl ?_
  refine g_iconst (x := 3) dX5_gap_18 (by decide) ?_
  refine g_icmp_ne (tgt := 33) dX5_gap_19 (by decide) (fun c19 => absurd c19 (by omega)) (fun c19 => ?_)
  refine g_aload_n dX5_gap_22 rfl rfl ?_
  refine p_getR (o := some 2) dX5_gap_23 (fX5_10 l) (by decide) rfl (by omega) rfl ?_
  refine g_aload_n dX5_gap_26 rfl rfl ?_
  refine g_Vi1 dX5_gap_27 (sX5_gap_27 l) rfl (by show 2 < 87; omega) (Nat.le_of_ble_eq_true rfl) (cX1_wayAhead l (by omega) (by omega) hsp) ?_
  refine g_goto (tgt := 34) dX5_gap_30 (by decide) ?_
  exact g_iret dX5_gap_34 (Or.inl rfl) ⟨rfl, rfl⟩
set_option maxHeartbeats 1000000 in
theorem cX5_sided_0 (l : Launch) {L : Nat} {S : sT} {M : Nat → Nat → Int} {sz : Nat} (hsz : S.1 65 1 = (sz : Int)) (h20 : sz ≤ 20) {p : Int} (hn : ¬ (0 ≤ p ∧ p < (sz : Int))) : gMi (gπ l) mX5_sided yX5_sided [gR (some 1), gI p] (hS L S M) (-1) (hS L S M) := by
  refine gMet_of pnX5 rfl rfl rfl (Nat.le_of_ble_eq_true rfl) (gAr (gAi gAn)) ?_
  show G (gπ l) mX5_sided 0 [gR (some 1), gI p, gU] [] (hS L S M) 0 0 _
  refine g_aload_n dX5_sided_0 rfl rfl ?_
  refine p_getR (o := some 65) dX5_sided_1 (fX5_25 l) (by decide) rfl (by omega) rfl ?_
  refine g_iload_n dX5_sided_4 rfl rfl ?_
  refine g_Vr1 dX5_sided_5 (sX5_sided_5 l) rfl (by show 65 < 87; omega) (Nat.le_of_ble_eq_true rfl) (gMr_to none (cX2_cabinAt l hsz h20) (by rw [if_neg hn])) ?_
  refine e_astore_n (loc' := [gR (some 1), gI p, gR (none)]) dX5_sided_8 rfl (by decide) rfl ?_
  refine g_aload_n dX5_sided_9 rfl rfl ?_
  refine g_ifnonnull (tgt := 17) dX5_sided_10 (by decide) (fun n9 z9 => absurd (z9.symm.trans rfl) (by simp)) (fun _ => ?_)
  refine g_iconst (x := -1) dX5_sided_13 (by decide) ?_
  refine g_goto (tgt := 21) dX5_sided_14 (by decide) ?_
  exact g_iret dX5_sided_21 (Or.inl rfl) ⟨rfl, rfl⟩
set_option maxHeartbeats 1000000 in
theorem cX5_sided_1 (l : Launch) {L : Nat} {S : sT} {M : Nat → Nat → Int} {sz : Nat} (hsz : S.1 65 1 = (sz : Int)) (h20 : sz ≤ 20) {p : Int} (hn : 0 ≤ p ∧ p < (sz : Int)) {n : Nat} (hR : S.2.2 p.toNat = some n) (h1 : 4 ≤ n) (h2 : n < 64) : gMi (gπ l) mX5_sided yX5_sided [gR (some 1), gI p] (hS L S M) (S.1 n 0) (hS L S M) := by
  refine gMet_of pnX5 rfl rfl rfl (Nat.le_of_ble_eq_true rfl) (gAr (gAi gAn)) ?_
  show G (gπ l) mX5_sided 0 [gR (some 1), gI p, gU] [] (hS L S M) 0 0 _
  refine g_aload_n dX5_sided_0 rfl rfl ?_
  refine p_getR (o := some 65) dX5_sided_1 (fX5_25 l) (by decide) rfl (by omega) rfl ?_
  refine g_iload_n dX5_sided_4 rfl rfl ?_
  refine g_Vr1 dX5_sided_5 (sX5_sided_5 l) rfl (by show 65 < 87; omega) (Nat.le_of_ble_eq_true rfl) (gMr_to (some n) (cX2_cabinAt l hsz h20) (by rw [if_pos hn, hR])) ?_
  refine e_astore_n (loc' := [gR (some 1), gI p, gR (some n)]) dX5_sided_8 rfl (by decide) rfl ?_
  refine g_aload_n dX5_sided_9 rfl rfl ?_
  refine g_ifnonnull (tgt := 17) dX5_sided_10 (by decide) (fun _ _ => ?_) (fun z9 => absurd (z9.symm.trans rfl) (by simp))
  refine g_aload_n dX5_sided_17 rfl rfl ?_
  refine c_getI (x := S.1 n 0) dX5_sided_18 (fX5_174 l) rfl (T0_cab (by omega) (by omega)) (by omega) rfl ?_
  exact g_iret dX5_sided_21 (Or.inl rfl) ⟨rfl, rfl⟩
def oState (S : sT) (w : Int) : Int := if w = 0 then S.1 1 7 else if w = 1 then S.1 1 6 else if w = 2 then S.1 1 5 else if w = 3 then S.1 67 4 else if w = 4 then S.1 65 1 else if w = 5 then cntTo (fun j => decide (S.1 (4 + j) 1 = 3)) 60 else if w = 6 then cntTo (fun j => decide (S.1 (4 + j) 1 = 2)) 60 else if w = 7 then sumTo (fun j => S.1 (4 + j) 9) 60 else if w = 8 then S.1 1 8 else if w = 9 then S.1 1 9 else -1
set_option maxHeartbeats 1000000 in
theorem cX5_state (l : Launch) {L : Nat} {S : sT} {M : Nat → Nat → Int} {w : Int} : gMi (gπ l) mX5_state yX5_state [gR (some 1), gI w] (hS L S M) (oState S w) (hS L S M) := by
  refine gMet_of pnX5 rfl rfl rfl (Nat.le_of_ble_eq_true rfl) (gAr (gAi gAn)) ?_
  show G (gπ l) mX5_state 0 [gR (some 1), gI w] [] (hS L S M) 0 0 _
  refine g_iload_n dX5_state_0 rfl rfl ?_
  rcases (by omega : (w < 0 ∨ 9 < w) ∨ w = 0 ∨ w = 1 ∨ w = 2 ∨ w = 3 ∨ w = 4 ∨ w = 5 ∨ w = 6 ∨ w = 7 ∨ w = 8 ∨ w = 9) with w1 | w1 | w1 | w1 | w1 | w1 | w1 | w1 | w1 | w1 | w1
  · refine g_tableOut (tgt := 123) dX5_state_1 (by omega) (by decide) ?_
    refine g_iconst (x := -1) dX5_state_123 (by decide) ?_
    exact g_iret dX5_state_124 (Or.inl rfl) ⟨congrArg gK1 (by unfold oState; (repeat' split) <;> omega), rfl⟩
  · refine g_tableIn (tgt := 56) (off := 55) dX5_state_1 (by omega) (by omega) (by rw [w1]; rfl) (by decide) ?_
    refine g_aload_n dX5_state_56 rfl rfl ?_
    refine c_getI (x := S.1 1 7) dX5_state_57 (fX5_46 l) rfl rfl (by omega) rfl ?_
    exact g_iret dX5_state_60 (Or.inl rfl) ⟨congrArg gK1 (by unfold oState; (repeat' split) <;> omega), rfl⟩
  · refine g_tableIn (tgt := 61) (off := 60) dX5_state_1 (by omega) (by omega) (by rw [w1]; rfl) (by decide) ?_
    refine g_aload_n dX5_state_61 rfl rfl ?_
    refine c_getI (x := S.1 1 6) dX5_state_62 (fX5_43 l) rfl rfl (by omega) rfl ?_
    exact g_iret dX5_state_65 (Or.inl rfl) ⟨congrArg gK1 (by unfold oState; (repeat' split) <;> omega), rfl⟩
  · refine g_tableIn (tgt := 66) (off := 65) dX5_state_1 (by omega) (by omega) (by rw [w1]; rfl) (by decide) ?_
    refine g_aload_n dX5_state_66 rfl rfl ?_
    refine c_getI (x := S.1 1 5) dX5_state_67 (fX5_40 l) rfl rfl (by omega) rfl ?_
    exact g_iret dX5_state_70 (Or.inl rfl) ⟨congrArg gK1 (by unfold oState; (repeat' split) <;> omega), rfl⟩
  · refine g_tableIn (tgt := 71) (off := 70) dX5_state_1 (by omega) (by omega) (by rw [w1]; rfl) (by decide) ?_
    refine g_aload_n dX5_state_71 rfl rfl ?_
    refine p_getR (o := some 67) dX5_state_72 (fX5_32 l) (by decide) rfl (by omega) rfl ?_
    refine c_getI (x := S.1 67 4) dX5_state_75 (fX5_177 l) rfl rfl (by omega) rfl ?_
    exact g_iret dX5_state_78 (Or.inl rfl) ⟨congrArg gK1 (by unfold oState; (repeat' split) <;> omega), rfl⟩
  · refine g_tableIn (tgt := 79) (off := 78) dX5_state_1 (by omega) (by omega) (by rw [w1]; rfl) (by decide) ?_
    refine g_aload_n dX5_state_79 rfl rfl ?_
    refine p_getR (o := some 65) dX5_state_80 (fX5_25 l) (by decide) rfl (by omega) rfl ?_
    refine c_getI (x := S.1 65 1) dX5_state_83 (fX5_180 l) rfl rfl (by omega) rfl ?_
    exact g_iret dX5_state_86 (Or.inl rfl) ⟨congrArg gK1 (by unfold oState; (repeat' split) <;> omega), rfl⟩
  · refine g_tableIn (tgt := 87) (off := 86) dX5_state_1 (by omega) (by omega) (by rw [w1]; rfl) (by decide) ?_
    refine g_aload_n dX5_state_87 rfl rfl ?_
    refine p_getR (o := some 2) dX5_state_88 (fX5_10 l) (by decide) rfl (by omega) rfl ?_
    refine g_iconst (x := 3) dX5_state_91 (by decide) ?_
    refine g_Vi1 dX5_state_92 (sX5_state_92 l) rfl (by show 2 < 87; omega) (Nat.le_of_ble_eq_true rfl) (cX1_countAt l) ?_
    exact g_iret dX5_state_95 (Or.inl rfl) ⟨congrArg gK1 (by unfold oState; (repeat' split) <;> omega), rfl⟩
  · refine g_tableIn (tgt := 96) (off := 95) dX5_state_1 (by omega) (by omega) (by rw [w1]; rfl) (by decide) ?_
    refine g_aload_n dX5_state_96 rfl rfl ?_
    refine p_getR (o := some 2) dX5_state_97 (fX5_10 l) (by decide) rfl (by omega) rfl ?_
    refine g_iconst (x := 2) dX5_state_100 (by decide) ?_
    refine g_Vi1 dX5_state_101 (sX5_state_101 l) rfl (by show 2 < 87; omega) (Nat.le_of_ble_eq_true rfl) (cX1_countAt l) ?_
    exact g_iret dX5_state_104 (Or.inl rfl) ⟨congrArg gK1 (by unfold oState; (repeat' split) <;> omega), rfl⟩
  · refine g_tableIn (tgt := 105) (off := 104) dX5_state_1 (by omega) (by omega) (by rw [w1]; rfl) (by decide) ?_
    refine g_aload_n dX5_state_105 rfl rfl ?_
    refine p_getR (o := some 2) dX5_state_106 (fX5_10 l) (by decide) rfl (by omega) rfl ?_
    refine g_Vi0 dX5_state_109 (sX5_state_109 l) rfl (by show 2 < 87; omega) (Nat.le_of_ble_eq_true rfl) (cX1_tripsOfAll l) ?_
    exact g_iret dX5_state_112 (Or.inl rfl) ⟨congrArg gK1 (by unfold oState; (repeat' split) <;> omega), rfl⟩
  · refine g_tableIn (tgt := 113) (off := 112) dX5_state_1 (by omega) (by omega) (by rw [w1]; rfl) (by decide) ?_
    refine g_aload_n dX5_state_113 rfl rfl ?_
    refine c_getI (x := S.1 1 8) dX5_state_114 (fX5_49 l) rfl rfl (by omega) rfl ?_
    exact g_iret dX5_state_117 (Or.inl rfl) ⟨congrArg gK1 (by unfold oState; (repeat' split) <;> omega), rfl⟩
  · refine g_tableIn (tgt := 118) (off := 117) dX5_state_1 (by omega) (by omega) (by rw [w1]; rfl) (by decide) ?_
    refine g_aload_n dX5_state_118 rfl rfl ?_
    refine c_getI (x := S.1 1 9) dX5_state_119 (fX5_52 l) rfl rfl (by omega) rfl ?_
    exact g_iret dX5_state_122 (Or.inl rfl) ⟨congrArg gK1 (by unfold oState; (repeat' split) <;> omega), rfl⟩
