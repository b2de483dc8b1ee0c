/-! contracts: the reference, its work -/
theorem g_top {π : gP} {mi : gM} {pc : Nat} {loc stk : List gV} {h : gH} {mc ms : Nat} {Q : Option (Option gV) → gH → Prop} {x y : Int} (e : x = y) (k : G π mi pc loc (gI y :: stk) h mc ms Q) : G π mi pc loc (gI x :: stk) h mc ms Q := by
  subst e; exact k
set_option maxHeartbeats 1000000 in
theorem cX6_isTooNear (l : Launch) {L : Nat} {S : sT} {M : Nat → Nat → Int} (hpl : M 74 15 ≠ 0) {s : Int} : gMi (gπ l) mX6_isTooNear yX6_isTooNear [gR (some 74), gI s] (hS L S M) (if xNear M s = true then 1 else 0) (hS L S M) := by
  refine gMet_of pnX6 rfl rfl rfl (Nat.le_of_ble_eq_true rfl) (gAr (gAi gAn)) ?_
  show G (gπ l) mX6_isTooNear 0 [gR (some 74), gI s, gU, gU] [] (hS L S M) 0 0 _
  have loop : ∀ (m k : Nat), k + m = 60 → anyTo (fun c => decide (M 75 c = 3 ∧ M 77 c = s ∧ M 76 c < xSpc M s)) k = false → G (gπ l) mX6_isTooNear 39 [gR (some 74), gI s, gI (xSpc M s), gI (k : Int)] [] (hS L S M) 0 0 (fun r k => r = some (some (gI (if xNear M s = true then 1 else 0))) ∧ k = (hS L S M)) := by
    intro m
    induction m with
    | zero =>
      intro k hk hno
      refine g_iload_n dX6_isTooNear_39 rfl rfl ?_
      refine g_bipush (x := 60) dX6_isTooNear_40 (by decide) ?_
      refine g_icmp_ge (tgt := 83) dX6_isTooNear_42 (by decide) (fun c42 => ?_) (fun c42 => absurd c42 (by omega))
      refine g_iconst (x := 0) dX6_isTooNear_83 (by decide) ?_
      exact g_iret dX6_isTooNear_84 (Or.inr ⟨rfl, Or.inl rfl⟩) ⟨congrArg gK1 (by rw [show k = 60 by omega] at hno; unfold xNear; rw [hno]; rfl), rfl⟩
    | succ m ih =>
      intro k hk hno
      refine g_iload_n dX6_isTooNear_39 rfl rfl ?_
      refine g_bipush (x := 60) dX6_isTooNear_40 (by decide) ?_
      refine g_icmp_ge (tgt := 83) dX6_isTooNear_42 (by decide) (fun c42 => absurd c42 (by omega)) (fun c42 => ?_)
      refine g_aload_n dX6_isTooNear_45 rfl rfl ?_
      refine p_getR (o := some 75) dX6_isTooNear_46 (fX6_7 l) (by decide) rfl (by omega) rfl ?_
      refine g_iload_n dX6_isTooNear_49 rfl rfl ?_
      refine m_iald (len := 60) (x := M 75 k) dX6_isTooNear_50 rfl ⟨by omega, by omega⟩ (by omega) (by omega) rfl ?_
      refine g_iconst (x := 3) dX6_isTooNear_51 (by decide) ?_
      refine g_icmp_ne (tgt := 77) dX6_isTooNear_52 (by decide) (fun c52 => ?_) (fun c52 => ?_)
      · refine e_iinc (v := ((k + 1 : Nat) : Int)) (loc' := [gR (some 74), gI s, gI (xSpc M s), gI (((k + 1 : Nat) : Int))]) dX6_isTooNear_77 (by decide) rfl (gadd_nat (by omega)) rfl ?_
        refine g_goto (tgt := 39) dX6_isTooNear_80 (by decide) ?_
        refine ih (k + 1) (by omega) ?_
        unfold anyTo
        rw [hno, Bool.false_or]
        exact decide_eq_false (by omega)
      · refine g_aload_n dX6_isTooNear_55 rfl rfl ?_
        refine p_getR (o := some 77) dX6_isTooNear_56 (fX6_16 l) (by decide) rfl (by omega) rfl ?_
        refine g_iload_n dX6_isTooNear_59 rfl rfl ?_
        refine m_iald (len := 60) (x := M 77 k) dX6_isTooNear_60 rfl ⟨by omega, by omega⟩ (by omega) (by omega) rfl ?_
        refine g_iload_n dX6_isTooNear_61 rfl rfl ?_
        refine g_icmp_ne (tgt := 77) dX6_isTooNear_62 (by decide) (fun c62 => ?_) (fun c62 => ?_)
        · refine e_iinc (v := ((k + 1 : Nat) : Int)) (loc' := [gR (some 74), gI s, gI (xSpc M s), gI (((k + 1 : Nat) : Int))]) dX6_isTooNear_77 (by decide) rfl (gadd_nat (by omega)) rfl ?_
          refine g_goto (tgt := 39) dX6_isTooNear_80 (by decide) ?_
          refine ih (k + 1) (by omega) ?_
          unfold anyTo
          rw [hno, Bool.false_or]
          exact decide_eq_false (by omega)
        · refine g_aload_n dX6_isTooNear_65 rfl rfl ?_
          refine p_getR (o := some 76) dX6_isTooNear_66 (fX6_13 l) (by decide) rfl (by omega) rfl ?_
          refine g_iload_n dX6_isTooNear_69 rfl rfl ?_
          refine m_iald (len := 60) (x := M 76 k) dX6_isTooNear_70 rfl ⟨by omega, by omega⟩ (by omega) (by omega) rfl ?_
          refine g_iload_n dX6_isTooNear_71 rfl rfl ?_
          refine g_icmp_ge (tgt := 77) dX6_isTooNear_72 (by decide) (fun c72 => ?_) (fun c72 => ?_)
          · refine e_iinc (v := ((k + 1 : Nat) : Int)) (loc' := [gR (some 74), gI s, gI (xSpc M s), gI (((k + 1 : Nat) : Int))]) dX6_isTooNear_77 (by decide) rfl (gadd_nat (by omega)) rfl ?_
            refine g_goto (tgt := 39) dX6_isTooNear_80 (by decide) ?_
            refine ih (k + 1) (by omega) ?_
            unfold anyTo
            rw [hno, Bool.false_or]
            exact decide_eq_false (by omega)
          · refine g_iconst (x := 1) dX6_isTooNear_75 (by decide) ?_
            exact g_iret dX6_isTooNear_76 (Or.inr ⟨rfl, Or.inr rfl⟩) ⟨congrArg gK1 (by unfold xNear; rw [if_pos ((anyTo_iff 60).mpr ⟨k, by omega, decide_eq_true (by omega)⟩)]), rfl⟩
  refine g_aload_n dX6_isTooNear_0 rfl rfl ?_
  refine g_iload_n dX6_isTooNear_1 rfl rfl ?_
  refine g_Vi1 dX6_isTooNear_2 (sX6_isTooNear_2 l) rfl (by show 74 < 87; omega) (Nat.le_of_ble_eq_true rfl) (gMi_to (xCnt M s) (cX6_inZones l) rfl) ?_
  refine g_bipush (x := 6) dX6_isTooNear_5 (by decide) ?_
  refine g_icmp_ge (tgt := 23) dX6_isTooNear_7 (by decide) (fun c7 => ?_) (fun c7 => ?_)
  · refine g_bipush (x := 90) dX6_isTooNear_23 (by decide) ?_
    refine g_goto (tgt := 36) dX6_isTooNear_25 (by decide) ?_
    refine g_top (y := xSpc M s) (by unfold xSpc; first | rw [if_pos c7] | rw [if_neg (by omega), if_pos c20]) ?_
    refine e_istore_n (loc' := [gR (some 74), gI s, gI (xSpc M s), gU]) dX6_isTooNear_36 rfl (by decide) rfl ?_
    refine g_iconst (x := 0) dX6_isTooNear_37 (by decide) ?_
    refine e_istore_n (loc' := [gR (some 74), gI s, gI (xSpc M s), gI 0]) dX6_isTooNear_38 rfl (by decide) rfl ?_
    exact loop 60 0 (by omega) rfl
  · refine g_sipush (x := 12000) dX6_isTooNear_10 (by decide) ?_
    refine g_aload_n dX6_isTooNear_13 rfl rfl ?_
    refine m_getI (x := M 74 15) dX6_isTooNear_14 (fX6_43 l) rfl rfl ⟨by omega, by omega⟩ rfl ?_
    refine e_idiv (v := gdiv 12000 (M 74 15)) dX6_isTooNear_17 hpl rfl ?_
    refine g_bipush (x := 90) dX6_isTooNear_18 (by decide) ?_
    refine g_icmp_ge (tgt := 28) dX6_isTooNear_20 (by decide) (fun c20 => ?_) (fun c20 => ?_)
    · refine g_sipush (x := 12000) dX6_isTooNear_28 (by decide) ?_
      refine g_aload_n dX6_isTooNear_31 rfl rfl ?_
      refine m_getI (x := M 74 15) dX6_isTooNear_32 (fX6_43 l) rfl rfl ⟨by omega, by omega⟩ rfl ?_
      refine e_idiv (v := gdiv 12000 (M 74 15)) dX6_isTooNear_35 hpl rfl ?_
      refine g_top (y := xSpc M s) (by unfold xSpc; rw [if_neg (by omega), if_neg (by omega)]) ?_
      refine e_istore_n (loc' := [gR (some 74), gI s, gI (xSpc M s), gU]) dX6_isTooNear_36 rfl (by decide) rfl ?_
      refine g_iconst (x := 0) dX6_isTooNear_37 (by decide) ?_
      refine e_istore_n (loc' := [gR (some 74), gI s, gI (xSpc M s), gI 0]) dX6_isTooNear_38 rfl (by decide) rfl ?_
      exact loop 60 0 (by omega) rfl
    · refine g_bipush (x := 90) dX6_isTooNear_23 (by decide) ?_
      refine g_goto (tgt := 36) dX6_isTooNear_25 (by decide) ?_
      refine g_top (y := xSpc M s) (by unfold xSpc; first | rw [if_pos c7] | rw [if_neg (by omega), if_pos c20]) ?_
      refine e_istore_n (loc' := [gR (some 74), gI s, gI (xSpc M s), gU]) dX6_isTooNear_36 rfl (by decide) rfl ?_
      refine g_iconst (x := 0) dX6_isTooNear_37 (by decide) ?_
      refine e_istore_n (loc' := [gR (some 74), gI s, gI (xSpc M s), gI 0]) dX6_isTooNear_38 rfl (by decide) rfl ?_
      exact loop 60 0 (by omega) rfl
set_option maxHeartbeats 1000000 in
theorem cX6_middle (l : Launch) {L : Nat} {S : sT} {M : Nat → Nat → Int} (h0 : 0 ≤ M 74 12) : gMi (gπ l) mX6_middle yX6_middle [gR (some 74)] (hS L S M) (xMid M) (hS L S M) := by
  refine gMet_of pnX6 rfl rfl rfl (Nat.le_of_ble_eq_true rfl) (gAr gAn) ?_
  show G (gπ l) mX6_middle 0 [gR (some 74), gU, gU, gU, gU, gU, gU] [] (hS L S M) 0 0 _
  have hn5 : xKept M ≤ 5 := Nat.min_le_right _ _
  have hkv : M 74 12 < 5 → M 74 12 = ((xKept M : Nat) : Int) := fun q => by unfold xKept; omega
  have hk5 : 5 ≤ M 74 12 → (5 : Int) = ((xKept M : Nat) : Int) := fun q => by unfold xKept; omega
  unfold xMid
  generalize xKept M = n at *
  have inner : ∀ (m j k : Nat), j + m = n → k < n → G (gπ l) mX6_middle 99 [gR (some 74), gI (n : Int), gI (xMidTo M n k), gI (k : Int), gI (xLess M n k), gI (xNot M n k), gI (n : Int)] [] (hS L S M) 0 0 (fun r k => r = some (some (gI (xMidTo M n n))) ∧ k = (hS L S M)) → G (gπ l) mX6_middle 35 [gR (some 74), gI (n : Int), gI (xMidTo M n k), gI (k : Int), gI (cntTo (fun j => decide (M 85 j < M 85 k)) j), gI (cntTo (fun j => decide (M 85 j ≤ M 85 k)) j), gI (j : Int)] [] (hS L S M) 0 0 (fun r k => r = some (some (gI (xMidTo M n n))) ∧ k = (hS L S M)) := by
    intro m
    induction m with
    | zero =>
      intro j k hj hkn hk9
      obtain rfl : j = n := by omega
      refine g_iload dX6_middle_35 rfl ?_
      refine g_iload_n dX6_middle_37 rfl rfl ?_
      refine g_icmp_ge (tgt := 99) dX6_middle_38 (by decide) (fun c38 => ?_) (fun c38 => absurd c38 (by omega))
      exact hk9
    | succ m ih =>
      intro j k hj hkn hk9
      refine g_iload dX6_middle_35 rfl ?_
      refine g_iload_n dX6_middle_37 rfl rfl ?_
      refine g_icmp_ge (tgt := 99) dX6_middle_38 (by decide) (fun c38 => absurd c38 (by omega)) (fun c38 => ?_)
      refine g_iload dX6_middle_41 rfl ?_
      refine g_aload_n dX6_middle_43 rfl rfl ?_
      refine p_getR (o := some 85) dX6_middle_44 (fX6_40 l) (by decide) rfl (by omega) rfl ?_
      refine g_iload dX6_middle_47 rfl ?_
      refine m_iald (len := 5) (x := M 85 j) dX6_middle_49 rfl ⟨by omega, by omega⟩ (by omega) (by omega) rfl ?_
      refine g_aload_n dX6_middle_50 rfl rfl ?_
      refine p_getR (o := some 85) dX6_middle_51 (fX6_40 l) (by decide) rfl (by omega) rfl ?_
      refine g_iload_n dX6_middle_54 rfl rfl ?_
      refine m_iald (len := 5) (x := M 85 k) dX6_middle_55 rfl ⟨by omega, by omega⟩ (by omega) (by omega) rfl ?_
      refine g_icmp_ge (tgt := 63) dX6_middle_56 (by decide) (fun c56 => ?_) (fun c56 => ?_)
      · refine g_iconst (x := 0) dX6_middle_63 (by decide) ?_
        refine e_iadd (v := cntTo (fun j => decide (M 85 j < M 85 k)) j + 0) dX6_middle_64 (gadd_eq (by have := cntTo_nn (p := (fun j => decide (M 85 j < M 85 k))) j; omega) (by have := cntTo_nn (p := (fun j => decide (M 85 j < M 85 k))) j; omega)) ?_
        refine e_istore (loc' := [gR (some 74), gI (n : Int), gI (xMidTo M n k), gI (k : Int), gI (cntTo (fun j => decide (M 85 j < M 85 k)) j + 0), gI (cntTo (fun j => decide (M 85 j ≤ M 85 k)) j), gI (j : Int)]) dX6_middle_65 (by decide) rfl ?_
        refine g_iload dX6_middle_67 rfl ?_
        refine g_aload_n dX6_middle_69 rfl rfl ?_
        refine p_getR (o := some 85) dX6_middle_70 (fX6_40 l) (by decide) rfl (by omega) rfl ?_
        refine g_iload dX6_middle_73 rfl ?_
        refine m_iald (len := 5) (x := M 85 j) dX6_middle_75 rfl ⟨by omega, by omega⟩ (by omega) (by omega) rfl ?_
        refine g_aload_n dX6_middle_76 rfl rfl ?_
        refine p_getR (o := some 85) dX6_middle_77 (fX6_40 l) (by decide) rfl (by omega) rfl ?_
        refine g_iload_n dX6_middle_80 rfl rfl ?_
        refine m_iald (len := 5) (x := M 85 k) dX6_middle_81 rfl ⟨by omega, by omega⟩ (by omega) (by omega) rfl ?_
        refine g_icmp_gt (tgt := 89) dX6_middle_82 (by decide) (fun c82 => ?_) (fun c82 => ?_)
        · refine g_iconst (x := 0) dX6_middle_89 (by decide) ?_
          refine e_iadd (v := cntTo (fun j => decide (M 85 j ≤ M 85 k)) j + 0) dX6_middle_90 (gadd_eq (by have := cntTo_nn (p := (fun j => decide (M 85 j ≤ M 85 k))) j; omega) (by have := cntTo_nn (p := (fun j => decide (M 85 j ≤ M 85 k))) j; omega)) ?_
          refine e_istore (loc' := [gR (some 74), gI (n : Int), gI (xMidTo M n k), gI (k : Int), gI (cntTo (fun j => decide (M 85 j < M 85 k)) j + 0), gI (cntTo (fun j => decide (M 85 j ≤ M 85 k)) j + 0), gI (j : Int)]) dX6_middle_91 (by decide) rfl ?_
          refine e_iinc (v := ((j + 1 : Nat) : Int)) (loc' := [gR (some 74), gI (n : Int), gI (xMidTo M n k), gI (k : Int), gI (cntTo (fun j => decide (M 85 j < M 85 k)) j + 0), gI (cntTo (fun j => decide (M 85 j ≤ M 85 k)) j + 0), gI (((j + 1 : Nat) : Int))]) dX6_middle_93 (by decide) rfl (gadd_nat (by omega)) rfl ?_
          refine g_goto (tgt := 35) dX6_middle_96 (by decide) ?_
          refine g_eq (loc' := [gR (some 74), gI (n : Int), gI (xMidTo M n k), gI (k : Int), gI (cntTo (fun j => decide (M 85 j < M 85 k)) (j + 1)), gI (cntTo (fun j => decide (M 85 j ≤ M 85 k)) (j + 1)), gI ((j + 1 : Nat) : Int)]) ?_ rfl (ih (j + 1) k (by omega) hkn hk9)
          simp [cntTo, Int.not_lt.mpr c56, Int.not_le.mpr c82]
        · refine g_iconst (x := 1) dX6_middle_85 (by decide) ?_
          refine g_goto (tgt := 90) dX6_middle_86 (by decide) ?_
          refine e_iadd (v := cntTo (fun j => decide (M 85 j ≤ M 85 k)) j + 1) dX6_middle_90 (gadd_eq (by have := cntTo_nn (p := (fun j => decide (M 85 j ≤ M 85 k))) j; omega) (by have := cntTo_nn (p := (fun j => decide (M 85 j ≤ M 85 k))) j; omega)) ?_
          refine e_istore (loc' := [gR (some 74), gI (n : Int), gI (xMidTo M n k), gI (k : Int), gI (cntTo (fun j => decide (M 85 j < M 85 k)) j + 0), gI (cntTo (fun j => decide (M 85 j ≤ M 85 k)) j + 1), gI (j : Int)]) dX6_middle_91 (by decide) rfl ?_
          refine e_iinc (v := ((j + 1 : Nat) : Int)) (loc' := [gR (some 74), gI (n : Int), gI (xMidTo M n k), gI (k : Int), gI (cntTo (fun j => decide (M 85 j < M 85 k)) j + 0), gI (cntTo (fun j => decide (M 85 j ≤ M 85 k)) j + 1), gI (((j + 1 : Nat) : Int))]) dX6_middle_93 (by decide) rfl (gadd_nat (by omega)) rfl ?_
          refine g_goto (tgt := 35) dX6_middle_96 (by decide) ?_
          refine g_eq (loc' := [gR (some 74), gI (n : Int), gI (xMidTo M n k), gI (k : Int), gI (cntTo (fun j => decide (M 85 j < M 85 k)) (j + 1)), gI (cntTo (fun j => decide (M 85 j ≤ M 85 k)) (j + 1)), gI ((j + 1 : Nat) : Int)]) ?_ rfl (ih (j + 1) k (by omega) hkn hk9)
          simp [cntTo, Int.not_lt.mpr c56, c82]
      · refine g_iconst (x := 1) dX6_middle_59 (by decide) ?_
        refine g_goto (tgt := 64) dX6_middle_60 (by decide) ?_
        refine e_iadd (v := cntTo (fun j => decide (M 85 j < M 85 k)) j + 1) dX6_middle_64 (gadd_eq (by have := cntTo_nn (p := (fun j => decide (M 85 j < M 85 k))) j; omega) (by have := cntTo_nn (p := (fun j => decide (M 85 j < M 85 k))) j; omega)) ?_
        refine e_istore (loc' := [gR (some 74), gI (n : Int), gI (xMidTo M n k), gI (k : Int), gI (cntTo (fun j => decide (M 85 j < M 85 k)) j + 1), gI (cntTo (fun j => decide (M 85 j ≤ M 85 k)) j), gI (j : Int)]) dX6_middle_65 (by decide) rfl ?_
        refine g_iload dX6_middle_67 rfl ?_
        refine g_aload_n dX6_middle_69 rfl rfl ?_
        refine p_getR (o := some 85) dX6_middle_70 (fX6_40 l) (by decide) rfl (by omega) rfl ?_
        refine g_iload dX6_middle_73 rfl ?_
        refine m_iald (len := 5) (x := M 85 j) dX6_middle_75 rfl ⟨by omega, by omega⟩ (by omega) (by omega) rfl ?_
        refine g_aload_n dX6_middle_76 rfl rfl ?_
        refine p_getR (o := some 85) dX6_middle_77 (fX6_40 l) (by decide) rfl (by omega) rfl ?_
        refine g_iload_n dX6_middle_80 rfl rfl ?_
        refine m_iald (len := 5) (x := M 85 k) dX6_middle_81 rfl ⟨by omega, by omega⟩ (by omega) (by omega) rfl ?_
        refine g_icmp_gt (tgt := 89) dX6_middle_82 (by decide) (fun c82 => ?_) (fun c82 => ?_)
        · refine g_iconst (x := 0) dX6_middle_89 (by decide) ?_
          refine e_iadd (v := cntTo (fun j => decide (M 85 j ≤ M 85 k)) j + 0) dX6_middle_90 (gadd_eq (by have := cntTo_nn (p := (fun j => decide (M 85 j ≤ M 85 k))) j; omega) (by have := cntTo_nn (p := (fun j => decide (M 85 j ≤ M 85 k))) j; omega)) ?_
          refine e_istore (loc' := [gR (some 74), gI (n : Int), gI (xMidTo M n k), gI (k : Int), gI (cntTo (fun j => decide (M 85 j < M 85 k)) j + 1), gI (cntTo (fun j => decide (M 85 j ≤ M 85 k)) j + 0), gI (j : Int)]) dX6_middle_91 (by decide) rfl ?_
          refine e_iinc (v := ((j + 1 : Nat) : Int)) (loc' := [gR (some 74), gI (n : Int), gI (xMidTo M n k), gI (k : Int), gI (cntTo (fun j => decide (M 85 j < M 85 k)) j + 1), gI (cntTo (fun j => decide (M 85 j ≤ M 85 k)) j + 0), gI (((j + 1 : Nat) : Int))]) dX6_middle_93 (by decide) rfl (gadd_nat (by omega)) rfl ?_
          refine g_goto (tgt := 35) dX6_middle_96 (by decide) ?_
          refine g_eq (loc' := [gR (some 74), gI (n : Int), gI (xMidTo M n k), gI (k : Int), gI (cntTo (fun j => decide (M 85 j < M 85 k)) (j + 1)), gI (cntTo (fun j => decide (M 85 j ≤ M 85 k)) (j + 1)), gI ((j + 1 : Nat) : Int)]) ?_ rfl (ih (j + 1) k (by omega) hkn hk9)
          simp [cntTo, c56, Int.not_le.mpr c82]
        · refine g_iconst (x := 1) dX6_middle_85 (by decide) ?_
          refine g_goto (tgt := 90) dX6_middle_86 (by decide) ?_
          refine e_iadd (v := cntTo (fun j => decide (M 85 j ≤ M 85 k)) j + 1) dX6_middle_90 (gadd_eq (by have := cntTo_nn (p := (fun j => decide (M 85 j ≤ M 85 k))) j; omega) (by have := cntTo_nn (p := (fun j => decide (M 85 j ≤ M 85 k))) j; omega)) ?_
          refine e_istore (loc' := [gR (some 74), gI (n : Int), gI (xMidTo M n k), gI (k : Int), gI (cntTo (fun j => decide (M 85 j < M 85 k)) j + 1), gI (cntTo (fun j => decide (M 85 j ≤ M 85 k)) j + 1), gI (j : Int)]) dX6_middle_91 (by decide) rfl ?_
          refine e_iinc (v := ((j + 1 : Nat) : Int)) (loc' := [gR (some 74), gI (n : Int), gI (xMidTo M n k), gI (k : Int), gI (cntTo (fun j => decide (M 85 j < M 85 k)) j + 1), gI (cntTo (fun j => decide (M 85 j ≤ M 85 k)) j + 1), gI (((j + 1 : Nat) : Int))]) dX6_middle_93 (by decide) rfl (gadd_nat (by omega)) rfl ?_
          refine g_goto (tgt := 35) dX6_middle_96 (by decide) ?_
          refine g_eq (loc' := [gR (some 74), gI (n : Int), gI (xMidTo M n k), gI (k : Int), gI (cntTo (fun j => decide (M 85 j < M 85 k)) (j + 1)), gI (cntTo (fun j => decide (M 85 j ≤ M 85 k)) (j + 1)), gI ((j + 1 : Nat) : Int)]) ?_ rfl (ih (j + 1) k (by omega) hkn hk9)
          simp [cntTo, c56, c82]
  have loop : ∀ (m k : Nat), k + m = n → ∀ e4 e5 e6 : gV, G (gπ l) mX6_middle 21 [gR (some 74), gI (n : Int), gI (xMidTo M n k), gI (k : Int), e4, e5, e6] [] (hS L S M) 0 0 (fun r k => r = some (some (gI (xMidTo M n n))) ∧ k = (hS L S M)) := by
    intro m
    induction m with
    | zero =>
      intro k hk e4 e5 e6
      refine g_iload_n dX6_middle_21 rfl rfl ?_
      refine g_iload_n dX6_middle_22 rfl rfl ?_
      refine g_icmp_ge (tgt := 128) dX6_middle_23 (by decide) (fun c23 => ?_) (fun c23 => absurd c23 (by omega))
      refine g_iload_n dX6_middle_128 rfl rfl ?_
      exact g_iret dX6_middle_129 (Or.inl rfl) ⟨by rw [show k = n by omega], rfl⟩
    | succ m ih =>
      intro k hk e4 e5 e6
      refine g_iload_n dX6_middle_21 rfl rfl ?_
      refine g_iload_n dX6_middle_22 rfl rfl ?_
      refine g_icmp_ge (tgt := 128) dX6_middle_23 (by decide) (fun c23 => absurd c23 (by omega)) (fun c23 => ?_)
      refine g_iconst (x := 0) dX6_middle_26 (by decide) ?_
      refine e_istore (loc' := [gR (some 74), gI (n : Int), gI (xMidTo M n k), gI (k : Int), gI 0, e5, e6]) dX6_middle_27 (by decide) rfl ?_
      refine g_iconst (x := 0) dX6_middle_29 (by decide) ?_
      refine e_istore (loc' := [gR (some 74), gI (n : Int), gI (xMidTo M n k), gI (k : Int), gI 0, gI 0, e6]) dX6_middle_30 (by decide) rfl ?_
      refine g_iconst (x := 0) dX6_middle_32 (by decide) ?_
      refine e_istore (loc' := [gR (some 74), gI (n : Int), gI (xMidTo M n k), gI (k : Int), gI 0, gI 0, gI 0]) dX6_middle_33 (by decide) rfl ?_
      refine inner n 0 k (by omega) (by omega) ?_
      refine g_iload dX6_middle_99 rfl ?_
      refine g_iload_n dX6_middle_101 rfl rfl ?_
      refine g_iconst (x := 2) dX6_middle_102 (by decide) ?_
      refine e_idiv (v := ((n / 2 : Nat) : Int)) dX6_middle_103 (by decide) (by rw [gdiv_eq (by omega) (by omega) (by omega) (by omega)]; omega) ?_
      refine g_icmp_gt (tgt := 122) dX6_middle_104 (by decide) (fun c104 => ?_) (fun c104 => ?_)
      · refine e_iinc (v := ((k + 1 : Nat) : Int)) (loc' := [gR (some 74), gI (n : Int), gI (xMidTo M n k), gI (((k + 1 : Nat) : Int)), gI (xLess M n k), gI (xNot M n k), gI (n : Int)]) dX6_middle_122 (by decide) rfl (gadd_nat (by omega)) rfl ?_
        refine g_goto (tgt := 21) dX6_middle_125 (by decide) ?_
        refine g_eq (loc' := [gR (some 74), gI (n : Int), gI (xMidTo M n (k + 1)), gI ((k + 1 : Nat) : Int), gI (xLess M n k), gI (xNot M n k), gI (n : Int)]) (by rw [xMidTo, if_neg (by omega)]) rfl (ih (k + 1) (by omega) _ _ _)
      · refine g_iload_n dX6_middle_107 rfl rfl ?_
        refine g_iconst (x := 2) dX6_middle_108 (by decide) ?_
        refine e_idiv (v := ((n / 2 : Nat) : Int)) dX6_middle_109 (by decide) (by rw [gdiv_eq (by omega) (by omega) (by omega) (by omega)]; omega) ?_
        refine g_iload dX6_middle_110 rfl ?_
        refine g_icmp_ge (tgt := 122) dX6_middle_112 (by decide) (fun c112 => ?_) (fun c112 => ?_)
        · refine e_iinc (v := ((k + 1 : Nat) : Int)) (loc' := [gR (some 74), gI (n : Int), gI (xMidTo M n k), gI (((k + 1 : Nat) : Int)), gI (xLess M n k), gI (xNot M n k), gI (n : Int)]) dX6_middle_122 (by decide) rfl (gadd_nat (by omega)) rfl ?_
          refine g_goto (tgt := 21) dX6_middle_125 (by decide) ?_
          refine g_eq (loc' := [gR (some 74), gI (n : Int), gI (xMidTo M n (k + 1)), gI ((k + 1 : Nat) : Int), gI (xLess M n k), gI (xNot M n k), gI (n : Int)]) (by rw [xMidTo, if_neg (by omega)]) rfl (ih (k + 1) (by omega) _ _ _)
        · refine g_aload_n dX6_middle_115 rfl rfl ?_
          refine p_getR (o := some 85) dX6_middle_116 (fX6_40 l) (by decide) rfl (by omega) rfl ?_
          refine g_iload_n dX6_middle_119 rfl rfl ?_
          refine m_iald (len := 5) (x := M 85 k) dX6_middle_120 rfl ⟨by omega, by omega⟩ (by omega) (by omega) rfl ?_
          refine e_istore_n (loc' := [gR (some 74), gI (n : Int), gI (M 85 k), gI (k : Int), gI (xLess M n k), gI (xNot M n k), gI (n : Int)]) dX6_middle_121 rfl (by decide) rfl ?_
          refine e_iinc (v := ((k + 1 : Nat) : Int)) (loc' := [gR (some 74), gI (n : Int), gI (M 85 k), gI (((k + 1 : Nat) : Int)), gI (xLess M n k), gI (xNot M n k), gI (n : Int)]) dX6_middle_122 (by decide) rfl (gadd_nat (by omega)) rfl ?_
          refine g_goto (tgt := 21) dX6_middle_125 (by decide) ?_
          refine g_eq (loc' := [gR (some 74), gI (n : Int), gI (xMidTo M n (k + 1)), gI ((k + 1 : Nat) : Int), gI (xLess M n k), gI (xNot M n k), gI (n : Int)]) (by rw [xMidTo, if_pos ⟨by omega, by omega⟩]) rfl (ih (k + 1) (by omega) _ _ _)
  refine g_aload_n dX6_middle_0 rfl rfl ?_
  refine m_getI (x := M 74 12) dX6_middle_1 (fX6_82 l) rfl rfl ⟨by omega, by omega⟩ rfl ?_
  refine g_iconst (x := 5) dX6_middle_4 (by decide) ?_
  refine g_icmp_ge (tgt := 15) dX6_middle_5 (by decide) (fun c5 => ?_) (fun c5 => ?_)
  · refine g_iconst (x := 5) dX6_middle_15 (by decide) ?_
    refine g_top (y := (n : Int)) (hk5 c5) ?_
    refine e_istore_n (loc' := [gR (some 74), gI (n : Int), gU, gU, gU, gU, gU]) dX6_middle_16 rfl (by decide) rfl ?_
    refine g_iconst (x := 0) dX6_middle_17 (by decide) ?_
    refine e_istore_n (loc' := [gR (some 74), gI (n : Int), gI 0, gU, gU, gU, gU]) dX6_middle_18 rfl (by decide) rfl ?_
    refine g_iconst (x := 0) dX6_middle_19 (by decide) ?_
    refine e_istore_n (loc' := [gR (some 74), gI (n : Int), gI 0, gI 0, gU, gU, gU]) dX6_middle_20 rfl (by decide) rfl ?_
    exact loop n 0 (by omega) gU gU gU
  · refine g_aload_n dX6_middle_8 rfl rfl ?_
    refine m_getI (x := M 74 12) dX6_middle_9 (fX6_82 l) rfl rfl ⟨by omega, by omega⟩ rfl ?_
    refine g_goto (tgt := 16) dX6_middle_12 (by decide) ?_
    refine g_top (y := (n : Int)) (hkv c5) ?_
    refine e_istore_n (loc' := [gR (some 74), gI (n : Int), gU, gU, gU, gU, gU]) dX6_middle_16 rfl (by decide) rfl ?_
    refine g_iconst (x := 0) dX6_middle_17 (by decide) ?_
    refine e_istore_n (loc' := [gR (some 74), gI (n : Int), gI 0, gU, gU, gU, gU]) dX6_middle_18 rfl (by decide) rfl ?_
    refine g_iconst (x := 0) dX6_middle_19 (by decide) ?_
    refine e_istore_n (loc' := [gR (some 74), gI (n : Int), gI 0, gI 0, gU, gU, gU]) dX6_middle_20 rfl (by decide) rfl ?_
    exact loop n 0 (by omega) gU gU gU
set_option maxHeartbeats 1000000 in
theorem cX6_clamp (l : Launch) {L : Nat} {S : sT} {M : Nat → Nat → Int} (hm : Wm M) {c : Nat} (hc : c < 60) : gMv (gπ l) mX6_clamp yX6_clamp [gR (some 74), gI (c : Int)] (hS L S M) (hS L S (xClamp M c)) := by
  refine gMet_of pnX6 rfl rfl rfl (Nat.le_of_ble_eq_true rfl) (gAr (gAi gAn)) ?_
  show G (gπ l) mX6_clamp 0 [gR (some 74), gI (c : Int), gU, gU, gU, gU, gU] [] (hS L S M) 0 0 _
  refine g_aload_n dX6_clamp_0 rfl rfl ?_
  refine p_getR (o := some 79) dX6_clamp_1 (fX6_22 l) (by decide) rfl (by omega) rfl ?_
  refine g_iload_n dX6_clamp_4 rfl rfl ?_
  refine g_dup2 dX6_clamp_5 ?_
  refine m_iald (len := 60) (x := M 79 c) dX6_clamp_6 rfl ⟨by omega, by omega⟩ (by omega) (by omega) rfl ?_
  refine g_iconst (x := 1) dX6_clamp_7 (by decide) ?_
  refine e_iadd (v := gadd (M 79 c) 1) dX6_clamp_8 rfl ?_
  refine m_iast (len := 60) dX6_clamp_9 rfl ⟨by omega, by omega⟩ (by omega) (by omega) ?_
  refine g_aload_n dX6_clamp_10 rfl rfl ?_
  refine p_getR (o := some 80) dX6_clamp_11 (fX6_25 l) (by decide) rfl (by omega) rfl ?_
  refine g_iload_n dX6_clamp_14 rfl rfl ?_
  refine m_iald (len := 60) (x := M 80 c) dX6_clamp_15 rfl ⟨by omega, by omega⟩ (by omega) (by omega) (up_cell (by omega)) ?_
  refine g_if_lt (tgt := 23) dX6_clamp_16 (by decide) (fun c16 => ?_) (fun c16 => ?_)
  · refine g_iconst (x := 0) dX6_clamp_23 (by decide) ?_
    refine e_istore_n (loc' := [gR (some 74), gI (c : Int), gI 0, gU, gU, gU, gU]) dX6_clamp_24 rfl (by decide) rfl ?_
    refine g_iload_n dX6_clamp_25 rfl rfl ?_
    refine g_if_ne (tgt := 41) dX6_clamp_26 (by decide) (fun c26 => absurd c26 (by omega)) (fun c26 => ?_)
    refine g_aload_n dX6_clamp_29 rfl rfl ?_
    refine p_getR (o := some 79) dX6_clamp_30 (fX6_22 l) (by decide) rfl (by omega) rfl ?_
    refine g_iload_n dX6_clamp_33 rfl rfl ?_
    refine m_iald (len := 60) (x := gadd (M 79 c) 1) dX6_clamp_34 rfl ⟨by omega, by omega⟩ (by omega) (by omega) up_same ?_
    refine g_bipush (x := 40) dX6_clamp_35 (by decide) ?_
    refine g_icmp_ge (tgt := 41) dX6_clamp_37 (by decide) (fun c37 => ?_) (fun c37 => ?_)
    · refine g_aload_n dX6_clamp_41 rfl rfl ?_
      refine p_getR (o := some 80) dX6_clamp_42 (fX6_25 l) (by decide) rfl (by omega) rfl ?_
      refine g_iload_n dX6_clamp_45 rfl rfl ?_
      refine m_iald (len := 60) (x := M 80 c) dX6_clamp_46 rfl ⟨by omega, by omega⟩ (by omega) (by omega) (up_cell (by omega)) ?_
      refine g_aload_n dX6_clamp_47 rfl rfl ?_
      refine p_getR (o := some 81) dX6_clamp_48 (fX6_28 l) (by decide) rfl (by omega) rfl ?_
      refine g_iload_n dX6_clamp_51 rfl rfl ?_
      refine m_iald (len := 60) (x := M 81 c) dX6_clamp_52 rfl ⟨by omega, by omega⟩ (by omega) (by omega) (up_cell (by omega)) ?_
      refine g_icmp_le (tgt := 65) dX6_clamp_53 (by decide) (fun c53 => ?_) (fun c53 => ?_)
      · refine g_aload_n dX6_clamp_65 rfl rfl ?_
        refine p_getR (o := some 81) dX6_clamp_66 (fX6_28 l) (by decide) rfl (by omega) rfl ?_
        refine g_iload_n dX6_clamp_69 rfl rfl ?_
        refine m_iald (len := 60) (x := M 81 c) dX6_clamp_70 rfl ⟨by omega, by omega⟩ (by omega) (by omega) (up_cell (by omega)) ?_
        refine e_istore_n (loc' := [gR (some 74), gI (c : Int), gI 0, gI (M 81 c), gU, gU, gU]) dX6_clamp_71 rfl (by decide) rfl ?_
        refine g_aload_n dX6_clamp_72 rfl rfl ?_
        refine p_getR (o := some 80) dX6_clamp_73 (fX6_25 l) (by decide) rfl (by omega) rfl ?_
        refine g_iload_n dX6_clamp_76 rfl rfl ?_
        refine m_iald (len := 60) (x := M 80 c) dX6_clamp_77 rfl ⟨by omega, by omega⟩ (by omega) (by omega) (up_cell (by omega)) ?_
        refine g_aload_n dX6_clamp_78 rfl rfl ?_
        refine p_getR (o := some 81) dX6_clamp_79 (fX6_28 l) (by decide) rfl (by omega) rfl ?_
        refine g_iload_n dX6_clamp_82 rfl rfl ?_
        refine m_iald (len := 60) (x := M 81 c) dX6_clamp_83 rfl ⟨by omega, by omega⟩ (by omega) (by omega) (up_cell (by omega)) ?_
        refine g_icmp_le (tgt := 96) dX6_clamp_84 (by decide) (fun c84 => ?_) (fun c84 => absurd c84 (by omega))
        refine g_aload_n dX6_clamp_96 rfl rfl ?_
        refine p_getR (o := some 80) dX6_clamp_97 (fX6_25 l) (by decide) rfl (by omega) rfl ?_
        refine g_iload_n dX6_clamp_100 rfl rfl ?_
        refine m_iald (len := 60) (x := M 80 c) dX6_clamp_101 rfl ⟨by omega, by omega⟩ (by omega) (by omega) (up_cell (by omega)) ?_
        refine e_istore (loc' := [gR (some 74), gI (c : Int), gI 0, gI (M 81 c), gI (M 80 c), gU, gU]) dX6_clamp_102 (by decide) rfl ?_
        refine g_iload_n dX6_clamp_104 rfl rfl ?_
        refine g_if_eq (tgt := 120) dX6_clamp_105 (by decide) (fun c105 => ?_) (fun c105 => absurd c105 (by omega))
        refine g_iconst (x := 0) dX6_clamp_120 (by decide) ?_
        refine e_istore (loc' := [gR (some 74), gI (c : Int), gI 0, gI (M 81 c), gI (M 80 c), gI 0, gU]) dX6_clamp_121 (by decide) rfl ?_
        refine g_iload dX6_clamp_123 rfl ?_
        refine g_if_eq (tgt := 145) dX6_clamp_125 (by decide) (fun c125 => ?_) (fun c125 => absurd c125 (by omega))
        refine g_iconst (x := 0) dX6_clamp_145 (by decide) ?_
        refine e_istore (loc' := [gR (some 74), gI (c : Int), gI 0, gI (M 81 c), gI (M 80 c), gI 0, gI 0]) dX6_clamp_146 (by decide) rfl ?_
        refine g_aload_n dX6_clamp_148 rfl rfl ?_
        refine p_getR (o := some 79) dX6_clamp_149 (fX6_22 l) (by decide) rfl (by omega) rfl ?_
        refine g_iload_n dX6_clamp_152 rfl rfl ?_
        refine g_iconst (x := -1) dX6_clamp_153 (by decide) ?_
        refine m_iast (len := 60) dX6_clamp_154 rfl ⟨by omega, by omega⟩ (by omega) (by omega) ?_
        refine g_aload_n dX6_clamp_155 rfl rfl ?_
        refine p_getR (o := some 78) dX6_clamp_156 (fX6_19 l) (by decide) rfl (by omega) rfl ?_
        refine g_iload_n dX6_clamp_159 rfl rfl ?_
        refine g_iconst (x := 0) dX6_clamp_160 (by decide) ?_
        refine m_iast (len := 60) dX6_clamp_161 rfl ⟨by omega, by omega⟩ (by omega) (by omega) ?_
        refine g_iload dX6_clamp_162 rfl ?_
        refine g_if_eq (tgt := 192) dX6_clamp_164 (by decide) (fun c164 => ?_) (fun c164 => absurd c164 (by omega))
        refine g_aload_n dX6_clamp_192 rfl rfl ?_
        refine p_getR (o := some 83) dX6_clamp_193 (fX6_34 l) (by decide) rfl (by omega) rfl ?_
        refine g_iload_n dX6_clamp_196 rfl rfl ?_
        refine g_iload_n dX6_clamp_197 rfl rfl ?_
        refine g_if_ne (tgt := 205) dX6_clamp_198 (by decide) (fun c198 => absurd c198 (by omega)) (fun c198 => ?_)
        refine g_iconst (x := 3) dX6_clamp_201 (by decide) ?_
        refine g_goto (tgt := 215) dX6_clamp_202 (by decide) ?_
        refine m_iast (len := 60) dX6_clamp_215 rfl ⟨by omega, by omega⟩ (by omega) (by omega) ?_
        refine g_aload_n dX6_clamp_216 rfl rfl ?_
        refine g_aload_n dX6_clamp_217 rfl rfl ?_
        refine m_getI (x := M 74 14) dX6_clamp_218 (fX6_73 l) rfl rfl ⟨by omega, by omega⟩ (by simp [up]) ?_
        refine g_iconst (x := 1) dX6_clamp_221 (by decide) ?_
        refine e_ior (v := gor (M 74 14) 1) dX6_clamp_222 rfl ?_
        refine m_putI dX6_clamp_223 (fX6_73 l) gTX6 ⟨rfl, rfl⟩ rfl rfl ⟨by omega, by omega⟩ ?_
        refine g_aload_n dX6_clamp_226 rfl rfl ?_
        refine m_getI (x := M 74 10) dX6_clamp_227 (fX6_79 l) rfl rfl ⟨by omega, by omega⟩ (by simp [up]) ?_
        refine g_bipush (x := 20) dX6_clamp_230 (by decide) ?_
        refine g_icmp_ge (tgt := 243) dX6_clamp_232 (by decide) (fun c232 => ?_) (fun c232 => ?_)
        · refine g_aload_n dX6_clamp_243 rfl rfl ?_
          refine g_aload_n dX6_clamp_244 rfl rfl ?_
          refine m_getI (x := gor (M 74 14) 1) dX6_clamp_245 (fX6_73 l) rfl rfl ⟨by omega, by omega⟩ (by simp [up]) ?_
          refine g_iconst (x := 2) dX6_clamp_248 (by decide) ?_
          refine e_ior (v := gor (gor (M 74 14) 1) 2) dX6_clamp_249 rfl ?_
          refine m_putI dX6_clamp_250 (fX6_73 l) gTX6 ⟨rfl, rfl⟩ rfl rfl ⟨by omega, by omega⟩ ?_
          exact g_vret dX6_clamp_253 rfl ⟨rfl, congrArg (hS L S) (by rw [xClamp, if_pos c16, if_neg (by omega), xFail, show xDone M c 74 10 = M 74 10 from by simp [up, xDone], show xDone M c 74 14 = M 74 14 from by simp [up, xDone], if_neg (by omega)]; first | done | rfl)⟩
        · refine g_aload_n dX6_clamp_235 rfl rfl ?_
          refine g_iload_n dX6_clamp_236 rfl rfl ?_
          refine g_Vv1 dX6_clamp_237 (sX6_clamp_237 l) rfl (by show 74 < 87; omega) (Nat.le_of_ble_eq_true rfl) (cX6_toSiding l (M := up (up (up (up (up M 79 c (gadd (M 79 c) 1)) 79 c (-1)) 78 c 0) 83 c 3) 74 14 (gor (M 74 14) 1)) hc (by rw [show (up (up (up (up (up M 79 c (gadd (M 79 c) 1)) 79 c (-1)) 78 c 0) 83 c 3) 74 14 (gor (M 74 14) 1)) 74 10 = M 74 10 from by simp [up]]; exact hm.1.1) (by rw [show (up (up (up (up (up M 79 c (gadd (M 79 c) 1)) 79 c (-1)) 78 c 0) 83 c 3) 74 14 (gor (M 74 14) 1)) 74 10 = M 74 10 from by simp [up]]; exact c232)) ?_
          refine g_goto (tgt := 253) dX6_clamp_240 (by decide) ?_
          exact g_vret dX6_clamp_253 rfl ⟨rfl, congrArg (hS L S) (by rw [xClamp, if_pos c16, if_neg (by omega), xFail, show xDone M c 74 10 = M 74 10 from by simp [up, xDone], show xDone M c 74 14 = M 74 14 from by simp [up, xDone], if_pos c232]; first | done | rfl)⟩
      · refine g_aload_n dX6_clamp_56 rfl rfl ?_
        refine p_getR (o := some 80) dX6_clamp_57 (fX6_25 l) (by decide) rfl (by omega) rfl ?_
        refine g_iload_n dX6_clamp_60 rfl rfl ?_
        refine m_iald (len := 60) (x := M 80 c) dX6_clamp_61 rfl ⟨by omega, by omega⟩ (by omega) (by omega) (up_cell (by omega)) ?_
        refine g_goto (tgt := 71) dX6_clamp_62 (by decide) ?_
        refine e_istore_n (loc' := [gR (some 74), gI (c : Int), gI 0, gI (M 80 c), gU, gU, gU]) dX6_clamp_71 rfl (by decide) rfl ?_
        refine g_aload_n dX6_clamp_72 rfl rfl ?_
        refine p_getR (o := some 80) dX6_clamp_73 (fX6_25 l) (by decide) rfl (by omega) rfl ?_
        refine g_iload_n dX6_clamp_76 rfl rfl ?_
        refine m_iald (len := 60) (x := M 80 c) dX6_clamp_77 rfl ⟨by omega, by omega⟩ (by omega) (by omega) (up_cell (by omega)) ?_
        refine g_aload_n dX6_clamp_78 rfl rfl ?_
        refine p_getR (o := some 81) dX6_clamp_79 (fX6_28 l) (by decide) rfl (by omega) rfl ?_
        refine g_iload_n dX6_clamp_82 rfl rfl ?_
        refine m_iald (len := 60) (x := M 81 c) dX6_clamp_83 rfl ⟨by omega, by omega⟩ (by omega) (by omega) (up_cell (by omega)) ?_
        refine g_icmp_le (tgt := 96) dX6_clamp_84 (by decide) (fun c84 => absurd c84 (by omega)) (fun c84 => ?_)
        refine g_aload_n dX6_clamp_87 rfl rfl ?_
        refine p_getR (o := some 81) dX6_clamp_88 (fX6_28 l) (by decide) rfl (by omega) rfl ?_
        refine g_iload_n dX6_clamp_91 rfl rfl ?_
        refine m_iald (len := 60) (x := M 81 c) dX6_clamp_92 rfl ⟨by omega, by omega⟩ (by omega) (by omega) (up_cell (by omega)) ?_
        refine g_goto (tgt := 102) dX6_clamp_93 (by decide) ?_
        refine e_istore (loc' := [gR (some 74), gI (c : Int), gI 0, gI (M 80 c), gI (M 81 c), gU, gU]) dX6_clamp_102 (by decide) rfl ?_
        refine g_iload_n dX6_clamp_104 rfl rfl ?_
        refine g_if_eq (tgt := 120) dX6_clamp_105 (by decide) (fun c105 => ?_) (fun c105 => absurd c105 (by omega))
        refine g_iconst (x := 0) dX6_clamp_120 (by decide) ?_
        refine e_istore (loc' := [gR (some 74), gI (c : Int), gI 0, gI (M 80 c), gI (M 81 c), gI 0, gU]) dX6_clamp_121 (by decide) rfl ?_
        refine g_iload dX6_clamp_123 rfl ?_
        refine g_if_eq (tgt := 145) dX6_clamp_125 (by decide) (fun c125 => ?_) (fun c125 => absurd c125 (by omega))
        refine g_iconst (x := 0) dX6_clamp_145 (by decide) ?_
        refine e_istore (loc' := [gR (some 74), gI (c : Int), gI 0, gI (M 80 c), gI (M 81 c), gI 0, gI 0]) dX6_clamp_146 (by decide) rfl ?_
        refine g_aload_n dX6_clamp_148 rfl rfl ?_
        refine p_getR (o := some 79) dX6_clamp_149 (fX6_22 l) (by decide) rfl (by omega) rfl ?_
        refine g_iload_n dX6_clamp_152 rfl rfl ?_
        refine g_iconst (x := -1) dX6_clamp_153 (by decide) ?_
        refine m_iast (len := 60) dX6_clamp_154 rfl ⟨by omega, by omega⟩ (by omega) (by omega) ?_
        refine g_aload_n dX6_clamp_155 rfl rfl ?_
        refine p_getR (o := some 78) dX6_clamp_156 (fX6_19 l) (by decide) rfl (by omega) rfl ?_
        refine g_iload_n dX6_clamp_159 rfl rfl ?_
        refine g_iconst (x := 0) dX6_clamp_160 (by decide) ?_
        refine m_iast (len := 60) dX6_clamp_161 rfl ⟨by omega, by omega⟩ (by omega) (by omega) ?_
        refine g_iload dX6_clamp_162 rfl ?_
        refine g_if_eq (tgt := 192) dX6_clamp_164 (by decide) (fun c164 => ?_) (fun c164 => absurd c164 (by omega))
        refine g_aload_n dX6_clamp_192 rfl rfl ?_
        refine p_getR (o := some 83) dX6_clamp_193 (fX6_34 l) (by decide) rfl (by omega) rfl ?_
        refine g_iload_n dX6_clamp_196 rfl rfl ?_
        refine g_iload_n dX6_clamp_197 rfl rfl ?_
        refine g_if_ne (tgt := 205) dX6_clamp_198 (by decide) (fun c198 => absurd c198 (by omega)) (fun c198 => ?_)
        refine g_iconst (x := 3) dX6_clamp_201 (by decide) ?_
        refine g_goto (tgt := 215) dX6_clamp_202 (by decide) ?_
        refine m_iast (len := 60) dX6_clamp_215 rfl ⟨by omega, by omega⟩ (by omega) (by omega) ?_
        refine g_aload_n dX6_clamp_216 rfl rfl ?_
        refine g_aload_n dX6_clamp_217 rfl rfl ?_
        refine m_getI (x := M 74 14) dX6_clamp_218 (fX6_73 l) rfl rfl ⟨by omega, by omega⟩ (by simp [up]) ?_
        refine g_iconst (x := 1) dX6_clamp_221 (by decide) ?_
        refine e_ior (v := gor (M 74 14) 1) dX6_clamp_222 rfl ?_
        refine m_putI dX6_clamp_223 (fX6_73 l) gTX6 ⟨rfl, rfl⟩ rfl rfl ⟨by omega, by omega⟩ ?_
        refine g_aload_n dX6_clamp_226 rfl rfl ?_
        refine m_getI (x := M 74 10) dX6_clamp_227 (fX6_79 l) rfl rfl ⟨by omega, by omega⟩ (by simp [up]) ?_
        refine g_bipush (x := 20) dX6_clamp_230 (by decide) ?_
        refine g_icmp_ge (tgt := 243) dX6_clamp_232 (by decide) (fun c232 => ?_) (fun c232 => ?_)
        · refine g_aload_n dX6_clamp_243 rfl rfl ?_
          refine g_aload_n dX6_clamp_244 rfl rfl ?_
          refine m_getI (x := gor (M 74 14) 1) dX6_clamp_245 (fX6_73 l) rfl rfl ⟨by omega, by omega⟩ (by simp [up]) ?_
          refine g_iconst (x := 2) dX6_clamp_248 (by decide) ?_
          refine e_ior (v := gor (gor (M 74 14) 1) 2) dX6_clamp_249 rfl ?_
          refine m_putI dX6_clamp_250 (fX6_73 l) gTX6 ⟨rfl, rfl⟩ rfl rfl ⟨by omega, by omega⟩ ?_
          exact g_vret dX6_clamp_253 rfl ⟨rfl, congrArg (hS L S) (by rw [xClamp, if_pos c16, if_neg (by omega), xFail, show xDone M c 74 10 = M 74 10 from by simp [up, xDone], show xDone M c 74 14 = M 74 14 from by simp [up, xDone], if_neg (by omega)]; first | done | rfl)⟩
        · refine g_aload_n dX6_clamp_235 rfl rfl ?_
          refine g_iload_n dX6_clamp_236 rfl rfl ?_
          refine g_Vv1 dX6_clamp_237 (sX6_clamp_237 l) rfl (by show 74 < 87; omega) (Nat.le_of_ble_eq_true rfl) (cX6_toSiding l (M := up (up (up (up (up M 79 c (gadd (M 79 c) 1)) 79 c (-1)) 78 c 0) 83 c 3) 74 14 (gor (M 74 14) 1)) hc (by rw [show (up (up (up (up (up M 79 c (gadd (M 79 c) 1)) 79 c (-1)) 78 c 0) 83 c 3) 74 14 (gor (M 74 14) 1)) 74 10 = M 74 10 from by simp [up]]; exact hm.1.1) (by rw [show (up (up (up (up (up M 79 c (gadd (M 79 c) 1)) 79 c (-1)) 78 c 0) 83 c 3) 74 14 (gor (M 74 14) 1)) 74 10 = M 74 10 from by simp [up]]; exact c232)) ?_
          refine g_goto (tgt := 253) dX6_clamp_240 (by decide) ?_
          exact g_vret dX6_clamp_253 rfl ⟨rfl, congrArg (hS L S) (by rw [xClamp, if_pos c16, if_neg (by omega), xFail, show xDone M c 74 10 = M 74 10 from by simp [up, xDone], show xDone M c 74 14 = M 74 14 from by simp [up, xDone], if_pos c232]; first | done | rfl)⟩
    · exact g_vret dX6_clamp_40 rfl ⟨rfl, congrArg (hS L S) (by rw [xClamp, if_pos c16, if_pos c37]; first | done | rfl)⟩
  · refine g_iconst (x := 1) dX6_clamp_19 (by decide) ?_
    refine g_goto (tgt := 24) dX6_clamp_20 (by decide) ?_
    refine e_istore_n (loc' := [gR (some 74), gI (c : Int), gI 1, gU, gU, gU, gU]) dX6_clamp_24 rfl (by decide) rfl ?_
    refine g_iload_n dX6_clamp_25 rfl rfl ?_
    refine g_if_ne (tgt := 41) dX6_clamp_26 (by decide) (fun c26 => ?_) (fun c26 => absurd c26 (by omega))
    refine g_aload_n dX6_clamp_41 rfl rfl ?_
    refine p_getR (o := some 80) dX6_clamp_42 (fX6_25 l) (by decide) rfl (by omega) rfl ?_
    refine g_iload_n dX6_clamp_45 rfl rfl ?_
    refine m_iald (len := 60) (x := M 80 c) dX6_clamp_46 rfl ⟨by omega, by omega⟩ (by omega) (by omega) (up_cell (by omega)) ?_
    refine g_aload_n dX6_clamp_47 rfl rfl ?_
    refine p_getR (o := some 81) dX6_clamp_48 (fX6_28 l) (by decide) rfl (by omega) rfl ?_
    refine g_iload_n dX6_clamp_51 rfl rfl ?_
    refine m_iald (len := 60) (x := M 81 c) dX6_clamp_52 rfl ⟨by omega, by omega⟩ (by omega) (by omega) (up_cell (by omega)) ?_
    refine g_icmp_le (tgt := 65) dX6_clamp_53 (by decide) (fun c53 => ?_) (fun c53 => ?_)
    · refine g_aload_n dX6_clamp_65 rfl rfl ?_
      refine p_getR (o := some 81) dX6_clamp_66 (fX6_28 l) (by decide) rfl (by omega) rfl ?_
      refine g_iload_n dX6_clamp_69 rfl rfl ?_
      refine m_iald (len := 60) (x := M 81 c) dX6_clamp_70 rfl ⟨by omega, by omega⟩ (by omega) (by omega) (up_cell (by omega)) ?_
      refine e_istore_n (loc' := [gR (some 74), gI (c : Int), gI 1, gI (M 81 c), gU, gU, gU]) dX6_clamp_71 rfl (by decide) rfl ?_
      refine g_aload_n dX6_clamp_72 rfl rfl ?_
      refine p_getR (o := some 80) dX6_clamp_73 (fX6_25 l) (by decide) rfl (by omega) rfl ?_
      refine g_iload_n dX6_clamp_76 rfl rfl ?_
      refine m_iald (len := 60) (x := M 80 c) dX6_clamp_77 rfl ⟨by omega, by omega⟩ (by omega) (by omega) (up_cell (by omega)) ?_
      refine g_aload_n dX6_clamp_78 rfl rfl ?_
      refine p_getR (o := some 81) dX6_clamp_79 (fX6_28 l) (by decide) rfl (by omega) rfl ?_
      refine g_iload_n dX6_clamp_82 rfl rfl ?_
      refine m_iald (len := 60) (x := M 81 c) dX6_clamp_83 rfl ⟨by omega, by omega⟩ (by omega) (by omega) (up_cell (by omega)) ?_
      refine g_icmp_le (tgt := 96) dX6_clamp_84 (by decide) (fun c84 => ?_) (fun c84 => absurd c84 (by omega))
      refine g_aload_n dX6_clamp_96 rfl rfl ?_
      refine p_getR (o := some 80) dX6_clamp_97 (fX6_25 l) (by decide) rfl (by omega) rfl ?_
      refine g_iload_n dX6_clamp_100 rfl rfl ?_
      refine m_iald (len := 60) (x := M 80 c) dX6_clamp_101 rfl ⟨by omega, by omega⟩ (by omega) (by omega) (up_cell (by omega)) ?_
      refine e_istore (loc' := [gR (some 74), gI (c : Int), gI 1, gI (M 81 c), gI (M 80 c), gU, gU]) dX6_clamp_102 (by decide) rfl ?_
      refine g_iload_n dX6_clamp_104 rfl rfl ?_
      refine g_if_eq (tgt := 120) dX6_clamp_105 (by decide) (fun c105 => absurd c105 (by omega)) (fun c105 => ?_)
      refine g_iload dX6_clamp_108 rfl ?_
      refine g_sipush (x := 4000) dX6_clamp_110 (by decide) ?_
      refine g_icmp_le (tgt := 120) dX6_clamp_113 (by decide) (fun c113 => ?_) (fun c113 => ?_)
      · refine g_iconst (x := 0) dX6_clamp_120 (by decide) ?_
        refine e_istore (loc' := [gR (some 74), gI (c : Int), gI 1, gI (M 81 c), gI (M 80 c), gI 0, gU]) dX6_clamp_121 (by decide) rfl ?_
        refine g_iload dX6_clamp_123 rfl ?_
        refine g_if_eq (tgt := 145) dX6_clamp_125 (by decide) (fun c125 => ?_) (fun c125 => absurd c125 (by omega))
        refine g_iconst (x := 0) dX6_clamp_145 (by decide) ?_
        refine e_istore (loc' := [gR (some 74), gI (c : Int), gI 1, gI (M 81 c), gI (M 80 c), gI 0, gI 0]) dX6_clamp_146 (by decide) rfl ?_
        refine g_aload_n dX6_clamp_148 rfl rfl ?_
        refine p_getR (o := some 79) dX6_clamp_149 (fX6_22 l) (by decide) rfl (by omega) rfl ?_
        refine g_iload_n dX6_clamp_152 rfl rfl ?_
        refine g_iconst (x := -1) dX6_clamp_153 (by decide) ?_
        refine m_iast (len := 60) dX6_clamp_154 rfl ⟨by omega, by omega⟩ (by omega) (by omega) ?_
        refine g_aload_n dX6_clamp_155 rfl rfl ?_
        refine p_getR (o := some 78) dX6_clamp_156 (fX6_19 l) (by decide) rfl (by omega) rfl ?_
        refine g_iload_n dX6_clamp_159 rfl rfl ?_
        refine g_iconst (x := 0) dX6_clamp_160 (by decide) ?_
        refine m_iast (len := 60) dX6_clamp_161 rfl ⟨by omega, by omega⟩ (by omega) (by omega) ?_
        refine g_iload dX6_clamp_162 rfl ?_
        refine g_if_eq (tgt := 192) dX6_clamp_164 (by decide) (fun c164 => ?_) (fun c164 => absurd c164 (by omega))
        refine g_aload_n dX6_clamp_192 rfl rfl ?_
        refine p_getR (o := some 83) dX6_clamp_193 (fX6_34 l) (by decide) rfl (by omega) rfl ?_
        refine g_iload_n dX6_clamp_196 rfl rfl ?_
        refine g_iload_n dX6_clamp_197 rfl rfl ?_
        refine g_if_ne (tgt := 205) dX6_clamp_198 (by decide) (fun c198 => ?_) (fun c198 => absurd c198 (by omega))
        refine g_iload dX6_clamp_205 rfl ?_
        refine g_if_eq (tgt := 214) dX6_clamp_207 (by decide) (fun c207 => ?_) (fun c207 => absurd c207 (by omega))
        refine g_iconst (x := 1) dX6_clamp_214 (by decide) ?_
        refine m_iast (len := 60) dX6_clamp_215 rfl ⟨by omega, by omega⟩ (by omega) (by omega) ?_
        refine g_aload_n dX6_clamp_216 rfl rfl ?_
        refine g_aload_n dX6_clamp_217 rfl rfl ?_
        refine m_getI (x := M 74 14) dX6_clamp_218 (fX6_73 l) rfl rfl ⟨by omega, by omega⟩ (by simp [up]) ?_
        refine g_iconst (x := 1) dX6_clamp_221 (by decide) ?_
        refine e_ior (v := gor (M 74 14) 1) dX6_clamp_222 rfl ?_
        refine m_putI dX6_clamp_223 (fX6_73 l) gTX6 ⟨rfl, rfl⟩ rfl rfl ⟨by omega, by omega⟩ ?_
        refine g_aload_n dX6_clamp_226 rfl rfl ?_
        refine m_getI (x := M 74 10) dX6_clamp_227 (fX6_79 l) rfl rfl ⟨by omega, by omega⟩ (by simp [up]) ?_
        refine g_bipush (x := 20) dX6_clamp_230 (by decide) ?_
        refine g_icmp_ge (tgt := 243) dX6_clamp_232 (by decide) (fun c232 => ?_) (fun c232 => ?_)
        · refine g_aload_n dX6_clamp_243 rfl rfl ?_
          refine g_aload_n dX6_clamp_244 rfl rfl ?_
          refine m_getI (x := gor (M 74 14) 1) dX6_clamp_245 (fX6_73 l) rfl rfl ⟨by omega, by omega⟩ (by simp [up]) ?_
          refine g_iconst (x := 2) dX6_clamp_248 (by decide) ?_
          refine e_ior (v := gor (gor (M 74 14) 1) 2) dX6_clamp_249 rfl ?_
          refine m_putI dX6_clamp_250 (fX6_73 l) gTX6 ⟨rfl, rfl⟩ rfl rfl ⟨by omega, by omega⟩ ?_
          exact g_vret dX6_clamp_253 rfl ⟨rfl, congrArg (hS L S) (by rw [xClamp, if_neg (by omega), if_neg (by omega), xJudge, if_pos c113, xFail, show xDone M c 74 10 = M 74 10 from by simp [up, xDone], show xDone M c 74 14 = M 74 14 from by simp [up, xDone], if_neg (by omega)]; first | done | rfl)⟩
        · refine g_aload_n dX6_clamp_235 rfl rfl ?_
          refine g_iload_n dX6_clamp_236 rfl rfl ?_
          refine g_Vv1 dX6_clamp_237 (sX6_clamp_237 l) rfl (by show 74 < 87; omega) (Nat.le_of_ble_eq_true rfl) (cX6_toSiding l (M := up (up (up (up (up M 79 c (gadd (M 79 c) 1)) 79 c (-1)) 78 c 0) 83 c 1) 74 14 (gor (M 74 14) 1)) hc (by rw [show (up (up (up (up (up M 79 c (gadd (M 79 c) 1)) 79 c (-1)) 78 c 0) 83 c 1) 74 14 (gor (M 74 14) 1)) 74 10 = M 74 10 from by simp [up]]; exact hm.1.1) (by rw [show (up (up (up (up (up M 79 c (gadd (M 79 c) 1)) 79 c (-1)) 78 c 0) 83 c 1) 74 14 (gor (M 74 14) 1)) 74 10 = M 74 10 from by simp [up]]; exact c232)) ?_
          refine g_goto (tgt := 253) dX6_clamp_240 (by decide) ?_
          exact g_vret dX6_clamp_253 rfl ⟨rfl, congrArg (hS L S) (by rw [xClamp, if_neg (by omega), if_neg (by omega), xJudge, if_pos c113, xFail, show xDone M c 74 10 = M 74 10 from by simp [up, xDone], show xDone M c 74 14 = M 74 14 from by simp [up, xDone], if_pos c232]; first | done | rfl)⟩
      · refine g_iconst (x := 1) dX6_clamp_116 (by decide) ?_
        refine g_goto (tgt := 121) dX6_clamp_117 (by decide) ?_
        refine e_istore (loc' := [gR (some 74), gI (c : Int), gI 1, gI (M 81 c), gI (M 80 c), gI 1, gU]) dX6_clamp_121 (by decide) rfl ?_
        refine g_iload dX6_clamp_123 rfl ?_
        refine g_if_eq (tgt := 145) dX6_clamp_125 (by decide) (fun c125 => absurd c125 (by omega)) (fun c125 => ?_)
        refine g_bipush (x := 100) dX6_clamp_128 (by decide) ?_
        refine g_iload_n dX6_clamp_130 rfl rfl ?_
        refine g_iload dX6_clamp_131 rfl ?_
        refine e_isub (v := gsub (M 81 c) (M 80 c)) dX6_clamp_133 rfl ?_
        refine e_imul (v := gmul 100 (gsub (M 81 c) (M 80 c))) dX6_clamp_134 rfl ?_
        refine g_iconst (x := 3) dX6_clamp_135 (by decide) ?_
        refine g_iload_n dX6_clamp_136 rfl rfl ?_
        refine e_imul (v := gmul 3 (M 81 c)) dX6_clamp_137 rfl ?_
        refine g_icmp_gt (tgt := 145) dX6_clamp_138 (by decide) (fun c138 => ?_) (fun c138 => ?_)
        · refine g_iconst (x := 0) dX6_clamp_145 (by decide) ?_
          refine e_istore (loc' := [gR (some 74), gI (c : Int), gI 1, gI (M 81 c), gI (M 80 c), gI 1, gI 0]) dX6_clamp_146 (by decide) rfl ?_
          refine g_aload_n dX6_clamp_148 rfl rfl ?_
          refine p_getR (o := some 79) dX6_clamp_149 (fX6_22 l) (by decide) rfl (by omega) rfl ?_
          refine g_iload_n dX6_clamp_152 rfl rfl ?_
          refine g_iconst (x := -1) dX6_clamp_153 (by decide) ?_
          refine m_iast (len := 60) dX6_clamp_154 rfl ⟨by omega, by omega⟩ (by omega) (by omega) ?_
          refine g_aload_n dX6_clamp_155 rfl rfl ?_
          refine p_getR (o := some 78) dX6_clamp_156 (fX6_19 l) (by decide) rfl (by omega) rfl ?_
          refine g_iload_n dX6_clamp_159 rfl rfl ?_
          refine g_iconst (x := 0) dX6_clamp_160 (by decide) ?_
          refine m_iast (len := 60) dX6_clamp_161 rfl ⟨by omega, by omega⟩ (by omega) (by omega) ?_
          refine g_iload dX6_clamp_162 rfl ?_
          refine g_if_eq (tgt := 192) dX6_clamp_164 (by decide) (fun c164 => ?_) (fun c164 => absurd c164 (by omega))
          refine g_aload_n dX6_clamp_192 rfl rfl ?_
          refine p_getR (o := some 83) dX6_clamp_193 (fX6_34 l) (by decide) rfl (by omega) rfl ?_
          refine g_iload_n dX6_clamp_196 rfl rfl ?_
          refine g_iload_n dX6_clamp_197 rfl rfl ?_
          refine g_if_ne (tgt := 205) dX6_clamp_198 (by decide) (fun c198 => ?_) (fun c198 => absurd c198 (by omega))
          refine g_iload dX6_clamp_205 rfl ?_
          refine g_if_eq (tgt := 214) dX6_clamp_207 (by decide) (fun c207 => absurd c207 (by omega)) (fun c207 => ?_)
          refine g_iconst (x := 2) dX6_clamp_210 (by decide) ?_
          refine g_goto (tgt := 215) dX6_clamp_211 (by decide) ?_
          refine m_iast (len := 60) dX6_clamp_215 rfl ⟨by omega, by omega⟩ (by omega) (by omega) ?_
          refine g_aload_n dX6_clamp_216 rfl rfl ?_
          refine g_aload_n dX6_clamp_217 rfl rfl ?_
          refine m_getI (x := M 74 14) dX6_clamp_218 (fX6_73 l) rfl rfl ⟨by omega, by omega⟩ (by simp [up]) ?_
          refine g_iconst (x := 1) dX6_clamp_221 (by decide) ?_
          refine e_ior (v := gor (M 74 14) 1) dX6_clamp_222 rfl ?_
          refine m_putI dX6_clamp_223 (fX6_73 l) gTX6 ⟨rfl, rfl⟩ rfl rfl ⟨by omega, by omega⟩ ?_
          refine g_aload_n dX6_clamp_226 rfl rfl ?_
          refine m_getI (x := M 74 10) dX6_clamp_227 (fX6_79 l) rfl rfl ⟨by omega, by omega⟩ (by simp [up]) ?_
          refine g_bipush (x := 20) dX6_clamp_230 (by decide) ?_
          refine g_icmp_ge (tgt := 243) dX6_clamp_232 (by decide) (fun c232 => ?_) (fun c232 => ?_)
          · refine g_aload_n dX6_clamp_243 rfl rfl ?_
            refine g_aload_n dX6_clamp_244 rfl rfl ?_
            refine m_getI (x := gor (M 74 14) 1) dX6_clamp_245 (fX6_73 l) rfl rfl ⟨by omega, by omega⟩ (by simp [up]) ?_
            refine g_iconst (x := 2) dX6_clamp_248 (by decide) ?_
            refine e_ior (v := gor (gor (M 74 14) 1) 2) dX6_clamp_249 rfl ?_
            refine m_putI dX6_clamp_250 (fX6_73 l) gTX6 ⟨rfl, rfl⟩ rfl rfl ⟨by omega, by omega⟩ ?_
            exact g_vret dX6_clamp_253 rfl ⟨rfl, congrArg (hS L S) (by rw [xClamp, if_neg (by omega), if_neg (by omega), xJudge, if_neg (by omega), if_pos c138, xFail, show xDone M c 74 10 = M 74 10 from by simp [up, xDone], show xDone M c 74 14 = M 74 14 from by simp [up, xDone], if_neg (by omega)]; first | done | rfl)⟩
          · refine g_aload_n dX6_clamp_235 rfl rfl ?_
            refine g_iload_n dX6_clamp_236 rfl rfl ?_
            refine g_Vv1 dX6_clamp_237 (sX6_clamp_237 l) rfl (by show 74 < 87; omega) (Nat.le_of_ble_eq_true rfl) (cX6_toSiding l (M := up (up (up (up (up M 79 c (gadd (M 79 c) 1)) 79 c (-1)) 78 c 0) 83 c 2) 74 14 (gor (M 74 14) 1)) hc (by rw [show (up (up (up (up (up M 79 c (gadd (M 79 c) 1)) 79 c (-1)) 78 c 0) 83 c 2) 74 14 (gor (M 74 14) 1)) 74 10 = M 74 10 from by simp [up]]; exact hm.1.1) (by rw [show (up (up (up (up (up M 79 c (gadd (M 79 c) 1)) 79 c (-1)) 78 c 0) 83 c 2) 74 14 (gor (M 74 14) 1)) 74 10 = M 74 10 from by simp [up]]; exact c232)) ?_
            refine g_goto (tgt := 253) dX6_clamp_240 (by decide) ?_
            exact g_vret dX6_clamp_253 rfl ⟨rfl, congrArg (hS L S) (by rw [xClamp, if_neg (by omega), if_neg (by omega), xJudge, if_neg (by omega), if_pos c138, xFail, show xDone M c 74 10 = M 74 10 from by simp [up, xDone], show xDone M c 74 14 = M 74 14 from by simp [up, xDone], if_pos c232]; first | done | rfl)⟩
        · refine g_iconst (x := 1) dX6_clamp_141 (by decide) ?_
          refine g_goto (tgt := 146) dX6_clamp_142 (by decide) ?_
          refine e_istore (loc' := [gR (some 74), gI (c : Int), gI 1, gI (M 81 c), gI (M 80 c), gI 1, gI 1]) dX6_clamp_146 (by decide) rfl ?_
          refine g_aload_n dX6_clamp_148 rfl rfl ?_
          refine p_getR (o := some 79) dX6_clamp_149 (fX6_22 l) (by decide) rfl (by omega) rfl ?_
          refine g_iload_n dX6_clamp_152 rfl rfl ?_
          refine g_iconst (x := -1) dX6_clamp_153 (by decide) ?_
          refine m_iast (len := 60) dX6_clamp_154 rfl ⟨by omega, by omega⟩ (by omega) (by omega) ?_
          refine g_aload_n dX6_clamp_155 rfl rfl ?_
          refine p_getR (o := some 78) dX6_clamp_156 (fX6_19 l) (by decide) rfl (by omega) rfl ?_
          refine g_iload_n dX6_clamp_159 rfl rfl ?_
          refine g_iconst (x := 0) dX6_clamp_160 (by decide) ?_
          refine m_iast (len := 60) dX6_clamp_161 rfl ⟨by omega, by omega⟩ (by omega) (by omega) ?_
          refine g_iload dX6_clamp_162 rfl ?_
          refine g_if_eq (tgt := 192) dX6_clamp_164 (by decide) (fun c164 => absurd c164 (by omega)) (fun c164 => ?_)
          refine g_aload_n dX6_clamp_167 rfl rfl ?_
          refine p_getR (o := some 75) dX6_clamp_168 (fX6_7 l) (by decide) rfl (by omega) rfl ?_
          refine g_iload_n dX6_clamp_171 rfl rfl ?_
          refine g_iconst (x := 3) dX6_clamp_172 (by decide) ?_
          refine m_iast (len := 60) dX6_clamp_173 rfl ⟨by omega, by omega⟩ (by omega) (by omega) ?_
          refine g_aload_n dX6_clamp_174 rfl rfl ?_
          refine p_getR (o := some 76) dX6_clamp_175 (fX6_13 l) (by decide) rfl (by omega) rfl ?_
          refine g_iload_n dX6_clamp_178 rfl rfl ?_
          refine g_iconst (x := 0) dX6_clamp_179 (by decide) ?_
          refine m_iast (len := 60) dX6_clamp_180 rfl ⟨by omega, by omega⟩ (by omega) (by omega) ?_
          refine g_aload_n dX6_clamp_181 rfl rfl ?_
          refine p_getR (o := some 82) dX6_clamp_182 (fX6_31 l) (by decide) rfl (by omega) rfl ?_
          refine g_iload_n dX6_clamp_185 rfl rfl ?_
          refine g_dup2 dX6_clamp_186 ?_
          refine m_iald (len := 60) (x := M 82 c) dX6_clamp_187 rfl ⟨by omega, by omega⟩ (by omega) (by omega) (by simp [up]) ?_
          refine g_iconst (x := 1) dX6_clamp_188 (by decide) ?_
          refine e_iadd (v := gadd (M 82 c) 1) dX6_clamp_189 rfl ?_
          refine m_iast (len := 60) dX6_clamp_190 rfl ⟨by omega, by omega⟩ (by omega) (by omega) ?_
          exact g_vret dX6_clamp_191 rfl ⟨rfl, congrArg (hS L S) (by rw [xClamp, if_neg (by omega), if_neg (by omega), xJudge, if_neg (by omega), if_neg (by omega), xOk, show xDone M c 82 c = M 82 c from by simp [up, xDone]]; first | done | rfl)⟩
    · refine g_aload_n dX6_clamp_56 rfl rfl ?_
      refine p_getR (o := some 80) dX6_clamp_57 (fX6_25 l) (by decide) rfl (by omega) rfl ?_
      refine g_iload_n dX6_clamp_60 rfl rfl ?_
      refine m_iald (len := 60) (x := M 80 c) dX6_clamp_61 rfl ⟨by omega, by omega⟩ (by omega) (by omega) (up_cell (by omega)) ?_
      refine g_goto (tgt := 71) dX6_clamp_62 (by decide) ?_
      refine e_istore_n (loc' := [gR (some 74), gI (c : Int), gI 1, gI (M 80 c), gU, gU, gU]) dX6_clamp_71 rfl (by decide) rfl ?_
      refine g_aload_n dX6_clamp_72 rfl rfl ?_
      refine p_getR (o := some 80) dX6_clamp_73 (fX6_25 l) (by decide) rfl (by omega) rfl ?_
      refine g_iload_n dX6_clamp_76 rfl rfl ?_
      refine m_iald (len := 60) (x := M 80 c) dX6_clamp_77 rfl ⟨by omega, by omega⟩ (by omega) (by omega) (up_cell (by omega)) ?_
      refine g_aload_n dX6_clamp_78 rfl rfl ?_
      refine p_getR (o := some 81) dX6_clamp_79 (fX6_28 l) (by decide) rfl (by omega) rfl ?_
      refine g_iload_n dX6_clamp_82 rfl rfl ?_
      refine m_iald (len := 60) (x := M 81 c) dX6_clamp_83 rfl ⟨by omega, by omega⟩ (by omega) (by omega) (up_cell (by omega)) ?_
      refine g_icmp_le (tgt := 96) dX6_clamp_84 (by decide) (fun c84 => absurd c84 (by omega)) (fun c84 => ?_)
      refine g_aload_n dX6_clamp_87 rfl rfl ?_
      refine p_getR (o := some 81) dX6_clamp_88 (fX6_28 l) (by decide) rfl (by omega) rfl ?_
      refine g_iload_n dX6_clamp_91 rfl rfl ?_
      refine m_iald (len := 60) (x := M 81 c) dX6_clamp_92 rfl ⟨by omega, by omega⟩ (by omega) (by omega) (up_cell (by omega)) ?_
      refine g_goto (tgt := 102) dX6_clamp_93 (by decide) ?_
      refine e_istore (loc' := [gR (some 74), gI (c : Int), gI 1, gI (M 80 c), gI (M 81 c), gU, gU]) dX6_clamp_102 (by decide) rfl ?_
      refine g_iload_n dX6_clamp_104 rfl rfl ?_
      refine g_if_eq (tgt := 120) dX6_clamp_105 (by decide) (fun c105 => absurd c105 (by omega)) (fun c105 => ?_)
      refine g_iload dX6_clamp_108 rfl ?_
      refine g_sipush (x := 4000) dX6_clamp_110 (by decide) ?_
      refine g_icmp_le (tgt := 120) dX6_clamp_113 (by decide) (fun c113 => ?_) (fun c113 => ?_)
      · refine g_iconst (x := 0) dX6_clamp_120 (by decide) ?_
        refine e_istore (loc' := [gR (some 74), gI (c : Int), gI 1, gI (M 80 c), gI (M 81 c), gI 0, gU]) dX6_clamp_121 (by decide) rfl ?_
        refine g_iload dX6_clamp_123 rfl ?_
        refine g_if_eq (tgt := 145) dX6_clamp_125 (by decide) (fun c125 => ?_) (fun c125 => absurd c125 (by omega))
        refine g_iconst (x := 0) dX6_clamp_145 (by decide) ?_
        refine e_istore (loc' := [gR (some 74), gI (c : Int), gI 1, gI (M 80 c), gI (M 81 c), gI 0, gI 0]) dX6_clamp_146 (by decide) rfl ?_
        refine g_aload_n dX6_clamp_148 rfl rfl ?_
        refine p_getR (o := some 79) dX6_clamp_149 (fX6_22 l) (by decide) rfl (by omega) rfl ?_
        refine g_iload_n dX6_clamp_152 rfl rfl ?_
        refine g_iconst (x := -1) dX6_clamp_153 (by decide) ?_
        refine m_iast (len := 60) dX6_clamp_154 rfl ⟨by omega, by omega⟩ (by omega) (by omega) ?_
        refine g_aload_n dX6_clamp_155 rfl rfl ?_
        refine p_getR (o := some 78) dX6_clamp_156 (fX6_19 l) (by decide) rfl (by omega) rfl ?_
        refine g_iload_n dX6_clamp_159 rfl rfl ?_
        refine g_iconst (x := 0) dX6_clamp_160 (by decide) ?_
        refine m_iast (len := 60) dX6_clamp_161 rfl ⟨by omega, by omega⟩ (by omega) (by omega) ?_
        refine g_iload dX6_clamp_162 rfl ?_
        refine g_if_eq (tgt := 192) dX6_clamp_164 (by decide) (fun c164 => ?_) (fun c164 => absurd c164 (by omega))
        refine g_aload_n dX6_clamp_192 rfl rfl ?_
        refine p_getR (o := some 83) dX6_clamp_193 (fX6_34 l) (by decide) rfl (by omega) rfl ?_
        refine g_iload_n dX6_clamp_196 rfl rfl ?_
        refine g_iload_n dX6_clamp_197 rfl rfl ?_
        refine g_if_ne (tgt := 205) dX6_clamp_198 (by decide) (fun c198 => ?_) (fun c198 => absurd c198 (by omega))
        refine g_iload dX6_clamp_205 rfl ?_
        refine g_if_eq (tgt := 214) dX6_clamp_207 (by decide) (fun c207 => ?_) (fun c207 => absurd c207 (by omega))
        refine g_iconst (x := 1) dX6_clamp_214 (by decide) ?_
        refine m_iast (len := 60) dX6_clamp_215 rfl ⟨by omega, by omega⟩ (by omega) (by omega) ?_
        refine g_aload_n dX6_clamp_216 rfl rfl ?_
        refine g_aload_n dX6_clamp_217 rfl rfl ?_
        refine m_getI (x := M 74 14) dX6_clamp_218 (fX6_73 l) rfl rfl ⟨by omega, by omega⟩ (by simp [up]) ?_
        refine g_iconst (x := 1) dX6_clamp_221 (by decide) ?_
        refine e_ior (v := gor (M 74 14) 1) dX6_clamp_222 rfl ?_
        refine m_putI dX6_clamp_223 (fX6_73 l) gTX6 ⟨rfl, rfl⟩ rfl rfl ⟨by omega, by omega⟩ ?_
        refine g_aload_n dX6_clamp_226 rfl rfl ?_
        refine m_getI (x := M 74 10) dX6_clamp_227 (fX6_79 l) rfl rfl ⟨by omega, by omega⟩ (by simp [up]) ?_
        refine g_bipush (x := 20) dX6_clamp_230 (by decide) ?_
        refine g_icmp_ge (tgt := 243) dX6_clamp_232 (by decide) (fun c232 => ?_) (fun c232 => ?_)
        · refine g_aload_n dX6_clamp_243 rfl rfl ?_
          refine g_aload_n dX6_clamp_244 rfl rfl ?_
          refine m_getI (x := gor (M 74 14) 1) dX6_clamp_245 (fX6_73 l) rfl rfl ⟨by omega, by omega⟩ (by simp [up]) ?_
          refine g_iconst (x := 2) dX6_clamp_248 (by decide) ?_
          refine e_ior (v := gor (gor (M 74 14) 1) 2) dX6_clamp_249 rfl ?_
          refine m_putI dX6_clamp_250 (fX6_73 l) gTX6 ⟨rfl, rfl⟩ rfl rfl ⟨by omega, by omega⟩ ?_
          exact g_vret dX6_clamp_253 rfl ⟨rfl, congrArg (hS L S) (by rw [xClamp, if_neg (by omega), if_pos c53, xJudge, if_pos c113, xFail, show xDone M c 74 10 = M 74 10 from by simp [up, xDone], show xDone M c 74 14 = M 74 14 from by simp [up, xDone], if_neg (by omega)]; first | done | rfl)⟩
        · refine g_aload_n dX6_clamp_235 rfl rfl ?_
          refine g_iload_n dX6_clamp_236 rfl rfl ?_
          refine g_Vv1 dX6_clamp_237 (sX6_clamp_237 l) rfl (by show 74 < 87; omega) (Nat.le_of_ble_eq_true rfl) (cX6_toSiding l (M := up (up (up (up (up M 79 c (gadd (M 79 c) 1)) 79 c (-1)) 78 c 0) 83 c 1) 74 14 (gor (M 74 14) 1)) hc (by rw [show (up (up (up (up (up M 79 c (gadd (M 79 c) 1)) 79 c (-1)) 78 c 0) 83 c 1) 74 14 (gor (M 74 14) 1)) 74 10 = M 74 10 from by simp [up]]; exact hm.1.1) (by rw [show (up (up (up (up (up M 79 c (gadd (M 79 c) 1)) 79 c (-1)) 78 c 0) 83 c 1) 74 14 (gor (M 74 14) 1)) 74 10 = M 74 10 from by simp [up]]; exact c232)) ?_
          refine g_goto (tgt := 253) dX6_clamp_240 (by decide) ?_
          exact g_vret dX6_clamp_253 rfl ⟨rfl, congrArg (hS L S) (by rw [xClamp, if_neg (by omega), if_pos c53, xJudge, if_pos c113, xFail, show xDone M c 74 10 = M 74 10 from by simp [up, xDone], show xDone M c 74 14 = M 74 14 from by simp [up, xDone], if_pos c232]; first | done | rfl)⟩
      · refine g_iconst (x := 1) dX6_clamp_116 (by decide) ?_
        refine g_goto (tgt := 121) dX6_clamp_117 (by decide) ?_
        refine e_istore (loc' := [gR (some 74), gI (c : Int), gI 1, gI (M 80 c), gI (M 81 c), gI 1, gU]) dX6_clamp_121 (by decide) rfl ?_
        refine g_iload dX6_clamp_123 rfl ?_
        refine g_if_eq (tgt := 145) dX6_clamp_125 (by decide) (fun c125 => absurd c125 (by omega)) (fun c125 => ?_)
        refine g_bipush (x := 100) dX6_clamp_128 (by decide) ?_
        refine g_iload_n dX6_clamp_130 rfl rfl ?_
        refine g_iload dX6_clamp_131 rfl ?_
        refine e_isub (v := gsub (M 80 c) (M 81 c)) dX6_clamp_133 rfl ?_
        refine e_imul (v := gmul 100 (gsub (M 80 c) (M 81 c))) dX6_clamp_134 rfl ?_
        refine g_iconst (x := 3) dX6_clamp_135 (by decide) ?_
        refine g_iload_n dX6_clamp_136 rfl rfl ?_
        refine e_imul (v := gmul 3 (M 80 c)) dX6_clamp_137 rfl ?_
        refine g_icmp_gt (tgt := 145) dX6_clamp_138 (by decide) (fun c138 => ?_) (fun c138 => ?_)
        · refine g_iconst (x := 0) dX6_clamp_145 (by decide) ?_
          refine e_istore (loc' := [gR (some 74), gI (c : Int), gI 1, gI (M 80 c), gI (M 81 c), gI 1, gI 0]) dX6_clamp_146 (by decide) rfl ?_
          refine g_aload_n dX6_clamp_148 rfl rfl ?_
          refine p_getR (o := some 79) dX6_clamp_149 (fX6_22 l) (by decide) rfl (by omega) rfl ?_
          refine g_iload_n dX6_clamp_152 rfl rfl ?_
          refine g_iconst (x := -1) dX6_clamp_153 (by decide) ?_
          refine m_iast (len := 60) dX6_clamp_154 rfl ⟨by omega, by omega⟩ (by omega) (by omega) ?_
          refine g_aload_n dX6_clamp_155 rfl rfl ?_
          refine p_getR (o := some 78) dX6_clamp_156 (fX6_19 l) (by decide) rfl (by omega) rfl ?_
          refine g_iload_n dX6_clamp_159 rfl rfl ?_
          refine g_iconst (x := 0) dX6_clamp_160 (by decide) ?_
          refine m_iast (len := 60) dX6_clamp_161 rfl ⟨by omega, by omega⟩ (by omega) (by omega) ?_
          refine g_iload dX6_clamp_162 rfl ?_
          refine g_if_eq (tgt := 192) dX6_clamp_164 (by decide) (fun c164 => ?_) (fun c164 => absurd c164 (by omega))
          refine g_aload_n dX6_clamp_192 rfl rfl ?_
          refine p_getR (o := some 83) dX6_clamp_193 (fX6_34 l) (by decide) rfl (by omega) rfl ?_
          refine g_iload_n dX6_clamp_196 rfl rfl ?_
          refine g_iload_n dX6_clamp_197 rfl rfl ?_
          refine g_if_ne (tgt := 205) dX6_clamp_198 (by decide) (fun c198 => ?_) (fun c198 => absurd c198 (by omega))
          refine g_iload dX6_clamp_205 rfl ?_
          refine g_if_eq (tgt := 214) dX6_clamp_207 (by decide) (fun c207 => absurd c207 (by omega)) (fun c207 => ?_)
          refine g_iconst (x := 2) dX6_clamp_210 (by decide) ?_
          refine g_goto (tgt := 215) dX6_clamp_211 (by decide) ?_
          refine m_iast (len := 60) dX6_clamp_215 rfl ⟨by omega, by omega⟩ (by omega) (by omega) ?_
          refine g_aload_n dX6_clamp_216 rfl rfl ?_
          refine g_aload_n dX6_clamp_217 rfl rfl ?_
          refine m_getI (x := M 74 14) dX6_clamp_218 (fX6_73 l) rfl rfl ⟨by omega, by omega⟩ (by simp [up]) ?_
          refine g_iconst (x := 1) dX6_clamp_221 (by decide) ?_
          refine e_ior (v := gor (M 74 14) 1) dX6_clamp_222 rfl ?_
          refine m_putI dX6_clamp_223 (fX6_73 l) gTX6 ⟨rfl, rfl⟩ rfl rfl ⟨by omega, by omega⟩ ?_
          refine g_aload_n dX6_clamp_226 rfl rfl ?_
          refine m_getI (x := M 74 10) dX6_clamp_227 (fX6_79 l) rfl rfl ⟨by omega, by omega⟩ (by simp [up]) ?_
          refine g_bipush (x := 20) dX6_clamp_230 (by decide) ?_
          refine g_icmp_ge (tgt := 243) dX6_clamp_232 (by decide) (fun c232 => ?_) (fun c232 => ?_)
          · refine g_aload_n dX6_clamp_243 rfl rfl ?_
            refine g_aload_n dX6_clamp_244 rfl rfl ?_
            refine m_getI (x := gor (M 74 14) 1) dX6_clamp_245 (fX6_73 l) rfl rfl ⟨by omega, by omega⟩ (by simp [up]) ?_
            refine g_iconst (x := 2) dX6_clamp_248 (by decide) ?_
            refine e_ior (v := gor (gor (M 74 14) 1) 2) dX6_clamp_249 rfl ?_
            refine m_putI dX6_clamp_250 (fX6_73 l) gTX6 ⟨rfl, rfl⟩ rfl rfl ⟨by omega, by omega⟩ ?_
            exact g_vret dX6_clamp_253 rfl ⟨rfl, congrArg (hS L S) (by rw [xClamp, if_neg (by omega), if_pos c53, xJudge, if_neg (by omega), if_pos c138, xFail, show xDone M c 74 10 = M 74 10 from by simp [up, xDone], show xDone M c 74 14 = M 74 14 from by simp [up, xDone], if_neg (by omega)]; first | done | rfl)⟩
          · refine g_aload_n dX6_clamp_235 rfl rfl ?_
            refine g_iload_n dX6_clamp_236 rfl rfl ?_
            refine g_Vv1 dX6_clamp_237 (sX6_clamp_237 l) rfl (by show 74 < 87; omega) (Nat.le_of_ble_eq_true rfl) (cX6_toSiding l (M := up (up (up (up (up M 79 c (gadd (M 79 c) 1)) 79 c (-1)) 78 c 0) 83 c 2) 74 14 (gor (M 74 14) 1)) hc (by rw [show (up (up (up (up (up M 79 c (gadd (M 79 c) 1)) 79 c (-1)) 78 c 0) 83 c 2) 74 14 (gor (M 74 14) 1)) 74 10 = M 74 10 from by simp [up]]; exact hm.1.1) (by rw [show (up (up (up (up (up M 79 c (gadd (M 79 c) 1)) 79 c (-1)) 78 c 0) 83 c 2) 74 14 (gor (M 74 14) 1)) 74 10 = M 74 10 from by simp [up]]; exact c232)) ?_
            refine g_goto (tgt := 253) dX6_clamp_240 (by decide) ?_
            exact g_vret dX6_clamp_253 rfl ⟨rfl, congrArg (hS L S) (by rw [xClamp, if_neg (by omega), if_pos c53, xJudge, if_neg (by omega), if_pos c138, xFail, show xDone M c 74 10 = M 74 10 from by simp [up, xDone], show xDone M c 74 14 = M 74 14 from by simp [up, xDone], if_pos c232]; first | done | rfl)⟩
        · refine g_iconst (x := 1) dX6_clamp_141 (by decide) ?_
          refine g_goto (tgt := 146) dX6_clamp_142 (by decide) ?_
          refine e_istore (loc' := [gR (some 74), gI (c : Int), gI 1, gI (M 80 c), gI (M 81 c), gI 1, gI 1]) dX6_clamp_146 (by decide) rfl ?_
          refine g_aload_n dX6_clamp_148 rfl rfl ?_
          refine p_getR (o := some 79) dX6_clamp_149 (fX6_22 l) (by decide) rfl (by omega) rfl ?_
          refine g_iload_n dX6_clamp_152 rfl rfl ?_
          refine g_iconst (x := -1) dX6_clamp_153 (by decide) ?_
          refine m_iast (len := 60) dX6_clamp_154 rfl ⟨by omega, by omega⟩ (by omega) (by omega) ?_
          refine g_aload_n dX6_clamp_155 rfl rfl ?_
          refine p_getR (o := some 78) dX6_clamp_156 (fX6_19 l) (by decide) rfl (by omega) rfl ?_
          refine g_iload_n dX6_clamp_159 rfl rfl ?_
          refine g_iconst (x := 0) dX6_clamp_160 (by decide) ?_
          refine m_iast (len := 60) dX6_clamp_161 rfl ⟨by omega, by omega⟩ (by omega) (by omega) ?_
          refine g_iload dX6_clamp_162 rfl ?_
          refine g_if_eq (tgt := 192) dX6_clamp_164 (by decide) (fun c164 => absurd c164 (by omega)) (fun c164 => ?_)
          refine g_aload_n dX6_clamp_167 rfl rfl ?_
          refine p_getR (o := some 75) dX6_clamp_168 (fX6_7 l) (by decide) rfl (by omega) rfl ?_
          refine g_iload_n dX6_clamp_171 rfl rfl ?_
          refine g_iconst (x := 3) dX6_clamp_172 (by decide) ?_
          refine m_iast (len := 60) dX6_clamp_173 rfl ⟨by omega, by omega⟩ (by omega) (by omega) ?_
          refine g_aload_n dX6_clamp_174 rfl rfl ?_
          refine p_getR (o := some 76) dX6_clamp_175 (fX6_13 l) (by decide) rfl (by omega) rfl ?_
          refine g_iload_n dX6_clamp_178 rfl rfl ?_
          refine g_iconst (x := 0) dX6_clamp_179 (by decide) ?_
          refine m_iast (len := 60) dX6_clamp_180 rfl ⟨by omega, by omega⟩ (by omega) (by omega) ?_
          refine g_aload_n dX6_clamp_181 rfl rfl ?_
          refine p_getR (o := some 82) dX6_clamp_182 (fX6_31 l) (by decide) rfl (by omega) rfl ?_
          refine g_iload_n dX6_clamp_185 rfl rfl ?_
          refine g_dup2 dX6_clamp_186 ?_
          refine m_iald (len := 60) (x := M 82 c) dX6_clamp_187 rfl ⟨by omega, by omega⟩ (by omega) (by omega) (by simp [up]) ?_
          refine g_iconst (x := 1) dX6_clamp_188 (by decide) ?_
          refine e_iadd (v := gadd (M 82 c) 1) dX6_clamp_189 rfl ?_
          refine m_iast (len := 60) dX6_clamp_190 rfl ⟨by omega, by omega⟩ (by omega) (by omega) ?_
          exact g_vret dX6_clamp_191 rfl ⟨rfl, congrArg (hS L S) (by rw [xClamp, if_neg (by omega), if_pos c53, xJudge, if_neg (by omega), if_neg (by omega), xOk, show xDone M c 82 c = M 82 c from by simp [up, xDone]]; first | done | rfl)⟩
set_option maxHeartbeats 1000000 in
theorem cX6_work (l : Launch) {L : Nat} {S : sT} {M : Nat → Nat → Int} (hm : Wm M) {s : Int} {z : Nat} (hz : z ≤ 12) : gMv (gπ l) mX6_work yX6_work [gR (some 74), gI s, gI (z : Int)] (hS L S M) (hS L S (xWork M s z)) := by
  refine gMet_of pnX6 rfl rfl rfl (Nat.le_of_ble_eq_true rfl) (gAr (gAi (gAi gAn))) ?_
  show G (gπ l) mX6_work 0 [gR (some 74), gI s, gI (z : Int), gU] [] (hS L S M) 0 0 _
  refine g_aload_n dX6_work_0 rfl rfl ?_
  refine g_iload_n dX6_work_1 rfl rfl ?_
  refine g_iload_n dX6_work_2 rfl rfl ?_
  refine g_Vi2 dX6_work_3 (sX6_work_3 l) rfl (by show 74 < 87; omega) (Nat.le_of_ble_eq_true rfl) (cX6_in l) ?_
  refine e_istore_n (loc' := [gR (some 74), gI s, gI (z : Int), gI (xIn M s (z : Int))]) dX6_work_6 rfl (by decide) rfl ?_
  refine g_iload_n dX6_work_7 rfl rfl ?_
  refine g_if_ge (tgt := 12) dX6_work_8 (by decide) (fun c8 => ?_) (fun c8 => ?_)
  · have hr := xIn_rng (M := M) (s := s) (z := (z : Int))
    obtain ⟨c, hc⟩ : ∃ c : Nat, xIn M s (z : Int) = (c : Int) := ⟨(xIn M s (z : Int)).toNat, by omega⟩
    have e0 : (xIn M s (z : Int)).toNat = c := by omega
    have hc60 : c < 60 := by omega
    rw [hc]
    refine g_aload_n dX6_work_12 rfl rfl ?_
    refine p_getR (o := some 78) dX6_work_13 (fX6_19 l) (by decide) rfl (by omega) rfl ?_
    refine g_iload_n dX6_work_16 rfl rfl ?_
    refine g_dup2 dX6_work_17 ?_
    refine m_iald (len := 60) (x := M 78 c) dX6_work_18 rfl ⟨by omega, by omega⟩ (by omega) (by omega) rfl ?_
    refine g_iconst (x := 1) dX6_work_19 (by decide) ?_
    refine e_iadd (v := gadd (M 78 c) 1) dX6_work_20 rfl ?_
    refine m_iast (len := 60) dX6_work_21 rfl ⟨by omega, by omega⟩ (by omega) (by omega) ?_
    refine g_iload_n dX6_work_22 rfl rfl ?_
    refine g_bipush (x := 12) dX6_work_23 (by decide) ?_
    refine g_icmp_ge (tgt := 62) dX6_work_25 (by decide) (fun c25 => ?_) (fun c25 => ?_)
    · refine g_aload_n dX6_work_62 rfl rfl ?_
      refine p_getR (o := some 79) dX6_work_63 (fX6_22 l) (by decide) rfl (by omega) rfl ?_
      refine g_iload_n dX6_work_66 rfl rfl ?_
      refine m_iald (len := 60) (x := M 79 c) dX6_work_67 rfl ⟨by omega, by omega⟩ (by omega) (by omega) (up_cell (by omega)) ?_
      refine g_if_lt (tgt := 79) dX6_work_68 (by decide) (fun c68 => ?_) (fun c68 => ?_)
      · refine g_aload_n dX6_work_79 rfl rfl ?_
        refine p_getR (o := some 78) dX6_work_80 (fX6_19 l) (by decide) rfl (by omega) rfl ?_
        refine g_iload_n dX6_work_83 rfl rfl ?_
        refine m_iald (len := 60) (x := gadd (M 78 c) 1) dX6_work_84 rfl ⟨by omega, by omega⟩ (by omega) (by omega) up_same ?_
        refine g_bipush (x := 15) dX6_work_85 (by decide) ?_
        refine g_icmp_lt (tgt := 126) dX6_work_87 (by decide) (fun c87 => ?_) (fun c87 => ?_)
        · exact g_vret dX6_work_126 rfl ⟨rfl, congrArg (hS L S) (by rw [xWork, if_neg (by omega), e0, if_neg (by omega), if_neg (by omega), if_neg (by first | omega | (rintro ⟨q1, q2, q3⟩; first | omega | (rw [q3] at c102; simp at c102)))]; first | done | rfl)⟩
        · refine g_aload_n dX6_work_90 rfl rfl ?_
          refine m_getI (x := M 74 14) dX6_work_91 (fX6_73 l) rfl rfl ⟨by omega, by omega⟩ (up_cell (by omega)) ?_
          refine g_if_ne (tgt := 126) dX6_work_94 (by decide) (fun c94 => ?_) (fun c94 => ?_)
          · exact g_vret dX6_work_126 rfl ⟨rfl, congrArg (hS L S) (by rw [xWork, if_neg (by omega), e0, if_neg (by omega), if_neg (by omega), if_neg (by first | omega | (rintro ⟨q1, q2, q3⟩; first | omega | (rw [q3] at c102; simp at c102)))]; first | done | rfl)⟩
          · refine g_aload_n dX6_work_97 rfl rfl ?_
            refine g_iload_n dX6_work_98 rfl rfl ?_
            refine g_Vi1 dX6_work_99 (sX6_work_99 l) rfl (by show 74 < 87; omega) (Nat.le_of_ble_eq_true rfl) (cX6_isTooNear l (M := xAge M c) hm.age.2.1) ?_
            refine g_if_ne (tgt := 126) dX6_work_102 (by decide) (fun c102 => ?_) (fun c102 => ?_)
            · exact g_vret dX6_work_126 rfl ⟨rfl, congrArg (hS L S) (by rw [xWork, if_neg (by omega), e0, if_neg (by omega), if_neg (by omega), if_neg (by first | omega | (rintro ⟨q1, q2, q3⟩; first | omega | (rw [q3] at c102; simp at c102)))]; first | done | rfl)⟩
            · refine g_aload_n dX6_work_105 rfl rfl ?_
              refine p_getR (o := some 79) dX6_work_106 (fX6_22 l) (by decide) rfl (by omega) rfl ?_
              refine g_iload_n dX6_work_109 rfl rfl ?_
              refine g_iconst (x := 0) dX6_work_110 (by decide) ?_
              refine m_iast (len := 60) dX6_work_111 rfl ⟨by omega, by omega⟩ (by omega) (by omega) ?_
              refine g_aload_n dX6_work_112 rfl rfl ?_
              refine p_getR (o := some 80) dX6_work_113 (fX6_25 l) (by decide) rfl (by omega) rfl ?_
              refine g_iload_n dX6_work_116 rfl rfl ?_
              refine g_iconst (x := -1) dX6_work_117 (by decide) ?_
              refine m_iast (len := 60) dX6_work_118 rfl ⟨by omega, by omega⟩ (by omega) (by omega) ?_
              refine g_aload_n dX6_work_119 rfl rfl ?_
              refine p_getR (o := some 81) dX6_work_120 (fX6_28 l) (by decide) rfl (by omega) rfl ?_
              refine g_iload_n dX6_work_123 rfl rfl ?_
              refine g_iconst (x := -1) dX6_work_124 (by decide) ?_
              refine m_iast (len := 60) dX6_work_125 rfl ⟨by omega, by omega⟩ (by omega) (by omega) ?_
              exact g_vret dX6_work_126 rfl ⟨rfl, congrArg (hS L S) (by rw [xWork, if_neg (by omega), e0, if_neg (by omega), if_neg (by omega), if_pos ⟨c87, c94, Bool.eq_false_iff.mpr (fun q => by rw [q] at c102; simp at c102)⟩]; first | done | rfl)⟩
      · refine g_aload_n dX6_work_71 rfl rfl ?_
        refine g_iload_n dX6_work_72 rfl rfl ?_
        refine g_Vv1 dX6_work_73 (sX6_work_73 l) rfl (by show 74 < 87; omega) (Nat.le_of_ble_eq_true rfl) (cX6_clamp l (M := xAge M c) hm.age hc60) ?_
        refine g_goto (tgt := 126) dX6_work_76 (by decide) ?_
        exact g_vret dX6_work_126 rfl ⟨rfl, congrArg (hS L S) (by rw [xWork, if_neg (by omega), e0, if_neg (by omega), if_pos c68]; first | done | rfl)⟩
    · refine g_aload_n dX6_work_28 rfl rfl ?_
      refine p_getR (o := some 78) dX6_work_29 (fX6_19 l) (by decide) rfl (by omega) rfl ?_
      refine g_iload_n dX6_work_32 rfl rfl ?_
      refine m_iald (len := 60) (x := gadd (M 78 c) 1) dX6_work_33 rfl ⟨by omega, by omega⟩ (by omega) (by omega) up_same ?_
      refine g_bipush (x := 15) dX6_work_34 (by decide) ?_
      refine g_icmp_lt (tgt := 126) dX6_work_36 (by decide) (fun c36 => ?_) (fun c36 => ?_)
      · exact g_vret dX6_work_126 rfl ⟨rfl, congrArg (hS L S) (by rw [xWork, if_neg (by omega), e0, if_pos (by omega), if_neg (by omega)]; first | done | rfl)⟩
      · refine g_aload_n dX6_work_39 rfl rfl ?_
        refine g_iload_n dX6_work_40 rfl rfl ?_
        refine g_iload_n dX6_work_41 rfl rfl ?_
        refine g_iconst (x := 1) dX6_work_42 (by decide) ?_
        refine e_iadd (v := ((z + 1 : Nat) : Int)) dX6_work_43 (gadd_nat (by omega)) ?_
        refine g_Vi2 dX6_work_44 (sX6_work_44 l) rfl (by show 74 < 87; omega) (Nat.le_of_ble_eq_true rfl) (gMi_to (xIn (xAge M c) s ((z + 1 : Nat) : Int)) (cX6_in l) rfl) ?_
        refine g_if_ge (tgt := 126) dX6_work_47 (by decide) (fun c47 => ?_) (fun c47 => ?_)
        · exact g_vret dX6_work_126 rfl ⟨rfl, congrArg (hS L S) (by rw [xWork, if_neg (by omega), e0, if_pos (by omega), if_neg (by omega)]; first | done | rfl)⟩
        · refine g_aload_n dX6_work_50 rfl rfl ?_
          refine g_iload_n dX6_work_51 rfl rfl ?_
          refine g_iload_n dX6_work_52 rfl rfl ?_
          refine g_iload_n dX6_work_53 rfl rfl ?_
          refine g_iconst (x := 1) dX6_work_54 (by decide) ?_
          refine e_iadd (v := ((z + 1 : Nat) : Int)) dX6_work_55 (gadd_nat (by omega)) ?_
          refine g_Vv3 dX6_work_56 (sX6_work_56 l) rfl (by show 74 < 87; omega) (Nat.le_of_ble_eq_true rfl) (cX6_enter l hc60) ?_
          refine g_goto (tgt := 126) dX6_work_59 (by decide) ?_
          exact g_vret dX6_work_126 rfl ⟨rfl, congrArg (hS L S) (by rw [xWork, if_neg (by omega), e0, if_pos (by omega), if_pos ⟨c36, c47⟩]; first | done | rfl)⟩
  · exact g_vret dX6_work_11 rfl ⟨rfl, congrArg (hS L S) (by rw [xWork, if_pos (by omega)])⟩
