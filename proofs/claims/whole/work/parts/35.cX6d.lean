/-! contracts: the calls of the reference, rest -/
set_option maxHeartbeats 1000000 in
theorem cX6_placeOf (l : Launch) {L : Nat} {S : sT} {M : Nat → Nat → Int} {c p sz : Nat} (hc : c < 60) (hsz : M 74 10 = (sz : Int)) (h20 : sz ≤ 20) (hp : p < sz) (hM : M 84 p = (c : Int)) (hno : ∀ j, j < p → M 84 j ≠ (c : Int)) : gMi (gπ l) mX6_placeOf yX6_placeOf [gR (some 74), gI (c : Int)] (hS L S M) ((p : Int)) (hS L S M) := by
  refine gMet_of pnX6 rfl rfl rfl (Nat.le_of_ble_eq_true rfl) (gAr (gAi gAn)) ?_
  show G (gπ l) mX6_placeOf 0 [gR (some 74), gI (c : Int), gU] [] (hS L S M) 0 0 _
  have loop : ∀ (m k : Nat), k + m = p → G (gπ l) mX6_placeOf 2 [gR (some 74), gI (c : Int), gI (k : Int)] [] (hS L S M) 0 0 (fun r k => r = some (some (gI ((p : Int)))) ∧ k = (hS L S M)) := by
    intro m
    induction m with
    | zero =>
      intro k hk
      have hq : M 84 k = (c : Int) := by rw [show k = p by omega]; exact hM
      refine g_aload_n dX6_placeOf_2 rfl rfl ?_
      refine p_getR (o := some 84) dX6_placeOf_3 (fX6_37 l) (by decide) rfl (by omega) rfl ?_
      refine g_iload_n dX6_placeOf_6 rfl rfl ?_
      refine m_iald (len := 20) (x := M 84 k) dX6_placeOf_7 rfl ⟨by omega, by omega⟩ (by omega) (by omega) rfl ?_
      refine g_iload_n dX6_placeOf_8 rfl rfl ?_
      refine g_icmp_eq (tgt := 18) dX6_placeOf_9 (by decide) (fun c9 => ?_) (fun c9 => absurd c9 (by omega))
      refine g_iload_n dX6_placeOf_18 rfl rfl ?_
      exact g_iret dX6_placeOf_19 (Or.inl rfl) ⟨by rw [show k = p by omega], rfl⟩
    | succ m ih =>
      intro k hk
      have hq := hno k (by omega)
      refine g_aload_n dX6_placeOf_2 rfl rfl ?_
      refine p_getR (o := some 84) dX6_placeOf_3 (fX6_37 l) (by decide) rfl (by omega) rfl ?_
      refine g_iload_n dX6_placeOf_6 rfl rfl ?_
      refine m_iald (len := 20) (x := M 84 k) dX6_placeOf_7 rfl ⟨by omega, by omega⟩ (by omega) (by omega) rfl ?_
      refine g_iload_n dX6_placeOf_8 rfl rfl ?_
      refine g_icmp_eq (tgt := 18) dX6_placeOf_9 (by decide) (fun c9 => absurd c9 (by omega)) (fun c9 => ?_)
      refine e_iinc (v := ((k + 1 : Nat) : Int)) (loc' := [gR (some 74), gI (c : Int), gI (((k + 1 : Nat) : Int))]) dX6_placeOf_12 (by decide) rfl (gadd_nat (by omega)) rfl ?_
      refine g_goto (tgt := 2) dX6_placeOf_15 (by decide) ?_
      exact ih (k + 1) (by omega)
  refine g_iconst (x := 0) dX6_placeOf_0 (by decide) ?_
  refine e_istore_n (loc' := [gR (some 74), gI (c : Int), gI 0]) dX6_placeOf_1 rfl (by decide) rfl ?_
  exact loop p 0 (by omega)
def xShift (M : Nat → Nat → Int) (p k : Nat) : Nat → Nat → Int := fun a b => if a = 84 ∧ p ≤ b ∧ b < k then M 84 (b + 1) else M a b
theorem xShift_0 {M : Nat → Nat → Int} {p : Nat} : xShift M p p = M := by
  funext a b; unfold xShift; rw [if_neg (by omega)]
theorem xShift_at {M : Nat → Nat → Int} {p k : Nat} : xShift M p k 84 (k + 1) = M 84 (k + 1) := by
  unfold xShift; rw [if_neg (by omega)]
theorem xShift_ne {M : Nat → Nat → Int} {p k a b : Nat} (h : a ≠ 84) : xShift M p k a b = M a b := by
  unfold xShift; rw [if_neg (by omega)]
theorem xShift_put {M : Nat → Nat → Int} {p k : Nat} (h : p ≤ k) : up (xShift M p k) 84 k (M 84 (k + 1)) = xShift M p (k + 1) := by
  funext a b
  unfold up
  by_cases e : a = 84 ∧ b = k
  · obtain ⟨rfl, rfl⟩ := e
    rw [if_pos ⟨rfl, rfl⟩]; unfold xShift; rw [if_pos ⟨rfl, h, by omega⟩]
  · rw [if_neg e]; unfold xShift
    by_cases c : a = 84 ∧ p ≤ b ∧ b < k
    · rw [if_pos c, if_pos (by omega)]
    · rw [if_neg c, if_neg (by omega)]
def xUns (M : Nat → Nat → Int) (p sz : Nat) : Nat → Nat → Int := xShift (up M 74 10 ((sz - 1 : Nat) : Int)) p (sz - 1)
set_option maxHeartbeats 1000000 in
theorem cX6_unside (l : Launch) {L : Nat} {S : sT} {M : Nat → Nat → Int} {c p sz : Nat} (hc : c < 60) (hsz : M 74 10 = (sz : Int)) (h20 : sz ≤ 20) (hp : p < sz) (hM : M 84 p = (c : Int)) (hno : ∀ j, j < p → M 84 j ≠ (c : Int)) : gMv (gπ l) mX6_unside yX6_unside [gR (some 74), gI (c : Int)] (hS L S M) (hS L S (xUns M p sz)) := by
  refine gMet_of pnX6 rfl rfl rfl (Nat.le_of_ble_eq_true rfl) (gAr (gAi gAn)) ?_
  show G (gπ l) mX6_unside 0 [gR (some 74), gI (c : Int), gU, gU] [] (hS L S M) 0 0 _
  have loop2 : ∀ (m k : Nat), k + m = sz - 1 → p ≤ k → G (gπ l) mX6_unside 30 [gR (some 74), gI (c : Int), gI (p : Int), gI (k : Int)] [] (hS L S (xShift (up M 74 10 ((sz - 1 : Nat) : Int)) p k)) 0 0 (fun r k9 => r = some none ∧ k9 = hS L S (xUns M p sz)) := by
    intro m
    induction m with
    | zero =>
      intro k hk hpk
      refine g_iload_n dX6_unside_30 rfl rfl ?_
      refine g_aload_n dX6_unside_31 rfl rfl ?_
      refine m_getI (x := ((sz - 1 : Nat) : Int)) dX6_unside_32 (fX6_79 l) rfl rfl ⟨by omega, by omega⟩ (by rw [xShift_ne (by omega), up_same]) ?_
      refine g_icmp_ge (tgt := 58) dX6_unside_35 (by decide) (fun c35 => ?_) (fun c35 => absurd c35 (by omega))
      exact g_vret dX6_unside_58 rfl ⟨rfl, congrArg (hS L S) (by rw [xUns, show k = sz - 1 by omega])⟩
    | succ m ih =>
      intro k hk hpk
      refine g_iload_n dX6_unside_30 rfl rfl ?_
      refine g_aload_n dX6_unside_31 rfl rfl ?_
      refine m_getI (x := ((sz - 1 : Nat) : Int)) dX6_unside_32 (fX6_79 l) rfl rfl ⟨by omega, by omega⟩ (by rw [xShift_ne (by omega), up_same]) ?_
      refine g_icmp_ge (tgt := 58) dX6_unside_35 (by decide) (fun c35 => absurd c35 (by omega)) (fun c35 => ?_)
      refine g_aload_n dX6_unside_38 rfl rfl ?_
      refine p_getR (o := some 84) dX6_unside_39 (fX6_37 l) (by decide) rfl (by omega) rfl ?_
      refine g_iload_n dX6_unside_42 rfl rfl ?_
      refine g_aload_n dX6_unside_43 rfl rfl ?_
      refine p_getR (o := some 84) dX6_unside_44 (fX6_37 l) (by decide) rfl (by omega) rfl ?_
      refine g_iload_n dX6_unside_47 rfl rfl ?_
      refine g_iconst (x := 1) dX6_unside_48 (by decide) ?_
      refine e_iadd (v := ((k + 1 : Nat) : Int)) dX6_unside_49 (gadd_nat (by omega)) ?_
      refine m_iald (len := 20) (x := (up M 74 10 ((sz - 1 : Nat) : Int)) 84 (k + 1)) dX6_unside_50 rfl ⟨by omega, by omega⟩ (by omega) (by omega) xShift_at ?_
      refine m_iast (len := 20) dX6_unside_51 rfl ⟨by omega, by omega⟩ (by omega) (by omega) ?_
      refine e_iinc (v := ((k + 1 : Nat) : Int)) (loc' := [gR (some 74), gI (c : Int), gI (p : Int), gI (((k + 1 : Nat) : Int))]) dX6_unside_52 (by decide) rfl (gadd_nat (by omega)) rfl ?_
      refine g_goto (tgt := 30) dX6_unside_55 (by decide) ?_
      refine g_eq rfl (by rw [← xShift_put hpk]; first | done | rfl) (ih (k + 1) (by omega) (by omega))
  have loop : ∀ (m k : Nat), k + m = p → ∀ e3 : gV, G (gπ l) mX6_unside 2 [gR (some 74), gI (c : Int), gI (k : Int), e3] [] (hS L S M) 0 0 (fun r k9 => r = some none ∧ k9 = hS L S (xUns M p sz)) := by
    intro m
    induction m with
    | zero =>
      intro k hk e3
      obtain rfl : k = p := by omega
      refine g_aload_n dX6_unside_2 rfl rfl ?_
      refine p_getR (o := some 84) dX6_unside_3 (fX6_37 l) (by decide) rfl (by omega) rfl ?_
      refine g_iload_n dX6_unside_6 rfl rfl ?_
      refine m_iald (len := 20) (x := M 84 k) dX6_unside_7 rfl ⟨by omega, by omega⟩ (by omega) (by omega) rfl ?_
      refine g_iload_n dX6_unside_8 rfl rfl ?_
      refine g_icmp_eq (tgt := 18) dX6_unside_9 (by decide) (fun c9 => ?_) (fun c9 => absurd c9 (by omega))
      refine g_aload_n dX6_unside_18 rfl rfl ?_
      refine g_dupR dX6_unside_19 ?_
      refine m_getI (x := (sz : Int)) dX6_unside_20 (fX6_79 l) rfl rfl ⟨by omega, by omega⟩ hsz ?_
      refine g_iconst (x := 1) dX6_unside_23 (by decide) ?_
      refine e_isub (v := ((sz - 1 : Nat) : Int)) dX6_unside_24 (by rw [gsub_eq (by omega) (by omega)]; omega) ?_
      refine m_putI dX6_unside_25 (fX6_79 l) gTX6 ⟨rfl, rfl⟩ rfl rfl ⟨by omega, by omega⟩ ?_
      refine g_iload_n dX6_unside_28 rfl rfl ?_
      refine e_istore_n (loc' := [gR (some 74), gI (c : Int), gI (k : Int), gI (k : Int)]) dX6_unside_29 rfl (by decide) rfl ?_
      exact g_eq rfl (by rw [xShift_0]) (loop2 (sz - 1 - k) k (by omega) (by omega))
    | succ m ih =>
      intro k hk e3
      have hq := hno k (by omega)
      refine g_aload_n dX6_unside_2 rfl rfl ?_
      refine p_getR (o := some 84) dX6_unside_3 (fX6_37 l) (by decide) rfl (by omega) rfl ?_
      refine g_iload_n dX6_unside_6 rfl rfl ?_
      refine m_iald (len := 20) (x := M 84 k) dX6_unside_7 rfl ⟨by omega, by omega⟩ (by omega) (by omega) rfl ?_
      refine g_iload_n dX6_unside_8 rfl rfl ?_
      refine g_icmp_eq (tgt := 18) dX6_unside_9 (by decide) (fun c9 => absurd c9 (by omega)) (fun c9 => ?_)
      refine e_iinc (v := ((k + 1 : Nat) : Int)) (loc' := [gR (some 74), gI (c : Int), gI (((k + 1 : Nat) : Int)), e3]) dX6_unside_12 (by decide) rfl (gadd_nat (by omega)) rfl ?_
      refine g_goto (tgt := 2) dX6_unside_15 (by decide) ?_
      exact ih (k + 1) (by omega) e3
  refine g_iconst (x := 0) dX6_unside_0 (by decide) ?_
  refine e_istore_n (loc' := [gR (some 74), gI (c : Int), gI 0, gU]) dX6_unside_1 rfl (by decide) rfl ?_
  exact loop p 0 (by omega) gU
set_option maxHeartbeats 1000000 in
theorem cX6_putOn_x (l : Launch) {L : Nat} {S : sT} {M : Nat → Nat → Int} {M1 : Nat → Nat → Int} (hM1 : M1 = up M 74 0 1) {s c : Int} (hn : ¬ ((0 ≤ s ∧ s ≤ 1) ∧ 0 ≤ c ∧ c ≤ 59)) : gMi (gπ l) mX6_putOn yX6_putOn [gR (some 74), gI s, gI c] (hS L S M) (0) (hS L S M1) := by
  refine gMet_of pnX6 rfl rfl rfl (Nat.le_of_ble_eq_true rfl) (gAr (gAi (gAi gAn))) ?_
  show G (gπ l) mX6_putOn 0 [gR (some 74), gI s, gI c, gU] [] (hS L S M) 0 0 _
  refine g_aload_n dX6_putOn_0 rfl rfl ?_
  refine g_iload_n dX6_putOn_1 rfl rfl ?_
  refine g_Si1 dX6_putOn_2 (sX6_putOn_2 l) (Nat.le_of_ble_eq_true rfl) (cX6_isStation l) ?_
  refine g_if_eq (tgt := 15) dX6_putOn_5 (by decide) (fun c5 => ?_) (fun c5 => ?_)
  · refine g_iconst (x := 1) dX6_putOn_15 (by decide) ?_
    refine g_goto (tgt := 20) dX6_putOn_16 (by decide) ?_
    refine g_Vi1 dX6_putOn_20 (sX6_putOn_20 l) rfl (by show 74 < 87; omega) (Nat.le_of_ble_eq_true rfl) (cX6_fails1 l hM1) ?_
    refine g_if_ne (tgt := 54) dX6_putOn_23 (by decide) (fun c23 => ?_) (fun c23 => absurd c23 (by omega))
    refine g_iconst (x := 0) dX6_putOn_54 (by decide) ?_
    exact g_iret dX6_putOn_55 (Or.inr ⟨rfl, Or.inl rfl⟩) ⟨rfl, rfl⟩
  · refine g_iload_n dX6_putOn_8 rfl rfl ?_
    refine g_Si1 dX6_putOn_9 (sX6_putOn_9 l) (Nat.le_of_ble_eq_true rfl) (cX6_isCabin l) ?_
    refine g_if_ne (tgt := 19) dX6_putOn_12 (by decide) (fun c12 => ?_) (fun c12 => ?_)
    · exfalso
      (split at c5) <;> (split at c12) <;> omega
    · refine g_iconst (x := 1) dX6_putOn_15 (by decide) ?_
      refine g_goto (tgt := 20) dX6_putOn_16 (by decide) ?_
      refine g_Vi1 dX6_putOn_20 (sX6_putOn_20 l) rfl (by show 74 < 87; omega) (Nat.le_of_ble_eq_true rfl) (cX6_fails1 l hM1) ?_
      refine g_if_ne (tgt := 54) dX6_putOn_23 (by decide) (fun c23 => ?_) (fun c23 => absurd c23 (by omega))
      refine g_iconst (x := 0) dX6_putOn_54 (by decide) ?_
      exact g_iret dX6_putOn_55 (Or.inr ⟨rfl, Or.inl rfl⟩) ⟨rfl, rfl⟩
set_option maxHeartbeats 1000000 in
theorem cX6_putOn_0 (l : Launch) {L : Nat} {S : sT} {M : Nat → Nat → Int} {M0 : Nat → Nat → Int} (hM0 : M0 = up M 74 0 0) {s : Int} (hs : 0 ≤ s ∧ s ≤ 1) {c : Nat} (hc : c < 60) (hn : ¬ (M0 75 c = 1 ∧ anyTo (fun j => decide (0 ≤ xIn M0 s ((j + 1 : Nat) : Int))) 5 = false ∧ cntTo (fun c => decide (M0 75 c = 2)) 60 + cntTo (fun c => decide (M0 75 c = 3)) 60 < M0 74 15)) : gMi (gπ l) mX6_putOn yX6_putOn [gR (some 74), gI s, gI (c : Int)] (hS L S M) (0) (hS L S M0) := by
  refine gMet_of pnX6 rfl rfl rfl (Nat.le_of_ble_eq_true rfl) (gAr (gAi (gAi gAn))) ?_
  show G (gπ l) mX6_putOn 0 [gR (some 74), gI s, gI (c : Int), gU] [] (hS L S M) 0 0 _
  have loop : ∀ (m k : Nat), (M0 75 c = 1 ∧ cntTo (fun c => decide (M0 75 c = 2)) 60 + cntTo (fun c => decide (M0 75 c = 3)) 60 < M0 74 15) → k + m = 5 → anyTo (fun j => decide (0 ≤ xIn M0 s ((j + 1 : Nat) : Int))) k = false → G (gπ l) mX6_putOn 58 [gR (some 74), gI s, gI (c : Int), gI ((k + 1 : Nat) : Int)] [] (hS L S M0) 0 0 (fun r k9 => r = some (some (gI 0)) ∧ k9 = hS L S M0) := by
    intro m
    induction m with
    | zero =>
      intro k hA hk hno
      obtain rfl : k = 5 := by omega
      refine g_iload_n dX6_putOn_58 rfl rfl ?_
      refine g_bipush (x := 6) dX6_putOn_59 (by decide) ?_
      refine g_icmp_ge (tgt := 81) dX6_putOn_61 (by decide) (fun c61 => ?_) (fun c61 => absurd c61 (by omega))
      exact absurd ⟨hA.1, hno, hA.2⟩ hn
    | succ m ih =>
      intro k hA hk hno
      refine g_iload_n dX6_putOn_58 rfl rfl ?_
      refine g_bipush (x := 6) dX6_putOn_59 (by decide) ?_
      refine g_icmp_ge (tgt := 81) dX6_putOn_61 (by decide) (fun c61 => absurd c61 (by omega)) (fun c61 => ?_)
      refine g_aload_n dX6_putOn_64 rfl rfl ?_
      refine g_iload_n dX6_putOn_65 rfl rfl ?_
      refine g_iload_n dX6_putOn_66 rfl rfl ?_
      refine g_Vi2 dX6_putOn_67 (sX6_putOn_67 l) rfl (by show 74 < 87; omega) (Nat.le_of_ble_eq_true rfl) (cX6_in l) ?_
      refine g_if_lt (tgt := 75) dX6_putOn_70 (by decide) (fun c70 => ?_) (fun c70 => ?_)
      · refine e_iinc (v := ((k + 1 + 1 : Nat) : Int)) (loc' := [gR (some 74), gI s, gI (c : Int), gI (((k + 1 + 1 : Nat) : Int))]) dX6_putOn_75 (by decide) rfl (gadd_nat (by omega)) rfl ?_
        refine g_goto (tgt := 58) dX6_putOn_78 (by decide) ?_
        refine ih (k + 1) hA (by omega) ?_
        unfold anyTo
        rw [hno, Bool.false_or]
        exact decide_eq_false (by omega)
      · refine g_iconst (x := 0) dX6_putOn_73 (by decide) ?_
        exact g_iret dX6_putOn_74 (Or.inr ⟨rfl, Or.inl rfl⟩) ⟨rfl, rfl⟩
  refine g_aload_n dX6_putOn_0 rfl rfl ?_
  refine g_iload_n dX6_putOn_1 rfl rfl ?_
  refine g_Si1 dX6_putOn_2 (sX6_putOn_2 l) (Nat.le_of_ble_eq_true rfl) (gMi_to 1 (cX6_isStation l) (by rw [if_pos hs])) ?_
  refine g_if_eq (tgt := 15) dX6_putOn_5 (by decide) (fun c5 => absurd c5 (by omega)) (fun c5 => ?_)
  refine g_iload_n dX6_putOn_8 rfl rfl ?_
  refine g_Si1 dX6_putOn_9 (sX6_putOn_9 l) (Nat.le_of_ble_eq_true rfl) (gMi_to 1 (cX6_isCabin l) (by rw [if_pos ⟨by omega, by omega⟩])) ?_
  refine g_if_ne (tgt := 19) dX6_putOn_12 (by decide) (fun c12 => ?_) (fun c12 => absurd c12 (by omega))
  refine g_iconst (x := 0) dX6_putOn_19 (by decide) ?_
  refine g_Vi1 dX6_putOn_20 (sX6_putOn_20 l) rfl (by show 74 < 87; omega) (Nat.le_of_ble_eq_true rfl) (cX6_fails0 l hM0) ?_
  refine g_if_ne (tgt := 54) dX6_putOn_23 (by decide) (fun c23 => absurd c23 (by omega)) (fun c23 => ?_)
  refine g_aload_n dX6_putOn_26 rfl rfl ?_
  refine p_getR (o := some 75) dX6_putOn_27 (fX6_7 l) (by decide) rfl (by omega) rfl ?_
  refine g_iload_n dX6_putOn_30 rfl rfl ?_
  refine m_iald (len := 60) (x := M0 75 c) dX6_putOn_31 rfl ⟨by omega, by omega⟩ (by omega) (by omega) rfl ?_
  refine g_iconst (x := 1) dX6_putOn_32 (by decide) ?_
  refine g_icmp_ne (tgt := 54) dX6_putOn_33 (by decide) (fun c33 => ?_) (fun c33 => ?_)
  · refine g_iconst (x := 0) dX6_putOn_54 (by decide) ?_
    exact g_iret dX6_putOn_55 (Or.inr ⟨rfl, Or.inl rfl⟩) ⟨rfl, rfl⟩
  · refine g_aload_n dX6_putOn_36 rfl rfl ?_
    refine g_iconst (x := 2) dX6_putOn_37 (by decide) ?_
    refine g_Vi1 dX6_putOn_38 (sX6_putOn_38 l) rfl (by show 74 < 87; omega) (Nat.le_of_ble_eq_true rfl) (cX6_many l) ?_
    refine g_aload_n dX6_putOn_41 rfl rfl ?_
    refine g_iconst (x := 3) dX6_putOn_42 (by decide) ?_
    refine g_Vi1 dX6_putOn_43 (sX6_putOn_43 l) rfl (by show 74 < 87; omega) (Nat.le_of_ble_eq_true rfl) (cX6_many l) ?_
    refine e_iadd (v := cntTo (fun c => decide (M0 75 c = 2)) 60 + cntTo (fun c => decide (M0 75 c = 3)) 60) dX6_putOn_46 (gadd_eq (by have := cntTo_nn (p := (fun c => decide (M0 75 c = 2))) 60; have := cntTo_nn (p := (fun c => decide (M0 75 c = 3))) 60; omega) (by have := cntTo_nn (p := (fun c => decide (M0 75 c = 2))) 60; have := cntTo_nn (p := (fun c => decide (M0 75 c = 3))) 60; omega)) ?_
    refine g_aload_n dX6_putOn_47 rfl rfl ?_
    refine m_getI (x := M0 74 15) dX6_putOn_48 (fX6_43 l) rfl rfl ⟨by omega, by omega⟩ rfl ?_
    refine g_icmp_lt (tgt := 56) dX6_putOn_51 (by decide) (fun c51 => ?_) (fun c51 => ?_)
    · refine g_iconst (x := 1) dX6_putOn_56 (by decide) ?_
      refine e_istore_n (loc' := [gR (some 74), gI s, gI (c : Int), gI 1]) dX6_putOn_57 rfl (by decide) rfl ?_
      exact loop 5 0 ⟨c33, c51⟩ (by omega) rfl
    · refine g_iconst (x := 0) dX6_putOn_54 (by decide) ?_
      exact g_iret dX6_putOn_55 (Or.inr ⟨rfl, Or.inl rfl⟩) ⟨rfl, rfl⟩
set_option maxHeartbeats 1000000 in
theorem cX6_putOn_1 (l : Launch) {L : Nat} {S : sT} {M : Nat → Nat → Int} {M0 : Nat → Nat → Int} (hM0 : M0 = up M 74 0 0) {s : Int} (hs : 0 ≤ s ∧ s ≤ 1) {c p sz : Nat} (hc : c < 60) (g1 : M0 75 c = 1) (g2 : anyTo (fun j => decide (0 ≤ xIn M0 s ((j + 1 : Nat) : Int))) 5 = false) (g3 : cntTo (fun c => decide (M0 75 c = 2)) 60 + cntTo (fun c => decide (M0 75 c = 3)) 60 < M0 74 15) (hsz : M0 74 10 = (sz : Int)) (h20 : sz ≤ 20) (hp : p < sz) (hM : M0 84 p = (c : Int)) (hno : ∀ j, j < p → M0 84 j ≠ (c : Int)) : gMi (gπ l) mX6_putOn yX6_putOn [gR (some 74), gI s, gI (c : Int)] (hS L S M) (1) (hS L S (xEnt (xUns M0 p sz) c s 5)) := by
  refine gMet_of pnX6 rfl rfl rfl (Nat.le_of_ble_eq_true rfl) (gAr (gAi (gAi gAn))) ?_
  show G (gπ l) mX6_putOn 0 [gR (some 74), gI s, gI (c : Int), gU] [] (hS L S M) 0 0 _
  have loop : ∀ (m k : Nat), (M0 75 c = 1 ∧ cntTo (fun c => decide (M0 75 c = 2)) 60 + cntTo (fun c => decide (M0 75 c = 3)) 60 < M0 74 15) → k + m = 5 → anyTo (fun j => decide (0 ≤ xIn M0 s ((j + 1 : Nat) : Int))) k = false → G (gπ l) mX6_putOn 58 [gR (some 74), gI s, gI (c : Int), gI ((k + 1 : Nat) : Int)] [] (hS L S M0) 0 0 (fun r k9 => r = some (some (gI 1)) ∧ k9 = hS L S (xEnt (xUns M0 p sz) c s 5)) := by
    intro m
    induction m with
    | zero =>
      intro k hA hk hno
      obtain rfl : k = 5 := by omega
      refine g_iload_n dX6_putOn_58 rfl rfl ?_
      refine g_bipush (x := 6) dX6_putOn_59 (by decide) ?_
      refine g_icmp_ge (tgt := 81) dX6_putOn_61 (by decide) (fun c61 => ?_) (fun c61 => absurd c61 (by omega))
      refine g_aload_n dX6_putOn_81 rfl rfl ?_
      refine g_iload_n dX6_putOn_82 rfl rfl ?_
      refine g_Vv1 dX6_putOn_83 (sX6_putOn_83 l) rfl (by show 74 < 87; omega) (Nat.le_of_ble_eq_true rfl) (cX6_unside l hc hsz h20 hp hM ‹∀ j, j < p → M0 84 j ≠ (c : Int)›) ?_
      refine g_aload_n dX6_putOn_86 rfl rfl ?_
      refine g_iload_n dX6_putOn_87 rfl rfl ?_
      refine g_iload_n dX6_putOn_88 rfl rfl ?_
      refine g_iconst (x := 5) dX6_putOn_89 (by decide) ?_
      refine g_Vv3 dX6_putOn_90 (sX6_putOn_90 l) rfl (by show 74 < 87; omega) (Nat.le_of_ble_eq_true rfl) (cX6_enter l hc) ?_
      refine g_iconst (x := 1) dX6_putOn_93 (by decide) ?_
      exact g_iret dX6_putOn_94 (Or.inr ⟨rfl, Or.inr rfl⟩) ⟨rfl, rfl⟩
    | succ m ih =>
      intro k hA hk hno
      refine g_iload_n dX6_putOn_58 rfl rfl ?_
      refine g_bipush (x := 6) dX6_putOn_59 (by decide) ?_
      refine g_icmp_ge (tgt := 81) dX6_putOn_61 (by decide) (fun c61 => absurd c61 (by omega)) (fun c61 => ?_)
      refine g_aload_n dX6_putOn_64 rfl rfl ?_
      refine g_iload_n dX6_putOn_65 rfl rfl ?_
      refine g_iload_n dX6_putOn_66 rfl rfl ?_
      refine g_Vi2 dX6_putOn_67 (sX6_putOn_67 l) rfl (by show 74 < 87; omega) (Nat.le_of_ble_eq_true rfl) (cX6_in l) ?_
      refine g_if_lt (tgt := 75) dX6_putOn_70 (by decide) (fun c70 => ?_) (fun c70 => ?_)
      · refine e_iinc (v := ((k + 1 + 1 : Nat) : Int)) (loc' := [gR (some 74), gI s, gI (c : Int), gI (((k + 1 + 1 : Nat) : Int))]) dX6_putOn_75 (by decide) rfl (gadd_nat (by omega)) rfl ?_
        refine g_goto (tgt := 58) dX6_putOn_78 (by decide) ?_
        refine ih (k + 1) hA (by omega) ?_
        unfold anyTo
        rw [hno, Bool.false_or]
        exact decide_eq_false (by omega)
      · exact absurd g2 (by rw [(anyTo_iff 5).mpr ⟨k, by omega, decide_eq_true c70⟩]; simp)
  refine g_aload_n dX6_putOn_0 rfl rfl ?_
  refine g_iload_n dX6_putOn_1 rfl rfl ?_
  refine g_Si1 dX6_putOn_2 (sX6_putOn_2 l) (Nat.le_of_ble_eq_true rfl) (gMi_to 1 (cX6_isStation l) (by rw [if_pos hs])) ?_
  refine g_if_eq (tgt := 15) dX6_putOn_5 (by decide) (fun c5 => absurd c5 (by omega)) (fun c5 => ?_)
  refine g_iload_n dX6_putOn_8 rfl rfl ?_
  refine g_Si1 dX6_putOn_9 (sX6_putOn_9 l) (Nat.le_of_ble_eq_true rfl) (gMi_to 1 (cX6_isCabin l) (by rw [if_pos ⟨by omega, by omega⟩])) ?_
  refine g_if_ne (tgt := 19) dX6_putOn_12 (by decide) (fun c12 => ?_) (fun c12 => absurd c12 (by omega))
  refine g_iconst (x := 0) dX6_putOn_19 (by decide) ?_
  refine g_Vi1 dX6_putOn_20 (sX6_putOn_20 l) rfl (by show 74 < 87; omega) (Nat.le_of_ble_eq_true rfl) (cX6_fails0 l hM0) ?_
  refine g_if_ne (tgt := 54) dX6_putOn_23 (by decide) (fun c23 => absurd c23 (by omega)) (fun c23 => ?_)
  refine g_aload_n dX6_putOn_26 rfl rfl ?_
  refine p_getR (o := some 75) dX6_putOn_27 (fX6_7 l) (by decide) rfl (by omega) rfl ?_
  refine g_iload_n dX6_putOn_30 rfl rfl ?_
  refine m_iald (len := 60) (x := M0 75 c) dX6_putOn_31 rfl ⟨by omega, by omega⟩ (by omega) (by omega) rfl ?_
  refine g_iconst (x := 1) dX6_putOn_32 (by decide) ?_
  refine g_icmp_ne (tgt := 54) dX6_putOn_33 (by decide) (fun c33 => absurd c33 (by omega)) (fun c33 => ?_)
  refine g_aload_n dX6_putOn_36 rfl rfl ?_
  refine g_iconst (x := 2) dX6_putOn_37 (by decide) ?_
  refine g_Vi1 dX6_putOn_38 (sX6_putOn_38 l) rfl (by show 74 < 87; omega) (Nat.le_of_ble_eq_true rfl) (cX6_many l) ?_
  refine g_aload_n dX6_putOn_41 rfl rfl ?_
  refine g_iconst (x := 3) dX6_putOn_42 (by decide) ?_
  refine g_Vi1 dX6_putOn_43 (sX6_putOn_43 l) rfl (by show 74 < 87; omega) (Nat.le_of_ble_eq_true rfl) (cX6_many l) ?_
  refine e_iadd (v := cntTo (fun c => decide (M0 75 c = 2)) 60 + cntTo (fun c => decide (M0 75 c = 3)) 60) dX6_putOn_46 (gadd_eq (by have := cntTo_nn (p := (fun c => decide (M0 75 c = 2))) 60; have := cntTo_nn (p := (fun c => decide (M0 75 c = 3))) 60; omega) (by have := cntTo_nn (p := (fun c => decide (M0 75 c = 2))) 60; have := cntTo_nn (p := (fun c => decide (M0 75 c = 3))) 60; omega)) ?_
  refine g_aload_n dX6_putOn_47 rfl rfl ?_
  refine m_getI (x := M0 74 15) dX6_putOn_48 (fX6_43 l) rfl rfl ⟨by omega, by omega⟩ rfl ?_
  refine g_icmp_lt (tgt := 56) dX6_putOn_51 (by decide) (fun c51 => ?_) (fun c51 => absurd c51 (by omega))
  refine g_iconst (x := 1) dX6_putOn_56 (by decide) ?_
  refine e_istore_n (loc' := [gR (some 74), gI s, gI (c : Int), gI 1]) dX6_putOn_57 rfl (by decide) rfl ?_
  exact loop 5 0 ⟨c33, c51⟩ (by omega) rfl
set_option maxHeartbeats 1000000 in
theorem cX6_plan_x (l : Launch) {L : Nat} {S : sT} {M : Nat → Nat → Int} {M1 : Nat → Nat → Int} (hM1 : M1 = up M 74 0 1) {v : Int} (h1 : ¬ (1 ≤ v ∧ v ≤ 900)) : gMi (gπ l) mX6_plan yX6_plan [gR (some 74), gI v] (hS L S M) (0) (hS L S M1) := by
  refine gMet_of pnX6 rfl rfl rfl (Nat.le_of_ble_eq_true rfl) (gAr (gAi gAn)) ?_
  show G (gπ l) mX6_plan 0 [gR (some 74), gI v] [] (hS L S M) 0 0 _
  refine g_aload_n dX6_plan_0 rfl rfl ?_
  refine g_iload_n dX6_plan_1 rfl rfl ?_
  refine g_iconst (x := 1) dX6_plan_2 (by decide) ?_
  refine g_sipush (x := 900) dX6_plan_3 (by decide) ?_
  refine g_Si3 dX6_plan_6 (sX6_plan_6 l) (Nat.le_of_ble_eq_true rfl) (gMi_to 0 (cX6_isIn l) (by rw [if_neg h1])) ?_
  refine g_if_ne (tgt := 16) dX6_plan_9 (by decide) (fun c9 => absurd c9 (by omega)) (fun c9 => ?_)
  refine g_iconst (x := 1) dX6_plan_12 (by decide) ?_
  refine g_goto (tgt := 17) dX6_plan_13 (by decide) ?_
  refine g_Vi1 dX6_plan_17 (sX6_plan_17 l) rfl (by show 74 < 87; omega) (Nat.le_of_ble_eq_true rfl) (cX6_fails1 l hM1) ?_
  refine g_if_eq (tgt := 25) dX6_plan_20 (by decide) (fun c20 => absurd c20 (by omega)) (fun c20 => ?_)
  refine g_iconst (x := 0) dX6_plan_23 (by decide) ?_
  exact g_iret dX6_plan_24 (Or.inl rfl) ⟨rfl, rfl⟩
set_option maxHeartbeats 1000000 in
theorem cX6_plan (l : Launch) {L : Nat} {S : sT} {M : Nat → Nat → Int} {M0 : Nat → Nat → Int} (hM0 : M0 = up M 74 0 0) {v : Int} (h1 : 1 ≤ v ∧ v ≤ 900) : gMi (gπ l) mX6_plan yX6_plan [gR (some 74), gI v] (hS L S M) ((v + 14) / 15) (hS L S (up M0 74 15 ((v + 14) / 15))) := by
  refine gMet_of pnX6 rfl rfl rfl (Nat.le_of_ble_eq_true rfl) (gAr (gAi gAn)) ?_
  show G (gπ l) mX6_plan 0 [gR (some 74), gI v] [] (hS L S M) 0 0 _
  have loop : ∀ (m q : Nat), 1 ≤ q → ((q + m : Nat) : Int) = (v + 14) / 15 → G (gπ l) mX6_plan 30 [gR (some 74), gI v] [] (hS L S (up M0 74 15 (q : Int))) 0 0 (fun r k9 => r = some (some (gI ((v + 14) / 15))) ∧ k9 = hS L S (up M0 74 15 ((v + 14) / 15))) := by
    intro m
    induction m with
    | zero =>
      intro q hq1 hq
      refine g_bipush (x := 15) dX6_plan_30 (by decide) ?_
      refine g_aload_n dX6_plan_32 rfl rfl ?_
      refine m_getI (x := (q : Int)) dX6_plan_33 (fX6_43 l) rfl rfl ⟨by omega, by omega⟩ up_same ?_
      refine e_imul (v := 15 * (q : Int)) dX6_plan_36 (gmul_eq (by omega) (by omega)) ?_
      refine g_iload_n dX6_plan_37 rfl rfl ?_
      refine g_icmp_ge (tgt := 54) dX6_plan_38 (by decide) (fun c38 => ?_) (fun c38 => absurd c38 (by omega))
      refine g_aload_n dX6_plan_54 rfl rfl ?_
      refine m_getI (x := (q : Int)) dX6_plan_55 (fX6_43 l) rfl rfl ⟨by omega, by omega⟩ up_same ?_
      exact g_iret dX6_plan_58 (Or.inl rfl) ⟨congrArg gK1 (by omega), congrArg (hS L S) (by rw [← hq]; rfl)⟩
    | succ m ih =>
      intro q hq1 hq
      refine g_bipush (x := 15) dX6_plan_30 (by decide) ?_
      refine g_aload_n dX6_plan_32 rfl rfl ?_
      refine m_getI (x := (q : Int)) dX6_plan_33 (fX6_43 l) rfl rfl ⟨by omega, by omega⟩ up_same ?_
      refine e_imul (v := 15 * (q : Int)) dX6_plan_36 (gmul_eq (by omega) (by omega)) ?_
      refine g_iload_n dX6_plan_37 rfl rfl ?_
      refine g_icmp_ge (tgt := 54) dX6_plan_38 (by decide) (fun c38 => absurd c38 (by omega)) (fun c38 => ?_)
      refine g_aload_n dX6_plan_41 rfl rfl ?_
      refine g_dupR dX6_plan_42 ?_
      refine m_getI (x := (q : Int)) dX6_plan_43 (fX6_43 l) rfl rfl ⟨by omega, by omega⟩ up_same ?_
      refine g_iconst (x := 1) dX6_plan_46 (by decide) ?_
      refine e_iadd (v := ((q + 1 : Nat) : Int)) dX6_plan_47 (gadd_nat (by omega)) ?_
      refine m_putI dX6_plan_48 (fX6_43 l) gTX6 ⟨rfl, rfl⟩ rfl rfl ⟨by omega, by omega⟩ ?_
      refine g_goto (tgt := 30) dX6_plan_51 (by decide) ?_
      exact g_eq rfl (by rw [up_up]) (ih (q + 1) (by omega) (by omega))
  refine g_aload_n dX6_plan_0 rfl rfl ?_
  refine g_iload_n dX6_plan_1 rfl rfl ?_
  refine g_iconst (x := 1) dX6_plan_2 (by decide) ?_
  refine g_sipush (x := 900) dX6_plan_3 (by decide) ?_
  refine g_Si3 dX6_plan_6 (sX6_plan_6 l) (Nat.le_of_ble_eq_true rfl) (gMi_to 1 (cX6_isIn l) (by rw [if_pos h1])) ?_
  refine g_if_ne (tgt := 16) dX6_plan_9 (by decide) (fun c9 => ?_) (fun c9 => absurd c9 (by omega))
  refine g_iconst (x := 0) dX6_plan_16 (by decide) ?_
  refine g_Vi1 dX6_plan_17 (sX6_plan_17 l) rfl (by show 74 < 87; omega) (Nat.le_of_ble_eq_true rfl) (cX6_fails0 l hM0) ?_
  refine g_if_eq (tgt := 25) dX6_plan_20 (by decide) (fun c20 => ?_) (fun c20 => absurd c20 (by omega))
  refine g_aload_n dX6_plan_25 rfl rfl ?_
  refine g_iconst (x := 1) dX6_plan_26 (by decide) ?_
  refine m_putI dX6_plan_27 (fX6_43 l) gTX6 ⟨rfl, rfl⟩ rfl rfl ⟨by omega, by omega⟩ ?_
  exact loop (((v + 14) / 15).toNat - 1) 1 (by omega) (by omega)
def xCause (M : Nat → Nat → Int) (k : Int) : Bool := decide (k = 1 ∧ M 74 10 = 20) || decide (k = 2 ∧ 250 < xMid M) || (decide (k = 3) && xOver M)
set_option maxHeartbeats 1000000 in
theorem cX6_release_x (l : Launch) {L : Nat} {S : sT} {M : Nat → Nat → Int} {M1 : Nat → Nat → Int} (hM1 : M1 = up M 74 0 1) {k : Int} (h1 : ¬ (0 ≤ k ∧ k ≤ 3)) : gMi (gπ l) mX6_release yX6_release [gR (some 74), gI k] (hS L S M) (0) (hS L S M1) := by
  refine gMet_of pnX6 rfl rfl rfl (Nat.le_of_ble_eq_true rfl) (gAr (gAi gAn)) ?_
  show G (gπ l) mX6_release 0 [gR (some 74), gI k] [] (hS L S M) 0 0 _
  refine g_aload_n dX6_release_0 rfl rfl ?_
  refine g_iload_n dX6_release_1 rfl rfl ?_
  refine g_iconst (x := 0) dX6_release_2 (by decide) ?_
  refine g_iconst (x := 3) dX6_release_3 (by decide) ?_
  refine g_Si3 dX6_release_4 (sX6_release_4 l) (Nat.le_of_ble_eq_true rfl) (gMi_to 0 (cX6_isIn l) (by rw [if_neg h1])) ?_
  refine g_if_ne (tgt := 14) dX6_release_7 (by decide) (fun c7 => absurd c7 (by omega)) (fun c7 => ?_)
  refine g_iconst (x := 1) dX6_release_10 (by decide) ?_
  refine g_goto (tgt := 15) dX6_release_11 (by decide) ?_
  refine g_Vi1 dX6_release_15 (sX6_release_15 l) rfl (by show 74 < 87; omega) (Nat.le_of_ble_eq_true rfl) (cX6_fails1 l hM1) ?_
  refine g_if_ne (tgt := 32) dX6_release_18 (by decide) (fun c18 => ?_) (fun c18 => absurd c18 (by omega))
  refine g_iconst (x := 0) dX6_release_32 (by decide) ?_
  exact g_iret dX6_release_33 (Or.inr ⟨rfl, Or.inl rfl⟩) ⟨rfl, rfl⟩
set_option maxHeartbeats 1000000 in
theorem cX6_release_0 (l : Launch) {L : Nat} {S : sT} {M : Nat → Nat → Int} {M0 : Nat → Nat → Int} (hM0 : M0 = up M 74 0 0) (hm : Wm M0) {k : Int} (h1 : 0 ≤ k ∧ k ≤ 3) (hn : ¬ (gand (gshr (M0 74 14) k) 1 ≠ 0 ∧ xCause M0 k = false)) : gMi (gπ l) mX6_release yX6_release [gR (some 74), gI k] (hS L S M) (0) (hS L S M0) := by
  refine gMet_of pnX6 rfl rfl rfl (Nat.le_of_ble_eq_true rfl) (gAr (gAi gAn)) ?_
  show G (gπ l) mX6_release 0 [gR (some 74), gI k] [] (hS L S M) 0 0 _
  refine g_aload_n dX6_release_0 rfl rfl ?_
  refine g_iload_n dX6_release_1 rfl rfl ?_
  refine g_iconst (x := 0) dX6_release_2 (by decide) ?_
  refine g_iconst (x := 3) dX6_release_3 (by decide) ?_
  refine g_Si3 dX6_release_4 (sX6_release_4 l) (Nat.le_of_ble_eq_true rfl) (gMi_to 1 (cX6_isIn l) (by rw [if_pos h1])) ?_
  refine g_if_ne (tgt := 14) dX6_release_7 (by decide) (fun c7 => ?_) (fun c7 => absurd c7 (by omega))
  refine g_iconst (x := 0) dX6_release_14 (by decide) ?_
  refine g_Vi1 dX6_release_15 (sX6_release_15 l) rfl (by show 74 < 87; omega) (Nat.le_of_ble_eq_true rfl) (cX6_fails0 l hM0) ?_
  refine g_if_ne (tgt := 32) dX6_release_18 (by decide) (fun c18 => absurd c18 (by omega)) (fun c18 => ?_)
  refine g_aload_n dX6_release_21 rfl rfl ?_
  refine m_getI (x := M0 74 14) dX6_release_22 (fX6_73 l) rfl rfl ⟨by omega, by omega⟩ rfl ?_
  refine g_iload_n dX6_release_25 rfl rfl ?_
  refine e_ishr (v := gshr (M0 74 14) k) dX6_release_26 rfl ?_
  refine g_iconst (x := 1) dX6_release_27 (by decide) ?_
  refine e_iand (v := gand (gshr (M0 74 14) k) 1) dX6_release_28 rfl ?_
  refine g_if_ne (tgt := 34) dX6_release_29 (by decide) (fun c29 => ?_) (fun c29 => ?_)
  · refine g_iload_n dX6_release_34 rfl rfl ?_
    refine g_iconst (x := 1) dX6_release_35 (by decide) ?_
    refine g_icmp_ne (tgt := 48) dX6_release_36 (by decide) (fun c36 => ?_) (fun c36 => ?_)
    · refine g_iload_n dX6_release_48 rfl rfl ?_
      refine g_iconst (x := 2) dX6_release_49 (by decide) ?_
      refine g_icmp_ne (tgt := 63) dX6_release_50 (by decide) (fun c50 => ?_) (fun c50 => ?_)
      · refine g_iload_n dX6_release_63 rfl rfl ?_
        refine g_iconst (x := 3) dX6_release_64 (by decide) ?_
        refine g_icmp_ne (tgt := 77) dX6_release_65 (by decide) (fun c65 => ?_) (fun c65 => ?_)
        · exact absurd ⟨c29, (by unfold xCause; simp only [Bool.or_eq_false_iff, Bool.and_eq_false_iff, decide_eq_false_iff_not]; refine ⟨⟨by omega, by omega⟩, ?_⟩; first | exact Or.inl (by omega) | exact Or.inr (by cases hx : xOver M0 with | false => rfl | true => (rw [hx] at c72; simp at c72)))⟩ hn
        · refine g_aload_n dX6_release_68 rfl rfl ?_
          refine g_Vi0 dX6_release_69 (sX6_release_69 l) rfl (by show 74 < 87; omega) (Nat.le_of_ble_eq_true rfl) (cX6_isOver l) ?_
          refine g_if_eq (tgt := 77) dX6_release_72 (by decide) (fun c72 => ?_) (fun c72 => ?_)
          · exact absurd ⟨c29, (by unfold xCause; simp only [Bool.or_eq_false_iff, Bool.and_eq_false_iff, decide_eq_false_iff_not]; refine ⟨⟨by omega, by omega⟩, ?_⟩; first | exact Or.inl (by omega) | exact Or.inr (by cases hx : xOver M0 with | false => rfl | true => (rw [hx] at c72; simp at c72)))⟩ hn
          · refine g_iconst (x := 0) dX6_release_75 (by decide) ?_
            exact g_iret dX6_release_76 (Or.inr ⟨rfl, Or.inl rfl⟩) ⟨rfl, rfl⟩
      · refine g_aload_n dX6_release_53 rfl rfl ?_
        refine g_Vi0 dX6_release_54 (sX6_release_54 l) rfl (by show 74 < 87; omega) (Nat.le_of_ble_eq_true rfl) (cX6_middle l hm.2.2.1) ?_
        refine g_sipush (x := 250) dX6_release_57 (by decide) ?_
        refine g_icmp_gt (tgt := 75) dX6_release_60 (by decide) (fun c60 => ?_) (fun c60 => ?_)
        · refine g_iconst (x := 0) dX6_release_75 (by decide) ?_
          exact g_iret dX6_release_76 (Or.inr ⟨rfl, Or.inl rfl⟩) ⟨rfl, rfl⟩
        · refine g_iload_n dX6_release_63 rfl rfl ?_
          refine g_iconst (x := 3) dX6_release_64 (by decide) ?_
          refine g_icmp_ne (tgt := 77) dX6_release_65 (by decide) (fun c65 => ?_) (fun c65 => ?_)
          · exact absurd ⟨c29, (by unfold xCause; simp only [Bool.or_eq_false_iff, Bool.and_eq_false_iff, decide_eq_false_iff_not]; refine ⟨⟨by omega, by omega⟩, ?_⟩; first | exact Or.inl (by omega) | exact Or.inr (by cases hx : xOver M0 with | false => rfl | true => (rw [hx] at c72; simp at c72)))⟩ hn
          · refine g_aload_n dX6_release_68 rfl rfl ?_
            refine g_Vi0 dX6_release_69 (sX6_release_69 l) rfl (by show 74 < 87; omega) (Nat.le_of_ble_eq_true rfl) (cX6_isOver l) ?_
            refine g_if_eq (tgt := 77) dX6_release_72 (by decide) (fun c72 => ?_) (fun c72 => ?_)
            · exact absurd ⟨c29, (by unfold xCause; simp only [Bool.or_eq_false_iff, Bool.and_eq_false_iff, decide_eq_false_iff_not]; refine ⟨⟨by omega, by omega⟩, ?_⟩; first | exact Or.inl (by omega) | exact Or.inr (by cases hx : xOver M0 with | false => rfl | true => (rw [hx] at c72; simp at c72)))⟩ hn
            · refine g_iconst (x := 0) dX6_release_75 (by decide) ?_
              exact g_iret dX6_release_76 (Or.inr ⟨rfl, Or.inl rfl⟩) ⟨rfl, rfl⟩
    · refine g_aload_n dX6_release_39 rfl rfl ?_
      refine m_getI (x := M0 74 10) dX6_release_40 (fX6_79 l) rfl rfl ⟨by omega, by omega⟩ rfl ?_
      refine g_bipush (x := 20) dX6_release_43 (by decide) ?_
      refine g_icmp_eq (tgt := 75) dX6_release_45 (by decide) (fun c45 => ?_) (fun c45 => ?_)
      · refine g_iconst (x := 0) dX6_release_75 (by decide) ?_
        exact g_iret dX6_release_76 (Or.inr ⟨rfl, Or.inl rfl⟩) ⟨rfl, rfl⟩
      · refine g_iload_n dX6_release_48 rfl rfl ?_
        refine g_iconst (x := 2) dX6_release_49 (by decide) ?_
        refine g_icmp_ne (tgt := 63) dX6_release_50 (by decide) (fun c50 => ?_) (fun c50 => ?_)
        · refine g_iload_n dX6_release_63 rfl rfl ?_
          refine g_iconst (x := 3) dX6_release_64 (by decide) ?_
          refine g_icmp_ne (tgt := 77) dX6_release_65 (by decide) (fun c65 => ?_) (fun c65 => ?_)
          · exact absurd ⟨c29, (by unfold xCause; simp only [Bool.or_eq_false_iff, Bool.and_eq_false_iff, decide_eq_false_iff_not]; refine ⟨⟨by omega, by omega⟩, ?_⟩; first | exact Or.inl (by omega) | exact Or.inr (by cases hx : xOver M0 with | false => rfl | true => (rw [hx] at c72; simp at c72)))⟩ hn
          · refine g_aload_n dX6_release_68 rfl rfl ?_
            refine g_Vi0 dX6_release_69 (sX6_release_69 l) rfl (by show 74 < 87; omega) (Nat.le_of_ble_eq_true rfl) (cX6_isOver l) ?_
            refine g_if_eq (tgt := 77) dX6_release_72 (by decide) (fun c72 => ?_) (fun c72 => ?_)
            · exact absurd ⟨c29, (by unfold xCause; simp only [Bool.or_eq_false_iff, Bool.and_eq_false_iff, decide_eq_false_iff_not]; refine ⟨⟨by omega, by omega⟩, ?_⟩; first | exact Or.inl (by omega) | exact Or.inr (by cases hx : xOver M0 with | false => rfl | true => (rw [hx] at c72; simp at c72)))⟩ hn
            · refine g_iconst (x := 0) dX6_release_75 (by decide) ?_
              exact g_iret dX6_release_76 (Or.inr ⟨rfl, Or.inl rfl⟩) ⟨rfl, rfl⟩
        · refine g_aload_n dX6_release_53 rfl rfl ?_
          refine g_Vi0 dX6_release_54 (sX6_release_54 l) rfl (by show 74 < 87; omega) (Nat.le_of_ble_eq_true rfl) (cX6_middle l hm.2.2.1) ?_
          refine g_sipush (x := 250) dX6_release_57 (by decide) ?_
          refine g_icmp_gt (tgt := 75) dX6_release_60 (by decide) (fun c60 => ?_) (fun c60 => ?_)
          · refine g_iconst (x := 0) dX6_release_75 (by decide) ?_
            exact g_iret dX6_release_76 (Or.inr ⟨rfl, Or.inl rfl⟩) ⟨rfl, rfl⟩
          · refine g_iload_n dX6_release_63 rfl rfl ?_
            refine g_iconst (x := 3) dX6_release_64 (by decide) ?_
            refine g_icmp_ne (tgt := 77) dX6_release_65 (by decide) (fun c65 => ?_) (fun c65 => ?_)
            · exact absurd ⟨c29, (by unfold xCause; simp only [Bool.or_eq_false_iff, Bool.and_eq_false_iff, decide_eq_false_iff_not]; refine ⟨⟨by omega, by omega⟩, ?_⟩; first | exact Or.inl (by omega) | exact Or.inr (by cases hx : xOver M0 with | false => rfl | true => (rw [hx] at c72; simp at c72)))⟩ hn
            · refine g_aload_n dX6_release_68 rfl rfl ?_
              refine g_Vi0 dX6_release_69 (sX6_release_69 l) rfl (by show 74 < 87; omega) (Nat.le_of_ble_eq_true rfl) (cX6_isOver l) ?_
              refine g_if_eq (tgt := 77) dX6_release_72 (by decide) (fun c72 => ?_) (fun c72 => ?_)
              · exact absurd ⟨c29, (by unfold xCause; simp only [Bool.or_eq_false_iff, Bool.and_eq_false_iff, decide_eq_false_iff_not]; refine ⟨⟨by omega, by omega⟩, ?_⟩; first | exact Or.inl (by omega) | exact Or.inr (by cases hx : xOver M0 with | false => rfl | true => (rw [hx] at c72; simp at c72)))⟩ hn
              · refine g_iconst (x := 0) dX6_release_75 (by decide) ?_
                exact g_iret dX6_release_76 (Or.inr ⟨rfl, Or.inl rfl⟩) ⟨rfl, rfl⟩
  · refine g_iconst (x := 0) dX6_release_32 (by decide) ?_
    exact g_iret dX6_release_33 (Or.inr ⟨rfl, Or.inl rfl⟩) ⟨rfl, rfl⟩
set_option maxHeartbeats 1000000 in
theorem cX6_release_1 (l : Launch) {L : Nat} {S : sT} {M : Nat → Nat → Int} {M0 : Nat → Nat → Int} (hM0 : M0 = up M 74 0 0) (hm : Wm M0) {k : Int} (h1 : 0 ≤ k ∧ k ≤ 3) (g1 : gand (gshr (M0 74 14) k) 1 ≠ 0) (g2 : xCause M0 k = false) : gMi (gπ l) mX6_release yX6_release [gR (some 74), gI k] (hS L S M) (1) (hS L S (up M0 74 14 (gand (M0 74 14) (gxor (gshl 1 k) (-1))))) := by
  refine gMet_of pnX6 rfl rfl rfl (Nat.le_of_ble_eq_true rfl) (gAr (gAi gAn)) ?_
  show G (gπ l) mX6_release 0 [gR (some 74), gI k] [] (hS L S M) 0 0 _
  refine g_aload_n dX6_release_0 rfl rfl ?_
  refine g_iload_n dX6_release_1 rfl rfl ?_
  refine g_iconst (x := 0) dX6_release_2 (by decide) ?_
  refine g_iconst (x := 3) dX6_release_3 (by decide) ?_
  refine g_Si3 dX6_release_4 (sX6_release_4 l) (Nat.le_of_ble_eq_true rfl) (gMi_to 1 (cX6_isIn l) (by rw [if_pos h1])) ?_
  refine g_if_ne (tgt := 14) dX6_release_7 (by decide) (fun c7 => ?_) (fun c7 => absurd c7 (by omega))
  refine g_iconst (x := 0) dX6_release_14 (by decide) ?_
  refine g_Vi1 dX6_release_15 (sX6_release_15 l) rfl (by show 74 < 87; omega) (Nat.le_of_ble_eq_true rfl) (cX6_fails0 l hM0) ?_
  refine g_if_ne (tgt := 32) dX6_release_18 (by decide) (fun c18 => absurd c18 (by omega)) (fun c18 => ?_)
  refine g_aload_n dX6_release_21 rfl rfl ?_
  refine m_getI (x := M0 74 14) dX6_release_22 (fX6_73 l) rfl rfl ⟨by omega, by omega⟩ rfl ?_
  refine g_iload_n dX6_release_25 rfl rfl ?_
  refine e_ishr (v := gshr (M0 74 14) k) dX6_release_26 rfl ?_
  refine g_iconst (x := 1) dX6_release_27 (by decide) ?_
  refine e_iand (v := gand (gshr (M0 74 14) k) 1) dX6_release_28 rfl ?_
  refine g_if_ne (tgt := 34) dX6_release_29 (by decide) (fun c29 => ?_) (fun c29 => absurd c29 (by omega))
  refine g_iload_n dX6_release_34 rfl rfl ?_
  refine g_iconst (x := 1) dX6_release_35 (by decide) ?_
  refine g_icmp_ne (tgt := 48) dX6_release_36 (by decide) (fun c36 => ?_) (fun c36 => ?_)
  · refine g_iload_n dX6_release_48 rfl rfl ?_
    refine g_iconst (x := 2) dX6_release_49 (by decide) ?_
    refine g_icmp_ne (tgt := 63) dX6_release_50 (by decide) (fun c50 => ?_) (fun c50 => ?_)
    · refine g_iload_n dX6_release_63 rfl rfl ?_
      refine g_iconst (x := 3) dX6_release_64 (by decide) ?_
      refine g_icmp_ne (tgt := 77) dX6_release_65 (by decide) (fun c65 => ?_) (fun c65 => ?_)
      · refine g_aload_n dX6_release_77 rfl rfl ?_
        refine g_aload_n dX6_release_78 rfl rfl ?_
        refine m_getI (x := M0 74 14) dX6_release_79 (fX6_73 l) rfl rfl ⟨by omega, by omega⟩ rfl ?_
        refine g_iconst (x := 1) dX6_release_82 (by decide) ?_
        refine g_iload_n dX6_release_83 rfl rfl ?_
        refine e_ishl (v := gshl 1 k) dX6_release_84 rfl ?_
        refine g_iconst (x := -1) dX6_release_85 (by decide) ?_
        refine e_ixor (v := gxor (gshl 1 k) (-1)) dX6_release_86 rfl ?_
        refine e_iand (v := gand (M0 74 14) (gxor (gshl 1 k) (-1))) dX6_release_87 rfl ?_
        refine m_putI dX6_release_88 (fX6_73 l) gTX6 ⟨rfl, rfl⟩ rfl rfl ⟨by omega, by omega⟩ ?_
        refine g_iconst (x := 1) dX6_release_91 (by decide) ?_
        exact g_iret dX6_release_92 (Or.inr ⟨rfl, Or.inr rfl⟩) ⟨rfl, rfl⟩
      · refine g_aload_n dX6_release_68 rfl rfl ?_
        refine g_Vi0 dX6_release_69 (sX6_release_69 l) rfl (by show 74 < 87; omega) (Nat.le_of_ble_eq_true rfl) (cX6_isOver l) ?_
        refine g_if_eq (tgt := 77) dX6_release_72 (by decide) (fun c72 => ?_) (fun c72 => ?_)
        · refine g_aload_n dX6_release_77 rfl rfl ?_
          refine g_aload_n dX6_release_78 rfl rfl ?_
          refine m_getI (x := M0 74 14) dX6_release_79 (fX6_73 l) rfl rfl ⟨by omega, by omega⟩ rfl ?_
          refine g_iconst (x := 1) dX6_release_82 (by decide) ?_
          refine g_iload_n dX6_release_83 rfl rfl ?_
          refine e_ishl (v := gshl 1 k) dX6_release_84 rfl ?_
          refine g_iconst (x := -1) dX6_release_85 (by decide) ?_
          refine e_ixor (v := gxor (gshl 1 k) (-1)) dX6_release_86 rfl ?_
          refine e_iand (v := gand (M0 74 14) (gxor (gshl 1 k) (-1))) dX6_release_87 rfl ?_
          refine m_putI dX6_release_88 (fX6_73 l) gTX6 ⟨rfl, rfl⟩ rfl rfl ⟨by omega, by omega⟩ ?_
          refine g_iconst (x := 1) dX6_release_91 (by decide) ?_
          exact g_iret dX6_release_92 (Or.inr ⟨rfl, Or.inr rfl⟩) ⟨rfl, rfl⟩
        · exact absurd ((by unfold xCause; simp only [Bool.or_eq_true, Bool.and_eq_true, decide_eq_true_eq]; first | exact Or.inl (Or.inl (by omega)) | exact Or.inl (Or.inr (by omega)) | exact Or.inr ⟨by omega, by cases hx : xOver M0 with | true => rfl | false => (rw [hx] at c72; simp at c72)⟩) : xCause M0 k = true) (by rw [g2]; simp)
    · refine g_aload_n dX6_release_53 rfl rfl ?_
      refine g_Vi0 dX6_release_54 (sX6_release_54 l) rfl (by show 74 < 87; omega) (Nat.le_of_ble_eq_true rfl) (cX6_middle l hm.2.2.1) ?_
      refine g_sipush (x := 250) dX6_release_57 (by decide) ?_
      refine g_icmp_gt (tgt := 75) dX6_release_60 (by decide) (fun c60 => ?_) (fun c60 => ?_)
      · exact absurd ((by unfold xCause; simp only [Bool.or_eq_true, Bool.and_eq_true, decide_eq_true_eq]; first | exact Or.inl (Or.inl (by omega)) | exact Or.inl (Or.inr (by omega)) | exact Or.inr ⟨by omega, by cases hx : xOver M0 with | true => rfl | false => (rw [hx] at c72; simp at c72)⟩) : xCause M0 k = true) (by rw [g2]; simp)
      · refine g_iload_n dX6_release_63 rfl rfl ?_
        refine g_iconst (x := 3) dX6_release_64 (by decide) ?_
        refine g_icmp_ne (tgt := 77) dX6_release_65 (by decide) (fun c65 => ?_) (fun c65 => ?_)
        · refine g_aload_n dX6_release_77 rfl rfl ?_
          refine g_aload_n dX6_release_78 rfl rfl ?_
          refine m_getI (x := M0 74 14) dX6_release_79 (fX6_73 l) rfl rfl ⟨by omega, by omega⟩ rfl ?_
          refine g_iconst (x := 1) dX6_release_82 (by decide) ?_
          refine g_iload_n dX6_release_83 rfl rfl ?_
          refine e_ishl (v := gshl 1 k) dX6_release_84 rfl ?_
          refine g_iconst (x := -1) dX6_release_85 (by decide) ?_
          refine e_ixor (v := gxor (gshl 1 k) (-1)) dX6_release_86 rfl ?_
          refine e_iand (v := gand (M0 74 14) (gxor (gshl 1 k) (-1))) dX6_release_87 rfl ?_
          refine m_putI dX6_release_88 (fX6_73 l) gTX6 ⟨rfl, rfl⟩ rfl rfl ⟨by omega, by omega⟩ ?_
          refine g_iconst (x := 1) dX6_release_91 (by decide) ?_
          exact g_iret dX6_release_92 (Or.inr ⟨rfl, Or.inr rfl⟩) ⟨rfl, rfl⟩
        · refine g_aload_n dX6_release_68 rfl rfl ?_
          refine g_Vi0 dX6_release_69 (sX6_release_69 l) rfl (by show 74 < 87; omega) (Nat.le_of_ble_eq_true rfl) (cX6_isOver l) ?_
          refine g_if_eq (tgt := 77) dX6_release_72 (by decide) (fun c72 => ?_) (fun c72 => ?_)
          · refine g_aload_n dX6_release_77 rfl rfl ?_
            refine g_aload_n dX6_release_78 rfl rfl ?_
            refine m_getI (x := M0 74 14) dX6_release_79 (fX6_73 l) rfl rfl ⟨by omega, by omega⟩ rfl ?_
            refine g_iconst (x := 1) dX6_release_82 (by decide) ?_
            refine g_iload_n dX6_release_83 rfl rfl ?_
            refine e_ishl (v := gshl 1 k) dX6_release_84 rfl ?_
            refine g_iconst (x := -1) dX6_release_85 (by decide) ?_
            refine e_ixor (v := gxor (gshl 1 k) (-1)) dX6_release_86 rfl ?_
            refine e_iand (v := gand (M0 74 14) (gxor (gshl 1 k) (-1))) dX6_release_87 rfl ?_
            refine m_putI dX6_release_88 (fX6_73 l) gTX6 ⟨rfl, rfl⟩ rfl rfl ⟨by omega, by omega⟩ ?_
            refine g_iconst (x := 1) dX6_release_91 (by decide) ?_
            exact g_iret dX6_release_92 (Or.inr ⟨rfl, Or.inr rfl⟩) ⟨rfl, rfl⟩
          · exact absurd ((by unfold xCause; simp only [Bool.or_eq_true, Bool.and_eq_true, decide_eq_true_eq]; first | exact Or.inl (Or.inl (by omega)) | exact Or.inl (Or.inr (by omega)) | exact Or.inr ⟨by omega, by cases hx : xOver M0 with | true => rfl | false => (rw [hx] at c72; simp at c72)⟩) : xCause M0 k = true) (by rw [g2]; simp)
  · refine g_aload_n dX6_release_39 rfl rfl ?_
    refine m_getI (x := M0 74 10) dX6_release_40 (fX6_79 l) rfl rfl ⟨by omega, by omega⟩ rfl ?_
    refine g_bipush (x := 20) dX6_release_43 (by decide) ?_
    refine g_icmp_eq (tgt := 75) dX6_release_45 (by decide) (fun c45 => ?_) (fun c45 => ?_)
    · exact absurd ((by unfold xCause; simp only [Bool.or_eq_true, Bool.and_eq_true, decide_eq_true_eq]; first | exact Or.inl (Or.inl (by omega)) | exact Or.inl (Or.inr (by omega)) | exact Or.inr ⟨by omega, by cases hx : xOver M0 with | true => rfl | false => (rw [hx] at c72; simp at c72)⟩) : xCause M0 k = true) (by rw [g2]; simp)
    · refine g_iload_n dX6_release_48 rfl rfl ?_
      refine g_iconst (x := 2) dX6_release_49 (by decide) ?_
      refine g_icmp_ne (tgt := 63) dX6_release_50 (by decide) (fun c50 => ?_) (fun c50 => ?_)
      · refine g_iload_n dX6_release_63 rfl rfl ?_
        refine g_iconst (x := 3) dX6_release_64 (by decide) ?_
        refine g_icmp_ne (tgt := 77) dX6_release_65 (by decide) (fun c65 => ?_) (fun c65 => ?_)
        · refine g_aload_n dX6_release_77 rfl rfl ?_
          refine g_aload_n dX6_release_78 rfl rfl ?_
          refine m_getI (x := M0 74 14) dX6_release_79 (fX6_73 l) rfl rfl ⟨by omega, by omega⟩ rfl ?_
          refine g_iconst (x := 1) dX6_release_82 (by decide) ?_
          refine g_iload_n dX6_release_83 rfl rfl ?_
          refine e_ishl (v := gshl 1 k) dX6_release_84 rfl ?_
          refine g_iconst (x := -1) dX6_release_85 (by decide) ?_
          refine e_ixor (v := gxor (gshl 1 k) (-1)) dX6_release_86 rfl ?_
          refine e_iand (v := gand (M0 74 14) (gxor (gshl 1 k) (-1))) dX6_release_87 rfl ?_
          refine m_putI dX6_release_88 (fX6_73 l) gTX6 ⟨rfl, rfl⟩ rfl rfl ⟨by omega, by omega⟩ ?_
          refine g_iconst (x := 1) dX6_release_91 (by decide) ?_
          exact g_iret dX6_release_92 (Or.inr ⟨rfl, Or.inr rfl⟩) ⟨rfl, rfl⟩
        · refine g_aload_n dX6_release_68 rfl rfl ?_
          refine g_Vi0 dX6_release_69 (sX6_release_69 l) rfl (by show 74 < 87; omega) (Nat.le_of_ble_eq_true rfl) (cX6_isOver l) ?_
          refine g_if_eq (tgt := 77) dX6_release_72 (by decide) (fun c72 => ?_) (fun c72 => ?_)
          · refine g_aload_n dX6_release_77 rfl rfl ?_
            refine g_aload_n dX6_release_78 rfl rfl ?_
            refine m_getI (x := M0 74 14) dX6_release_79 (fX6_73 l) rfl rfl ⟨by omega, by omega⟩ rfl ?_
            refine g_iconst (x := 1) dX6_release_82 (by decide) ?_
            refine g_iload_n dX6_release_83 rfl rfl ?_
            refine e_ishl (v := gshl 1 k) dX6_release_84 rfl ?_
            refine g_iconst (x := -1) dX6_release_85 (by decide) ?_
            refine e_ixor (v := gxor (gshl 1 k) (-1)) dX6_release_86 rfl ?_
            refine e_iand (v := gand (M0 74 14) (gxor (gshl 1 k) (-1))) dX6_release_87 rfl ?_
            refine m_putI dX6_release_88 (fX6_73 l) gTX6 ⟨rfl, rfl⟩ rfl rfl ⟨by omega, by omega⟩ ?_
            refine g_iconst (x := 1) dX6_release_91 (by decide) ?_
            exact g_iret dX6_release_92 (Or.inr ⟨rfl, Or.inr rfl⟩) ⟨rfl, rfl⟩
          · exact absurd ((by unfold xCause; simp only [Bool.or_eq_true, Bool.and_eq_true, decide_eq_true_eq]; first | exact Or.inl (Or.inl (by omega)) | exact Or.inl (Or.inr (by omega)) | exact Or.inr ⟨by omega, by cases hx : xOver M0 with | true => rfl | false => (rw [hx] at c72; simp at c72)⟩) : xCause M0 k = true) (by rw [g2]; simp)
      · refine g_aload_n dX6_release_53 rfl rfl ?_
        refine g_Vi0 dX6_release_54 (sX6_release_54 l) rfl (by show 74 < 87; omega) (Nat.le_of_ble_eq_true rfl) (cX6_middle l hm.2.2.1) ?_
        refine g_sipush (x := 250) dX6_release_57 (by decide) ?_
        refine g_icmp_gt (tgt := 75) dX6_release_60 (by decide) (fun c60 => ?_) (fun c60 => ?_)
        · exact absurd ((by unfold xCause; simp only [Bool.or_eq_true, Bool.and_eq_true, decide_eq_true_eq]; first | exact Or.inl (Or.inl (by omega)) | exact Or.inl (Or.inr (by omega)) | exact Or.inr ⟨by omega, by cases hx : xOver M0 with | true => rfl | false => (rw [hx] at c72; simp at c72)⟩) : xCause M0 k = true) (by rw [g2]; simp)
        · refine g_iload_n dX6_release_63 rfl rfl ?_
          refine g_iconst (x := 3) dX6_release_64 (by decide) ?_
          refine g_icmp_ne (tgt := 77) dX6_release_65 (by decide) (fun c65 => ?_) (fun c65 => ?_)
          · refine g_aload_n dX6_release_77 rfl rfl ?_
            refine g_aload_n dX6_release_78 rfl rfl ?_
            refine m_getI (x := M0 74 14) dX6_release_79 (fX6_73 l) rfl rfl ⟨by omega, by omega⟩ rfl ?_
            refine g_iconst (x := 1) dX6_release_82 (by decide) ?_
            refine g_iload_n dX6_release_83 rfl rfl ?_
            refine e_ishl (v := gshl 1 k) dX6_release_84 rfl ?_
            refine g_iconst (x := -1) dX6_release_85 (by decide) ?_
            refine e_ixor (v := gxor (gshl 1 k) (-1)) dX6_release_86 rfl ?_
            refine e_iand (v := gand (M0 74 14) (gxor (gshl 1 k) (-1))) dX6_release_87 rfl ?_
            refine m_putI dX6_release_88 (fX6_73 l) gTX6 ⟨rfl, rfl⟩ rfl rfl ⟨by omega, by omega⟩ ?_
            refine g_iconst (x := 1) dX6_release_91 (by decide) ?_
            exact g_iret dX6_release_92 (Or.inr ⟨rfl, Or.inr rfl⟩) ⟨rfl, rfl⟩
          · refine g_aload_n dX6_release_68 rfl rfl ?_
            refine g_Vi0 dX6_release_69 (sX6_release_69 l) rfl (by show 74 < 87; omega) (Nat.le_of_ble_eq_true rfl) (cX6_isOver l) ?_
            refine g_if_eq (tgt := 77) dX6_release_72 (by decide) (fun c72 => ?_) (fun c72 => ?_)
            · refine g_aload_n dX6_release_77 rfl rfl ?_
              refine g_aload_n dX6_release_78 rfl rfl ?_
              refine m_getI (x := M0 74 14) dX6_release_79 (fX6_73 l) rfl rfl ⟨by omega, by omega⟩ rfl ?_
              refine g_iconst (x := 1) dX6_release_82 (by decide) ?_
              refine g_iload_n dX6_release_83 rfl rfl ?_
              refine e_ishl (v := gshl 1 k) dX6_release_84 rfl ?_
              refine g_iconst (x := -1) dX6_release_85 (by decide) ?_
              refine e_ixor (v := gxor (gshl 1 k) (-1)) dX6_release_86 rfl ?_
              refine e_iand (v := gand (M0 74 14) (gxor (gshl 1 k) (-1))) dX6_release_87 rfl ?_
              refine m_putI dX6_release_88 (fX6_73 l) gTX6 ⟨rfl, rfl⟩ rfl rfl ⟨by omega, by omega⟩ ?_
              refine g_iconst (x := 1) dX6_release_91 (by decide) ?_
              exact g_iret dX6_release_92 (Or.inr ⟨rfl, Or.inr rfl⟩) ⟨rfl, rfl⟩
            · exact absurd ((by unfold xCause; simp only [Bool.or_eq_true, Bool.and_eq_true, decide_eq_true_eq]; first | exact Or.inl (Or.inl (by omega)) | exact Or.inl (Or.inr (by omega)) | exact Or.inr ⟨by omega, by cases hx : xOver M0 with | true => rfl | false => (rw [hx] at c72; simp at c72)⟩) : xCause M0 k = true) (by rw [g2]; simp)
set_option maxHeartbeats 1000000 in
theorem cX6_locks (l : Launch) {L : Nat} {S : sT} {M : Nat → Nat → Int} {M0 : Nat → Nat → Int} (hM0 : M0 = up M 74 0 0) : gMi (gπ l) mX6_locks yX6_locks [gR (some 74)] (hS L S M) (M0 74 14) (hS L S M0) := by
  refine gMet_of pnX6 rfl rfl rfl (Nat.le_of_ble_eq_true rfl) (gAr gAn) ?_
  show G (gπ l) mX6_locks 0 [gR (some 74)] [] (hS L S M) 0 0 _
  refine g_aload_n dX6_locks_0 rfl rfl ?_
  refine g_iconst (x := 0) dX6_locks_1 (by decide) ?_
  refine m_putI dX6_locks_2 (fX6_47 l) gTX6 ⟨rfl, rfl⟩ rfl rfl ⟨by omega, by omega⟩ ?_
  refine g_aload_n dX6_locks_5 rfl rfl ?_
  refine m_getI (x := (up M 74 0 0) 74 14) dX6_locks_6 (fX6_73 l) rfl rfl ⟨by omega, by omega⟩ rfl ?_
  exact g_iret dX6_locks_9 (Or.inl rfl) ⟨congrArg gK1 (by rw [hM0]), congrArg (hS L S) hM0.symm⟩
def xDoors (M : Nat → Nat → Int) (c : Nat) : Int := if M 75 c = 2 then sDoors (M 76 c) (M 78 c) else 0
set_option maxHeartbeats 1000000 in
theorem cX6_hasOpenDoors (l : Launch) {L : Nat} {S : sT} {M : Nat → Nat → Int} {c : Nat} (hc : c < 60) : gMi (gπ l) mX6_hasOpenDoors yX6_hasOpenDoors [gR (some 74), gI (c : Int)] (hS L S M) (xDoors M c) (hS L S M) := by
  refine gMet_of pnX6 rfl rfl rfl (Nat.le_of_ble_eq_true rfl) (gAr (gAi gAn)) ?_
  show G (gπ l) mX6_hasOpenDoors 0 [gR (some 74), gI (c : Int)] [] (hS L S M) 0 0 _
  refine g_aload_n dX6_hasOpenDoors_0 rfl rfl ?_
  refine p_getR (o := some 75) dX6_hasOpenDoors_1 (fX6_7 l) (by decide) rfl (by omega) rfl ?_
  refine g_iload_n dX6_hasOpenDoors_4 rfl rfl ?_
  refine m_iald (len := 60) (x := M 75 c) dX6_hasOpenDoors_5 rfl ⟨by omega, by omega⟩ (by omega) (by omega) rfl ?_
  refine g_iconst (x := 2) dX6_hasOpenDoors_6 (by decide) ?_
  refine g_icmp_eq (tgt := 12) dX6_hasOpenDoors_7 (by decide) (fun c7 => ?_) (fun c7 => ?_)
  · refine g_aload_n dX6_hasOpenDoors_12 rfl rfl ?_
    refine p_getR (o := some 76) dX6_hasOpenDoors_13 (fX6_13 l) (by decide) rfl (by omega) rfl ?_
    refine g_iload_n dX6_hasOpenDoors_16 rfl rfl ?_
    refine m_iald (len := 60) (x := M 76 c) dX6_hasOpenDoors_17 rfl ⟨by omega, by omega⟩ (by omega) (by omega) rfl ?_
    refine g_iconst (x := 5) dX6_hasOpenDoors_18 (by decide) ?_
    refine g_icmp_ne (tgt := 32) dX6_hasOpenDoors_19 (by decide) (fun c19 => ?_) (fun c19 => ?_)
    · refine g_aload_n dX6_hasOpenDoors_32 rfl rfl ?_
      refine p_getR (o := some 76) dX6_hasOpenDoors_33 (fX6_13 l) (by decide) rfl (by omega) rfl ?_
      refine g_iload_n dX6_hasOpenDoors_36 rfl rfl ?_
      refine m_iald (len := 60) (x := M 76 c) dX6_hasOpenDoors_37 rfl ⟨by omega, by omega⟩ (by omega) (by omega) rfl ?_
      refine g_bipush (x := 6) dX6_hasOpenDoors_38 (by decide) ?_
      refine g_icmp_eq (tgt := 76) dX6_hasOpenDoors_40 (by decide) (fun c40 => ?_) (fun c40 => ?_)
      · refine g_iconst (x := 1) dX6_hasOpenDoors_76 (by decide) ?_
        refine g_goto (tgt := 81) dX6_hasOpenDoors_77 (by decide) ?_
        exact g_iret dX6_hasOpenDoors_81 (Or.inr ⟨rfl, Or.inr rfl⟩) ⟨congrArg gK1 (by unfold xDoors sDoors; (repeat' split) <;> omega), rfl⟩
      · refine g_aload_n dX6_hasOpenDoors_43 rfl rfl ?_
        refine p_getR (o := some 76) dX6_hasOpenDoors_44 (fX6_13 l) (by decide) rfl (by omega) rfl ?_
        refine g_iload_n dX6_hasOpenDoors_47 rfl rfl ?_
        refine m_iald (len := 60) (x := M 76 c) dX6_hasOpenDoors_48 rfl ⟨by omega, by omega⟩ (by omega) (by omega) rfl ?_
        refine g_bipush (x := 7) dX6_hasOpenDoors_49 (by decide) ?_
        refine g_icmp_eq (tgt := 76) dX6_hasOpenDoors_51 (by decide) (fun c51 => ?_) (fun c51 => ?_)
        · refine g_iconst (x := 1) dX6_hasOpenDoors_76 (by decide) ?_
          refine g_goto (tgt := 81) dX6_hasOpenDoors_77 (by decide) ?_
          exact g_iret dX6_hasOpenDoors_81 (Or.inr ⟨rfl, Or.inr rfl⟩) ⟨congrArg gK1 (by unfold xDoors sDoors; (repeat' split) <;> omega), rfl⟩
        · refine g_aload_n dX6_hasOpenDoors_54 rfl rfl ?_
          refine p_getR (o := some 76) dX6_hasOpenDoors_55 (fX6_13 l) (by decide) rfl (by omega) rfl ?_
          refine g_iload_n dX6_hasOpenDoors_58 rfl rfl ?_
          refine m_iald (len := 60) (x := M 76 c) dX6_hasOpenDoors_59 rfl ⟨by omega, by omega⟩ (by omega) (by omega) rfl ?_
          refine g_bipush (x := 8) dX6_hasOpenDoors_60 (by decide) ?_
          refine g_icmp_ne (tgt := 80) dX6_hasOpenDoors_62 (by decide) (fun c62 => ?_) (fun c62 => ?_)
          · refine g_iconst (x := 0) dX6_hasOpenDoors_80 (by decide) ?_
            exact g_iret dX6_hasOpenDoors_81 (Or.inr ⟨rfl, Or.inl rfl⟩) ⟨congrArg gK1 (by unfold xDoors sDoors; (repeat' split) <;> omega), rfl⟩
          · refine g_aload_n dX6_hasOpenDoors_65 rfl rfl ?_
            refine p_getR (o := some 78) dX6_hasOpenDoors_66 (fX6_19 l) (by decide) rfl (by omega) rfl ?_
            refine g_iload_n dX6_hasOpenDoors_69 rfl rfl ?_
            refine m_iald (len := 60) (x := M 78 c) dX6_hasOpenDoors_70 rfl ⟨by omega, by omega⟩ (by omega) (by omega) rfl ?_
            refine g_bipush (x := 10) dX6_hasOpenDoors_71 (by decide) ?_
            refine g_icmp_ge (tgt := 80) dX6_hasOpenDoors_73 (by decide) (fun c73 => ?_) (fun c73 => ?_)
            · refine g_iconst (x := 0) dX6_hasOpenDoors_80 (by decide) ?_
              exact g_iret dX6_hasOpenDoors_81 (Or.inr ⟨rfl, Or.inl rfl⟩) ⟨congrArg gK1 (by unfold xDoors sDoors; (repeat' split) <;> omega), rfl⟩
            · refine g_iconst (x := 1) dX6_hasOpenDoors_76 (by decide) ?_
              refine g_goto (tgt := 81) dX6_hasOpenDoors_77 (by decide) ?_
              exact g_iret dX6_hasOpenDoors_81 (Or.inr ⟨rfl, Or.inr rfl⟩) ⟨congrArg gK1 (by unfold xDoors sDoors; (repeat' split) <;> omega), rfl⟩
    · refine g_aload_n dX6_hasOpenDoors_22 rfl rfl ?_
      refine p_getR (o := some 78) dX6_hasOpenDoors_23 (fX6_19 l) (by decide) rfl (by omega) rfl ?_
      refine g_iload_n dX6_hasOpenDoors_26 rfl rfl ?_
      refine m_iald (len := 60) (x := M 78 c) dX6_hasOpenDoors_27 rfl ⟨by omega, by omega⟩ (by omega) (by omega) rfl ?_
      refine g_iconst (x := 5) dX6_hasOpenDoors_28 (by decide) ?_
      refine g_icmp_ge (tgt := 76) dX6_hasOpenDoors_29 (by decide) (fun c29 => ?_) (fun c29 => ?_)
      · refine g_iconst (x := 1) dX6_hasOpenDoors_76 (by decide) ?_
        refine g_goto (tgt := 81) dX6_hasOpenDoors_77 (by decide) ?_
        exact g_iret dX6_hasOpenDoors_81 (Or.inr ⟨rfl, Or.inr rfl⟩) ⟨congrArg gK1 (by unfold xDoors sDoors; (repeat' split) <;> omega), rfl⟩
      · refine g_aload_n dX6_hasOpenDoors_32 rfl rfl ?_
        refine p_getR (o := some 76) dX6_hasOpenDoors_33 (fX6_13 l) (by decide) rfl (by omega) rfl ?_
        refine g_iload_n dX6_hasOpenDoors_36 rfl rfl ?_
        refine m_iald (len := 60) (x := M 76 c) dX6_hasOpenDoors_37 rfl ⟨by omega, by omega⟩ (by omega) (by omega) rfl ?_
        refine g_bipush (x := 6) dX6_hasOpenDoors_38 (by decide) ?_
        refine g_icmp_eq (tgt := 76) dX6_hasOpenDoors_40 (by decide) (fun c40 => ?_) (fun c40 => ?_)
        · refine g_iconst (x := 1) dX6_hasOpenDoors_76 (by decide) ?_
          refine g_goto (tgt := 81) dX6_hasOpenDoors_77 (by decide) ?_
          exact g_iret dX6_hasOpenDoors_81 (Or.inr ⟨rfl, Or.inr rfl⟩) ⟨congrArg gK1 (by unfold xDoors sDoors; (repeat' split) <;> omega), rfl⟩
        · refine g_aload_n dX6_hasOpenDoors_43 rfl rfl ?_
          refine p_getR (o := some 76) dX6_hasOpenDoors_44 (fX6_13 l) (by decide) rfl (by omega) rfl ?_
          refine g_iload_n dX6_hasOpenDoors_47 rfl rfl ?_
          refine m_iald (len := 60) (x := M 76 c) dX6_hasOpenDoors_48 rfl ⟨by omega, by omega⟩ (by omega) (by omega) rfl ?_
          refine g_bipush (x := 7) dX6_hasOpenDoors_49 (by decide) ?_
          refine g_icmp_eq (tgt := 76) dX6_hasOpenDoors_51 (by decide) (fun c51 => ?_) (fun c51 => ?_)
          · refine g_iconst (x := 1) dX6_hasOpenDoors_76 (by decide) ?_
            refine g_goto (tgt := 81) dX6_hasOpenDoors_77 (by decide) ?_
            exact g_iret dX6_hasOpenDoors_81 (Or.inr ⟨rfl, Or.inr rfl⟩) ⟨congrArg gK1 (by unfold xDoors sDoors; (repeat' split) <;> omega), rfl⟩
          · refine g_aload_n dX6_hasOpenDoors_54 rfl rfl ?_
            refine p_getR (o := some 76) dX6_hasOpenDoors_55 (fX6_13 l) (by decide) rfl (by omega) rfl ?_
            refine g_iload_n dX6_hasOpenDoors_58 rfl rfl ?_
            refine m_iald (len := 60) (x := M 76 c) dX6_hasOpenDoors_59 rfl ⟨by omega, by omega⟩ (by omega) (by omega) rfl ?_
            refine g_bipush (x := 8) dX6_hasOpenDoors_60 (by decide) ?_
            refine g_icmp_ne (tgt := 80) dX6_hasOpenDoors_62 (by decide) (fun c62 => ?_) (fun c62 => ?_)
            · refine g_iconst (x := 0) dX6_hasOpenDoors_80 (by decide) ?_
              exact g_iret dX6_hasOpenDoors_81 (Or.inr ⟨rfl, Or.inl rfl⟩) ⟨congrArg gK1 (by unfold xDoors sDoors; (repeat' split) <;> omega), rfl⟩
            · refine g_aload_n dX6_hasOpenDoors_65 rfl rfl ?_
              refine p_getR (o := some 78) dX6_hasOpenDoors_66 (fX6_19 l) (by decide) rfl (by omega) rfl ?_
              refine g_iload_n dX6_hasOpenDoors_69 rfl rfl ?_
              refine m_iald (len := 60) (x := M 78 c) dX6_hasOpenDoors_70 rfl ⟨by omega, by omega⟩ (by omega) (by omega) rfl ?_
              refine g_bipush (x := 10) dX6_hasOpenDoors_71 (by decide) ?_
              refine g_icmp_ge (tgt := 80) dX6_hasOpenDoors_73 (by decide) (fun c73 => ?_) (fun c73 => ?_)
              · refine g_iconst (x := 0) dX6_hasOpenDoors_80 (by decide) ?_
                exact g_iret dX6_hasOpenDoors_81 (Or.inr ⟨rfl, Or.inl rfl⟩) ⟨congrArg gK1 (by unfold xDoors sDoors; (repeat' split) <;> omega), rfl⟩
              · refine g_iconst (x := 1) dX6_hasOpenDoors_76 (by decide) ?_
                refine g_goto (tgt := 81) dX6_hasOpenDoors_77 (by decide) ?_
                exact g_iret dX6_hasOpenDoors_81 (Or.inr ⟨rfl, Or.inr rfl⟩) ⟨congrArg gK1 (by unfold xDoors sDoors; (repeat' split) <;> omega), rfl⟩
  · refine g_iconst (x := 0) dX6_hasOpenDoors_10 (by decide) ?_
    exact g_iret dX6_hasOpenDoors_11 (Or.inr ⟨rfl, Or.inl rfl⟩) ⟨congrArg gK1 (by unfold xDoors sDoors; (repeat' split) <;> omega), rfl⟩
theorem xDoors_b (M : Nat → Nat → Int) (c : Nat) : xDoors M c = 0 ∨ xDoors M c = 1 := by unfold xDoors; split; exact sDoors_b _ _; exact Or.inl rfl
def xWhere (M : Nat → Nat → Int) (c : Nat) (sp w : Int) : Int := if w = 0 then M 75 c else if w = 1 then (if M 75 c = 0 then -1 else if M 75 c = 1 then sp else M 76 c) else if w = 2 then (if 1 < M 75 c then M 77 c else -1) else if w = 3 then (if M 75 c = 2 then M 78 c else -1) else if w = 4 then (if M 75 c = 2 then M 79 c else -1) else if w = 5 then xDoors M c else if w = 6 then M 82 c else if w = 7 then M 83 c else -1
set_option maxHeartbeats 1000000 in
theorem cX6_where_x (l : Launch) {L : Nat} {S : sT} {M : Nat → Nat → Int} {M1 : Nat → Nat → Int} (hM1 : M1 = up M 74 0 1) {c w : Int} (h1 : ¬ (0 ≤ c ∧ c ≤ 59)) : gMi (gπ l) mX6_where yX6_where [gR (some 74), gI c, gI w] (hS L S M) (0) (hS L S M1) := by
  refine gMet_of pnX6 rfl rfl rfl (Nat.le_of_ble_eq_true rfl) (gAr (gAi (gAi gAn))) ?_
  show G (gπ l) mX6_where 0 [gR (some 74), gI c, gI w] [] (hS L S M) 0 0 _
  refine g_aload_n dX6_where_0 rfl rfl ?_
  refine g_iload_n dX6_where_1 rfl rfl ?_
  refine g_Si1 dX6_where_2 (sX6_where_2 l) (Nat.le_of_ble_eq_true rfl) (gMi_to 0 (cX6_isCabin l) (by rw [if_neg h1])) ?_
  refine g_if_ne (tgt := 12) dX6_where_5 (by decide) (fun c5 => absurd c5 (by omega)) (fun c5 => ?_)
  refine g_iconst (x := 1) dX6_where_8 (by decide) ?_
  refine g_goto (tgt := 13) dX6_where_9 (by decide) ?_
  refine g_Vi1 dX6_where_13 (sX6_where_13 l) rfl (by show 74 < 87; omega) (Nat.le_of_ble_eq_true rfl) (cX6_fails1 l hM1) ?_
  refine g_if_eq (tgt := 21) dX6_where_16 (by decide) (fun c16 => absurd c16 (by omega)) (fun c16 => ?_)
  refine g_iconst (x := 0) dX6_where_19 (by decide) ?_
  exact g_iret dX6_where_20 (Or.inl rfl) ⟨rfl, rfl⟩
set_option maxHeartbeats 1000000 in
theorem cX6_where (l : Launch) {L : Nat} {S : sT} {M : Nat → Nat → Int} {M0 : Nat → Nat → Int} (hM0 : M0 = up M 74 0 0) {c : Nat} (hc : c < 60) {w sp : Int} (hsp : M0 75 c = 1 → gMi (gπ l) mX6_placeOf yX6_placeOf [gR (some 74), gI (c : Int)] (hS L S M0) sp (hS L S M0)) : gMi (gπ l) mX6_where yX6_where [gR (some 74), gI (c : Int), gI w] (hS L S M) (xWhere M0 c sp w) (hS L S M0) := by
  refine gMet_of pnX6 rfl rfl rfl (Nat.le_of_ble_eq_true rfl) (gAr (gAi (gAi gAn))) ?_
  show G (gπ l) mX6_where 0 [gR (some 74), gI (c : Int), gI w] [] (hS L S M) 0 0 _
  refine g_aload_n dX6_where_0 rfl rfl ?_
  refine g_iload_n dX6_where_1 rfl rfl ?_
  refine g_Si1 dX6_where_2 (sX6_where_2 l) (Nat.le_of_ble_eq_true rfl) (gMi_to 1 (cX6_isCabin l) (by rw [if_pos ⟨by omega, by omega⟩])) ?_
  refine g_if_ne (tgt := 12) dX6_where_5 (by decide) (fun c5 => ?_) (fun c5 => absurd c5 (by omega))
  refine g_iconst (x := 0) dX6_where_12 (by decide) ?_
  refine g_Vi1 dX6_where_13 (sX6_where_13 l) rfl (by show 74 < 87; omega) (Nat.le_of_ble_eq_true rfl) (cX6_fails0 l hM0) ?_
  refine g_if_eq (tgt := 21) dX6_where_16 (by decide) (fun c16 => ?_) (fun c16 => absurd c16 (by omega))
  refine g_iload_n dX6_where_21 rfl rfl ?_
  rcases (by omega : (w < 0 ∨ 7 < w) ∨ w = 0 ∨ w = 1 ∨ w = 2 ∨ w = 3 ∨ w = 4 ∨ w = 5 ∨ w = 6 ∨ w = 7) with w22 | w22 | w22 | w22 | w22 | w22 | w22 | w22 | w22
  · refine g_tableOut (tgt := 204) dX6_where_22 (by omega) (by decide) ?_
    refine g_iconst (x := -1) dX6_where_204 (by decide) ?_
    exact g_iret dX6_where_205 (Or.inl rfl) ⟨congrArg gK1 (by have := xDoors_b M0 c; unfold xWhere; (repeat' split) <;> omega), rfl⟩
  · refine g_tableIn (tgt := 68) (off := 46) dX6_where_22 (by omega) (by omega) (by rw [w22]; rfl) (by decide) ?_
    refine g_aload_n dX6_where_68 rfl rfl ?_
    refine p_getR (o := some 75) dX6_where_69 (fX6_7 l) (by decide) rfl (by omega) rfl ?_
    refine g_iload_n dX6_where_72 rfl rfl ?_
    refine m_iald (len := 60) (x := M0 75 c) dX6_where_73 rfl ⟨by omega, by omega⟩ (by omega) (by omega) rfl ?_
    exact g_iret dX6_where_74 (Or.inl rfl) ⟨congrArg gK1 (by have := xDoors_b M0 c; unfold xWhere; (repeat' split) <;> omega), rfl⟩
  · refine g_tableIn (tgt := 75) (off := 53) dX6_where_22 (by omega) (by omega) (by rw [w22]; rfl) (by decide) ?_
    refine g_aload_n dX6_where_75 rfl rfl ?_
    refine p_getR (o := some 75) dX6_where_76 (fX6_7 l) (by decide) rfl (by omega) rfl ?_
    refine g_iload_n dX6_where_79 rfl rfl ?_
    refine m_iald (len := 60) (x := M0 75 c) dX6_where_80 rfl ⟨by omega, by omega⟩ (by omega) (by omega) rfl ?_
    refine g_if_ne (tgt := 88) dX6_where_81 (by decide) (fun c81 => ?_) (fun c81 => ?_)
    · refine g_aload_n dX6_where_88 rfl rfl ?_
      refine p_getR (o := some 75) dX6_where_89 (fX6_7 l) (by decide) rfl (by omega) rfl ?_
      refine g_iload_n dX6_where_92 rfl rfl ?_
      refine m_iald (len := 60) (x := M0 75 c) dX6_where_93 rfl ⟨by omega, by omega⟩ (by omega) (by omega) rfl ?_
      refine g_iconst (x := 1) dX6_where_94 (by decide) ?_
      refine g_icmp_ne (tgt := 106) dX6_where_95 (by decide) (fun c95 => ?_) (fun c95 => ?_)
      · refine g_aload_n dX6_where_106 rfl rfl ?_
        refine p_getR (o := some 76) dX6_where_107 (fX6_13 l) (by decide) rfl (by omega) rfl ?_
        refine g_iload_n dX6_where_110 rfl rfl ?_
        refine m_iald (len := 60) (x := M0 76 c) dX6_where_111 rfl ⟨by omega, by omega⟩ (by omega) (by omega) rfl ?_
        exact g_iret dX6_where_112 (Or.inl rfl) ⟨congrArg gK1 (by have := xDoors_b M0 c; unfold xWhere; (repeat' split) <;> omega), rfl⟩
      · refine g_aload_n dX6_where_98 rfl rfl ?_
        refine g_iload_n dX6_where_99 rfl rfl ?_
        refine g_Vi1 dX6_where_100 (sX6_where_100 l) rfl (by show 74 < 87; omega) (Nat.le_of_ble_eq_true rfl) (hsp c95) ?_
        refine g_goto (tgt := 112) dX6_where_103 (by decide) ?_
        exact g_iret dX6_where_112 (Or.inl rfl) ⟨congrArg gK1 (by have := xDoors_b M0 c; unfold xWhere; (repeat' split) <;> omega), rfl⟩
    · refine g_iconst (x := -1) dX6_where_84 (by decide) ?_
      refine g_goto (tgt := 112) dX6_where_85 (by decide) ?_
      exact g_iret dX6_where_112 (Or.inl rfl) ⟨congrArg gK1 (by have := xDoors_b M0 c; unfold xWhere; (repeat' split) <;> omega), rfl⟩
  · refine g_tableIn (tgt := 113) (off := 91) dX6_where_22 (by omega) (by omega) (by rw [w22]; rfl) (by decide) ?_
    refine g_aload_n dX6_where_113 rfl rfl ?_
    refine p_getR (o := some 75) dX6_where_114 (fX6_7 l) (by decide) rfl (by omega) rfl ?_
    refine g_iload_n dX6_where_117 rfl rfl ?_
    refine m_iald (len := 60) (x := M0 75 c) dX6_where_118 rfl ⟨by omega, by omega⟩ (by omega) (by omega) rfl ?_
    refine g_iconst (x := 1) dX6_where_119 (by decide) ?_
    refine g_icmp_le (tgt := 132) dX6_where_120 (by decide) (fun c120 => ?_) (fun c120 => ?_)
    · refine g_iconst (x := -1) dX6_where_132 (by decide) ?_
      exact g_iret dX6_where_133 (Or.inl rfl) ⟨congrArg gK1 (by have := xDoors_b M0 c; unfold xWhere; (repeat' split) <;> omega), rfl⟩
    · refine g_aload_n dX6_where_123 rfl rfl ?_
      refine p_getR (o := some 77) dX6_where_124 (fX6_16 l) (by decide) rfl (by omega) rfl ?_
      refine g_iload_n dX6_where_127 rfl rfl ?_
      refine m_iald (len := 60) (x := M0 77 c) dX6_where_128 rfl ⟨by omega, by omega⟩ (by omega) (by omega) rfl ?_
      refine g_goto (tgt := 133) dX6_where_129 (by decide) ?_
      exact g_iret dX6_where_133 (Or.inl rfl) ⟨congrArg gK1 (by have := xDoors_b M0 c; unfold xWhere; (repeat' split) <;> omega), rfl⟩
  · refine g_tableIn (tgt := 134) (off := 112) dX6_where_22 (by omega) (by omega) (by rw [w22]; rfl) (by decide) ?_
    refine g_aload_n dX6_where_134 rfl rfl ?_
    refine p_getR (o := some 75) dX6_where_135 (fX6_7 l) (by decide) rfl (by omega) rfl ?_
    refine g_iload_n dX6_where_138 rfl rfl ?_
    refine m_iald (len := 60) (x := M0 75 c) dX6_where_139 rfl ⟨by omega, by omega⟩ (by omega) (by omega) rfl ?_
    refine g_iconst (x := 2) dX6_where_140 (by decide) ?_
    refine g_icmp_ne (tgt := 153) dX6_where_141 (by decide) (fun c141 => ?_) (fun c141 => ?_)
    · refine g_iconst (x := -1) dX6_where_153 (by decide) ?_
      exact g_iret dX6_where_154 (Or.inl rfl) ⟨congrArg gK1 (by have := xDoors_b M0 c; unfold xWhere; (repeat' split) <;> omega), rfl⟩
    · refine g_aload_n dX6_where_144 rfl rfl ?_
      refine p_getR (o := some 78) dX6_where_145 (fX6_19 l) (by decide) rfl (by omega) rfl ?_
      refine g_iload_n dX6_where_148 rfl rfl ?_
      refine m_iald (len := 60) (x := M0 78 c) dX6_where_149 rfl ⟨by omega, by omega⟩ (by omega) (by omega) rfl ?_
      refine g_goto (tgt := 154) dX6_where_150 (by decide) ?_
      exact g_iret dX6_where_154 (Or.inl rfl) ⟨congrArg gK1 (by have := xDoors_b M0 c; unfold xWhere; (repeat' split) <;> omega), rfl⟩
  · refine g_tableIn (tgt := 155) (off := 133) dX6_where_22 (by omega) (by omega) (by rw [w22]; rfl) (by decide) ?_
    refine g_aload_n dX6_where_155 rfl rfl ?_
    refine p_getR (o := some 75) dX6_where_156 (fX6_7 l) (by decide) rfl (by omega) rfl ?_
    refine g_iload_n dX6_where_159 rfl rfl ?_
    refine m_iald (len := 60) (x := M0 75 c) dX6_where_160 rfl ⟨by omega, by omega⟩ (by omega) (by omega) rfl ?_
    refine g_iconst (x := 2) dX6_where_161 (by decide) ?_
    refine g_icmp_ne (tgt := 174) dX6_where_162 (by decide) (fun c162 => ?_) (fun c162 => ?_)
    · refine g_iconst (x := -1) dX6_where_174 (by decide) ?_
      exact g_iret dX6_where_175 (Or.inl rfl) ⟨congrArg gK1 (by have := xDoors_b M0 c; unfold xWhere; (repeat' split) <;> omega), rfl⟩
    · refine g_aload_n dX6_where_165 rfl rfl ?_
      refine p_getR (o := some 79) dX6_where_166 (fX6_22 l) (by decide) rfl (by omega) rfl ?_
      refine g_iload_n dX6_where_169 rfl rfl ?_
      refine m_iald (len := 60) (x := M0 79 c) dX6_where_170 rfl ⟨by omega, by omega⟩ (by omega) (by omega) rfl ?_
      refine g_goto (tgt := 175) dX6_where_171 (by decide) ?_
      exact g_iret dX6_where_175 (Or.inl rfl) ⟨congrArg gK1 (by have := xDoors_b M0 c; unfold xWhere; (repeat' split) <;> omega), rfl⟩
  · refine g_tableIn (tgt := 176) (off := 154) dX6_where_22 (by omega) (by omega) (by rw [w22]; rfl) (by decide) ?_
    refine g_aload_n dX6_where_176 rfl rfl ?_
    refine g_iload_n dX6_where_177 rfl rfl ?_
    refine g_Vi1 dX6_where_178 (sX6_where_178 l) rfl (by show 74 < 87; omega) (Nat.le_of_ble_eq_true rfl) (cX6_hasOpenDoors l hc) ?_
    refine g_if_eq (tgt := 188) dX6_where_181 (by decide) (fun c181 => ?_) (fun c181 => ?_)
    · refine g_iconst (x := 0) dX6_where_188 (by decide) ?_
      exact g_iret dX6_where_189 (Or.inl rfl) ⟨congrArg gK1 (by have := xDoors_b M0 c; unfold xWhere; (repeat' split) <;> omega), rfl⟩
    · refine g_iconst (x := 1) dX6_where_184 (by decide) ?_
      refine g_goto (tgt := 189) dX6_where_185 (by decide) ?_
      exact g_iret dX6_where_189 (Or.inl rfl) ⟨congrArg gK1 (by have := xDoors_b M0 c; unfold xWhere; (repeat' split) <;> omega), rfl⟩
  · refine g_tableIn (tgt := 190) (off := 168) dX6_where_22 (by omega) (by omega) (by rw [w22]; rfl) (by decide) ?_
    refine g_aload_n dX6_where_190 rfl rfl ?_
    refine p_getR (o := some 82) dX6_where_191 (fX6_31 l) (by decide) rfl (by omega) rfl ?_
    refine g_iload_n dX6_where_194 rfl rfl ?_
    refine m_iald (len := 60) (x := M0 82 c) dX6_where_195 rfl ⟨by omega, by omega⟩ (by omega) (by omega) rfl ?_
    exact g_iret dX6_where_196 (Or.inl rfl) ⟨congrArg gK1 (by have := xDoors_b M0 c; unfold xWhere; (repeat' split) <;> omega), rfl⟩
  · refine g_tableIn (tgt := 197) (off := 175) dX6_where_22 (by omega) (by omega) (by rw [w22]; rfl) (by decide) ?_
    refine g_aload_n dX6_where_197 rfl rfl ?_
    refine p_getR (o := some 83) dX6_where_198 (fX6_34 l) (by decide) rfl (by omega) rfl ?_
    refine g_iload_n dX6_where_201 rfl rfl ?_
    refine m_iald (len := 60) (x := M0 83 c) dX6_where_202 rfl ⟨by omega, by omega⟩ (by omega) (by omega) rfl ?_
    exact g_iret dX6_where_203 (Or.inl rfl) ⟨congrArg gK1 (by have := xDoors_b M0 c; unfold xWhere; (repeat' split) <;> omega), rfl⟩
set_option maxHeartbeats 1000000 in
theorem cX6_gap_x (l : Launch) {L : Nat} {S : sT} {M : Nat → Nat → Int} {M1 : Nat → Nat → Int} (hM1 : M1 = up M 74 0 1) {c : Int} (h1 : ¬ (0 ≤ c ∧ c ≤ 59)) : gMi (gπ l) mX6_gap yX6_gap [gR (some 74), gI c] (hS L S M) (0) (hS L S M1) := by
  refine gMet_of pnX6 rfl rfl rfl (Nat.le_of_ble_eq_true rfl) (gAr (gAi gAn)) ?_
  show G (gπ l) mX6_gap 0 [gR (some 74), gI c, gU, gU, gU] [] (hS L S M) 0 0 _
  refine g_aload_n dX6_gap_0 rfl rfl ?_
  refine g_iload_n dX6_gap_1 rfl rfl ?_
  refine g_Si1 dX6_gap_2 (sX6_gap_2 l) (Nat.le_of_ble_eq_true rfl) (gMi_to 0 (cX6_isCabin l) (by rw [if_neg h1])) ?_
  refine g_if_ne (tgt := 12) dX6_gap_5 (by decide) (fun c5 => absurd c5 (by omega)) (fun c5 => ?_)
  refine g_iconst (x := 1) dX6_gap_8 (by decide) ?_
  refine g_goto (tgt := 13) dX6_gap_9 (by decide) ?_
  refine g_Vi1 dX6_gap_13 (sX6_gap_13 l) rfl (by show 74 < 87; omega) (Nat.le_of_ble_eq_true rfl) (cX6_fails1 l hM1) ?_
  refine g_if_ne (tgt := 29) dX6_gap_16 (by decide) (fun c16 => ?_) (fun c16 => absurd c16 (by omega))
  refine g_aload_n dX6_gap_29 rfl rfl ?_
  refine m_getI (x := 1) dX6_gap_30 (fX6_47 l) rfl rfl ⟨by omega, by omega⟩ (by rw [hM1, up_same]) ?_
  refine g_if_le (tgt := 40) dX6_gap_33 (by decide) (fun c33 => absurd c33 (by omega)) (fun c33 => ?_)
  refine g_iconst (x := 0) dX6_gap_36 (by decide) ?_
  refine g_goto (tgt := 41) dX6_gap_37 (by decide) ?_
  exact g_iret dX6_gap_41 (Or.inl rfl) ⟨rfl, rfl⟩
set_option maxHeartbeats 1000000 in
theorem cX6_gap_0 (l : Launch) {L : Nat} {S : sT} {M : Nat → Nat → Int} {M0 : Nat → Nat → Int} (hM0 : M0 = up M 74 0 0) {c : Nat} (hc : c < 60) (hp : M0 75 c ≠ 3) : gMi (gπ l) mX6_gap yX6_gap [gR (some 74), gI (c : Int)] (hS L S M) (-1) (hS L S M0) := by
  refine gMet_of pnX6 rfl rfl rfl (Nat.le_of_ble_eq_true rfl) (gAr (gAi gAn)) ?_
  show G (gπ l) mX6_gap 0 [gR (some 74), gI (c : Int), gU, gU, gU] [] (hS L S M) 0 0 _
  refine g_aload_n dX6_gap_0 rfl rfl ?_
  refine g_iload_n dX6_gap_1 rfl rfl ?_
  refine g_Si1 dX6_gap_2 (sX6_gap_2 l) (Nat.le_of_ble_eq_true rfl) (gMi_to 1 (cX6_isCabin l) (by rw [if_pos ⟨by omega, by omega⟩])) ?_
  refine g_if_ne (tgt := 12) dX6_gap_5 (by decide) (fun c5 => ?_) (fun c5 => absurd c5 (by omega))
  refine g_iconst (x := 0) dX6_gap_12 (by decide) ?_
  refine g_Vi1 dX6_gap_13 (sX6_gap_13 l) rfl (by show 74 < 87; omega) (Nat.le_of_ble_eq_true rfl) (cX6_fails0 l hM0) ?_
  refine g_if_ne (tgt := 29) dX6_gap_16 (by decide) (fun c16 => absurd c16 (by omega)) (fun c16 => ?_)
  refine g_aload_n dX6_gap_19 rfl rfl ?_
  refine p_getR (o := some 75) dX6_gap_20 (fX6_7 l) (by decide) rfl (by omega) rfl ?_
  refine g_iload_n dX6_gap_23 rfl rfl ?_
  refine m_iald (len := 60) (x := M0 75 c) dX6_gap_24 rfl ⟨by omega, by omega⟩ (by omega) (by omega) rfl ?_
  refine g_iconst (x := 3) dX6_gap_25 (by decide) ?_
  refine g_icmp_eq (tgt := 42) dX6_gap_26 (by decide) (fun c26 => absurd c26 (by omega)) (fun c26 => ?_)
  refine g_aload_n dX6_gap_29 rfl rfl ?_
  refine m_getI (x := 0) dX6_gap_30 (fX6_47 l) rfl rfl ⟨by omega, by omega⟩ (by rw [hM0, up_same]) ?_
  refine g_if_le (tgt := 40) dX6_gap_33 (by decide) (fun c33 => ?_) (fun c33 => absurd c33 (by omega))
  refine g_iconst (x := -1) dX6_gap_40 (by decide) ?_
  exact g_iret dX6_gap_41 (Or.inl rfl) ⟨rfl, rfl⟩
def xFar (M : Nat → Nat → Int) (o c : Nat) : Int := grem (gadd (gsub (gsub (gadd (gmul 6000 (M 77 o)) (M 76 o)) (gmul 6000 (M 77 c))) (M 76 c)) 12000) 12000
def xWay (M : Nat → Nat → Int) (c : Nat) : Nat → Int
  | 0 => 12000
  | k + 1 => if M 75 k = 3 ∧ k ≠ c then (if 0 < xFar M k c ∧ xFar M k c < xWay M c k then xFar M k c else xWay M c k) else xWay M c k
set_option maxHeartbeats 1000000 in
theorem cX6_gap_1 (l : Launch) {L : Nat} {S : sT} {M : Nat → Nat → Int} {M0 : Nat → Nat → Int} (hM0 : M0 = up M 74 0 0) {c : Nat} (hc : c < 60) (hp : M0 75 c = 3) : gMi (gπ l) mX6_gap yX6_gap [gR (some 74), gI (c : Int)] (hS L S M) (xWay M0 c 60) (hS L S M0) := by
  refine gMet_of pnX6 rfl rfl rfl (Nat.le_of_ble_eq_true rfl) (gAr (gAi gAn)) ?_
  show G (gπ l) mX6_gap 0 [gR (some 74), gI (c : Int), gU, gU, gU] [] (hS L S M) 0 0 _
  have loop : ∀ (m k : Nat), k + m = 60 → ∀ e4 : gV, G (gπ l) mX6_gap 48 [gR (some 74), gI (c : Int), gI (xWay M0 c k), gI (k : Int), e4] [] (hS L S M0) 0 0 (fun r k9 => r = some (some (gI (xWay M0 c 60))) ∧ k9 = hS L S M0) := by
    intro m
    induction m with
    | zero =>
      intro k hk e4
      refine g_iload_n dX6_gap_48 rfl rfl ?_
      refine g_bipush (x := 60) dX6_gap_49 (by decide) ?_
      refine g_icmp_ge (tgt := 141) dX6_gap_51 (by decide) (fun c51 => ?_) (fun c51 => absurd c51 (by omega))
      refine g_iload_n dX6_gap_141 rfl rfl ?_
      exact g_iret dX6_gap_142 (Or.inl rfl) ⟨by rw [show k = 60 by omega], rfl⟩
    | succ m ih =>
      intro k hk e4
      refine g_iload_n dX6_gap_48 rfl rfl ?_
      refine g_bipush (x := 60) dX6_gap_49 (by decide) ?_
      refine g_icmp_ge (tgt := 141) dX6_gap_51 (by decide) (fun c51 => absurd c51 (by omega)) (fun c51 => ?_)
      refine g_aload_n dX6_gap_54 rfl rfl ?_
      refine p_getR (o := some 75) dX6_gap_55 (fX6_7 l) (by decide) rfl (by omega) rfl ?_
      refine g_iload_n dX6_gap_58 rfl rfl ?_
      refine m_iald (len := 60) (x := M0 75 k) dX6_gap_59 rfl ⟨by omega, by omega⟩ (by omega) (by omega) rfl ?_
      refine g_iconst (x := 3) dX6_gap_60 (by decide) ?_
      refine g_icmp_ne (tgt := 135) dX6_gap_61 (by decide) (fun c61 => ?_) (fun c61 => ?_)
      · refine e_iinc (v := ((k + 1 : Nat) : Int)) (loc' := [gR (some 74), gI (c : Int), gI (xWay M0 c k), gI (((k + 1 : Nat) : Int)), e4]) dX6_gap_135 (by decide) rfl (gadd_nat (by omega)) rfl ?_
        refine g_goto (tgt := 48) dX6_gap_138 (by decide) ?_
        refine g_eq (loc' := [gR (some 74), gI (c : Int), gI (xWay M0 c (k + 1)), gI ((k + 1 : Nat) : Int), e4]) (by rw [xWay, if_neg (by omega)]) rfl (ih (k + 1) (by omega) _)
      · refine g_iload_n dX6_gap_64 rfl rfl ?_
        refine g_iload_n dX6_gap_65 rfl rfl ?_
        refine g_icmp_ne (tgt := 72) dX6_gap_66 (by decide) (fun c66 => ?_) (fun c66 => ?_)
        · refine g_sipush (x := 6000) dX6_gap_72 (by decide) ?_
          refine g_aload_n dX6_gap_75 rfl rfl ?_
          refine p_getR (o := some 77) dX6_gap_76 (fX6_16 l) (by decide) rfl (by omega) rfl ?_
          refine g_iload_n dX6_gap_79 rfl rfl ?_
          refine m_iald (len := 60) (x := M0 77 k) dX6_gap_80 rfl ⟨by omega, by omega⟩ (by omega) (by omega) rfl ?_
          refine e_imul (v := gmul 6000 (M0 77 k)) dX6_gap_81 rfl ?_
          refine g_aload_n dX6_gap_82 rfl rfl ?_
          refine p_getR (o := some 76) dX6_gap_83 (fX6_13 l) (by decide) rfl (by omega) rfl ?_
          refine g_iload_n dX6_gap_86 rfl rfl ?_
          refine m_iald (len := 60) (x := M0 76 k) dX6_gap_87 rfl ⟨by omega, by omega⟩ (by omega) (by omega) rfl ?_
          refine e_iadd (v := gadd (gmul 6000 (M0 77 k)) (M0 76 k)) dX6_gap_88 rfl ?_
          refine g_sipush (x := 6000) dX6_gap_89 (by decide) ?_
          refine g_aload_n dX6_gap_92 rfl rfl ?_
          refine p_getR (o := some 77) dX6_gap_93 (fX6_16 l) (by decide) rfl (by omega) rfl ?_
          refine g_iload_n dX6_gap_96 rfl rfl ?_
          refine m_iald (len := 60) (x := M0 77 c) dX6_gap_97 rfl ⟨by omega, by omega⟩ (by omega) (by omega) rfl ?_
          refine e_imul (v := gmul 6000 (M0 77 c)) dX6_gap_98 rfl ?_
          refine e_isub (v := gsub (gadd (gmul 6000 (M0 77 k)) (M0 76 k)) (gmul 6000 (M0 77 c))) dX6_gap_99 rfl ?_
          refine g_aload_n dX6_gap_100 rfl rfl ?_
          refine p_getR (o := some 76) dX6_gap_101 (fX6_13 l) (by decide) rfl (by omega) rfl ?_
          refine g_iload_n dX6_gap_104 rfl rfl ?_
          refine m_iald (len := 60) (x := M0 76 c) dX6_gap_105 rfl ⟨by omega, by omega⟩ (by omega) (by omega) rfl ?_
          refine e_isub (v := gsub (gsub (gadd (gmul 6000 (M0 77 k)) (M0 76 k)) (gmul 6000 (M0 77 c))) (M0 76 c)) dX6_gap_106 rfl ?_
          refine g_sipush (x := 12000) dX6_gap_107 (by decide) ?_
          refine e_iadd (v := gadd (gsub (gsub (gadd (gmul 6000 (M0 77 k)) (M0 76 k)) (gmul 6000 (M0 77 c))) (M0 76 c)) 12000) dX6_gap_110 rfl ?_
          refine g_sipush (x := 12000) dX6_gap_111 (by decide) ?_
          refine e_irem (v := xFar M0 k c) dX6_gap_114 (by decide) rfl ?_
          refine e_istore (loc' := [gR (some 74), gI (c : Int), gI (xWay M0 c k), gI (k : Int), gI (xFar M0 k c)]) dX6_gap_115 (by decide) rfl ?_
          refine g_iload dX6_gap_117 rfl ?_
          refine g_if_le (tgt := 133) dX6_gap_119 (by decide) (fun c119 => ?_) (fun c119 => ?_)
          · refine g_iload_n dX6_gap_133 rfl rfl ?_
            refine e_istore_n (loc' := [gR (some 74), gI (c : Int), gI (xWay M0 c k), gI (k : Int), gI (xFar M0 k c)]) dX6_gap_134 rfl (by decide) rfl ?_
            refine e_iinc (v := ((k + 1 : Nat) : Int)) (loc' := [gR (some 74), gI (c : Int), gI (xWay M0 c k), gI (((k + 1 : Nat) : Int)), gI (xFar M0 k c)]) dX6_gap_135 (by decide) rfl (gadd_nat (by omega)) rfl ?_
            refine g_goto (tgt := 48) dX6_gap_138 (by decide) ?_
            refine g_eq (loc' := [gR (some 74), gI (c : Int), gI (xWay M0 c (k + 1)), gI ((k + 1 : Nat) : Int), gI (xFar M0 k c)]) (by rw [xWay, if_pos ⟨c61, by omega⟩, if_neg (by omega)]) rfl (ih (k + 1) (by omega) _)
          · refine g_iload dX6_gap_122 rfl ?_
            refine g_iload_n dX6_gap_124 rfl rfl ?_
            refine g_icmp_ge (tgt := 133) dX6_gap_125 (by decide) (fun c125 => ?_) (fun c125 => ?_)
            · refine g_iload_n dX6_gap_133 rfl rfl ?_
              refine e_istore_n (loc' := [gR (some 74), gI (c : Int), gI (xWay M0 c k), gI (k : Int), gI (xFar M0 k c)]) dX6_gap_134 rfl (by decide) rfl ?_
              refine e_iinc (v := ((k + 1 : Nat) : Int)) (loc' := [gR (some 74), gI (c : Int), gI (xWay M0 c k), gI (((k + 1 : Nat) : Int)), gI (xFar M0 k c)]) dX6_gap_135 (by decide) rfl (gadd_nat (by omega)) rfl ?_
              refine g_goto (tgt := 48) dX6_gap_138 (by decide) ?_
              refine g_eq (loc' := [gR (some 74), gI (c : Int), gI (xWay M0 c (k + 1)), gI ((k + 1 : Nat) : Int), gI (xFar M0 k c)]) (by rw [xWay, if_pos ⟨c61, by omega⟩, if_neg (by omega)]) rfl (ih (k + 1) (by omega) _)
            · refine g_iload dX6_gap_128 rfl ?_
              refine g_goto (tgt := 134) dX6_gap_130 (by decide) ?_
              refine e_istore_n (loc' := [gR (some 74), gI (c : Int), gI (xFar M0 k c), gI (k : Int), gI (xFar M0 k c)]) dX6_gap_134 rfl (by decide) rfl ?_
              refine e_iinc (v := ((k + 1 : Nat) : Int)) (loc' := [gR (some 74), gI (c : Int), gI (xFar M0 k c), gI (((k + 1 : Nat) : Int)), gI (xFar M0 k c)]) dX6_gap_135 (by decide) rfl (gadd_nat (by omega)) rfl ?_
              refine g_goto (tgt := 48) dX6_gap_138 (by decide) ?_
              refine g_eq (loc' := [gR (some 74), gI (c : Int), gI (xWay M0 c (k + 1)), gI ((k + 1 : Nat) : Int), gI (xFar M0 k c)]) (by rw [xWay, if_pos ⟨c61, by omega⟩, if_pos ⟨c119, c125⟩]) rfl (ih (k + 1) (by omega) _)
        · refine g_goto (tgt := 135) dX6_gap_69 (by decide) ?_
          refine e_iinc (v := ((k + 1 : Nat) : Int)) (loc' := [gR (some 74), gI (c : Int), gI (xWay M0 c k), gI (((k + 1 : Nat) : Int)), e4]) dX6_gap_135 (by decide) rfl (gadd_nat (by omega)) rfl ?_
          refine g_goto (tgt := 48) dX6_gap_138 (by decide) ?_
          refine g_eq (loc' := [gR (some 74), gI (c : Int), gI (xWay M0 c (k + 1)), gI ((k + 1 : Nat) : Int), e4]) (by rw [xWay, if_neg (by omega)]) rfl (ih (k + 1) (by omega) _)
  refine g_aload_n dX6_gap_0 rfl rfl ?_
  refine g_iload_n dX6_gap_1 rfl rfl ?_
  refine g_Si1 dX6_gap_2 (sX6_gap_2 l) (Nat.le_of_ble_eq_true rfl) (gMi_to 1 (cX6_isCabin l) (by rw [if_pos ⟨by omega, by omega⟩])) ?_
  refine g_if_ne (tgt := 12) dX6_gap_5 (by decide) (fun c5 => ?_) (fun c5 => absurd c5 (by omega))
  refine g_iconst (x := 0) dX6_gap_12 (by decide) ?_
  refine g_Vi1 dX6_gap_13 (sX6_gap_13 l) rfl (by show 74 < 87; omega) (Nat.le_of_ble_eq_true rfl) (cX6_fails0 l hM0) ?_
  refine g_if_ne (tgt := 29) dX6_gap_16 (by decide) (fun c16 => absurd c16 (by omega)) (fun c16 => ?_)
  refine g_aload_n dX6_gap_19 rfl rfl ?_
  refine p_getR (o := some 75) dX6_gap_20 (fX6_7 l) (by decide) rfl (by omega) rfl ?_
  refine g_iload_n dX6_gap_23 rfl rfl ?_
  refine m_iald (len := 60) (x := M0 75 c) dX6_gap_24 rfl ⟨by omega, by omega⟩ (by omega) (by omega) rfl ?_
  refine g_iconst (x := 3) dX6_gap_25 (by decide) ?_
  refine g_icmp_eq (tgt := 42) dX6_gap_26 (by decide) (fun c26 => ?_) (fun c26 => absurd c26 (by omega))
  refine g_sipush (x := 12000) dX6_gap_42 (by decide) ?_
  refine e_istore_n (loc' := [gR (some 74), gI (c : Int), gI 12000, gU, gU]) dX6_gap_45 rfl (by decide) rfl ?_
  refine g_iconst (x := 0) dX6_gap_46 (by decide) ?_
  refine e_istore_n (loc' := [gR (some 74), gI (c : Int), gI 12000, gI 0, gU]) dX6_gap_47 rfl (by decide) rfl ?_
  exact loop 60 0 (by omega) gU
set_option maxHeartbeats 1000000 in
theorem cX6_sided_0 (l : Launch) {L : Nat} {S : sT} {M : Nat → Nat → Int} {M0 : Nat → Nat → Int} (hM0 : M0 = up M 74 0 0) {sz : Nat} (hsz : M0 74 10 = (sz : Int)) (h20 : sz ≤ 20) {p : Int} (hn : ¬ (0 ≤ p ∧ p < (sz : Int))) : gMi (gπ l) mX6_sided yX6_sided [gR (some 74), gI p] (hS L S M) (-1) (hS L S M0) := by
  refine gMet_of pnX6 rfl rfl rfl (Nat.le_of_ble_eq_true rfl) (gAr (gAi gAn)) ?_
  show G (gπ l) mX6_sided 0 [gR (some 74), gI p] [] (hS L S M) 0 0 _
  refine g_aload_n dX6_sided_0 rfl rfl ?_
  refine g_iconst (x := 0) dX6_sided_1 (by decide) ?_
  refine m_putI dX6_sided_2 (fX6_47 l) gTX6 ⟨rfl, rfl⟩ rfl rfl ⟨by omega, by omega⟩ ?_
  refine g_iload_n dX6_sided_5 rfl rfl ?_
  refine g_iconst (x := 0) dX6_sided_6 (by decide) ?_
  refine g_aload_n dX6_sided_7 rfl rfl ?_
  refine m_getI (x := (sz : Int)) dX6_sided_8 (fX6_79 l) rfl rfl ⟨by omega, by omega⟩ (by rw [← hM0]; exact hsz) ?_
  refine g_iconst (x := 1) dX6_sided_11 (by decide) ?_
  refine e_isub (v := (sz : Int) - 1) dX6_sided_12 (gsub_eq (by omega) (by omega)) ?_
  refine g_Si3 dX6_sided_13 (sX6_sided_13 l) (Nat.le_of_ble_eq_true rfl) (gMi_to 0 (cX6_isIn l) (by rw [if_neg (by omega)])) ?_
  refine g_if_eq (tgt := 28) dX6_sided_16 (by decide) (fun c16 => ?_) (fun c16 => absurd c16 (by omega))
  refine g_iconst (x := -1) dX6_sided_28 (by decide) ?_
  exact g_iret dX6_sided_29 (Or.inl rfl) ⟨rfl, congrArg (hS L S) hM0.symm⟩
set_option maxHeartbeats 1000000 in
theorem cX6_sided_1 (l : Launch) {L : Nat} {S : sT} {M : Nat → Nat → Int} {M0 : Nat → Nat → Int} (hM0 : M0 = up M 74 0 0) {sz : Nat} (hsz : M0 74 10 = (sz : Int)) (h20 : sz ≤ 20) {p : Int} (hn : 0 ≤ p ∧ p < (sz : Int)) : gMi (gπ l) mX6_sided yX6_sided [gR (some 74), gI p] (hS L S M) (M0 84 p.toNat) (hS L S M0) := by
  refine gMet_of pnX6 rfl rfl rfl (Nat.le_of_ble_eq_true rfl) (gAr (gAi gAn)) ?_
  show G (gπ l) mX6_sided 0 [gR (some 74), gI p] [] (hS L S M) 0 0 _
  refine g_aload_n dX6_sided_0 rfl rfl ?_
  refine g_iconst (x := 0) dX6_sided_1 (by decide) ?_
  refine m_putI dX6_sided_2 (fX6_47 l) gTX6 ⟨rfl, rfl⟩ rfl rfl ⟨by omega, by omega⟩ ?_
  refine g_iload_n dX6_sided_5 rfl rfl ?_
  refine g_iconst (x := 0) dX6_sided_6 (by decide) ?_
  refine g_aload_n dX6_sided_7 rfl rfl ?_
  refine m_getI (x := (sz : Int)) dX6_sided_8 (fX6_79 l) rfl rfl ⟨by omega, by omega⟩ (by rw [← hM0]; exact hsz) ?_
  refine g_iconst (x := 1) dX6_sided_11 (by decide) ?_
  refine e_isub (v := (sz : Int) - 1) dX6_sided_12 (gsub_eq (by omega) (by omega)) ?_
  refine g_Si3 dX6_sided_13 (sX6_sided_13 l) (Nat.le_of_ble_eq_true rfl) (gMi_to 1 (cX6_isIn l) (by rw [if_pos ⟨by omega, by omega⟩])) ?_
  refine g_if_eq (tgt := 28) dX6_sided_16 (by decide) (fun c16 => absurd c16 (by omega)) (fun c16 => ?_)
  refine g_aload_n dX6_sided_19 rfl rfl ?_
  refine p_getR (o := some 84) dX6_sided_20 (fX6_37 l) (by decide) rfl (by omega) rfl ?_
  refine g_iload_n dX6_sided_23 rfl rfl ?_
  refine m_iald (len := 20) (x := M0 84 p.toNat) dX6_sided_24 rfl ⟨by omega, by omega⟩ (by omega) (by omega) (by rw [hM0]) ?_
  refine g_goto (tgt := 29) dX6_sided_25 (by decide) ?_
  exact g_iret dX6_sided_29 (Or.inl rfl) ⟨rfl, congrArg (hS L S) hM0.symm⟩
set_option maxHeartbeats 1000000 in
theorem cX6_all (l : Launch) {L : Nat} {S : sT} {M : Nat → Nat → Int}  : gMi (gπ l) mX6_all yX6_all [gR (some 74)] (hS L S M) (sumTo (fun j => M 82 j) 60) (hS L S M) := by
  refine gMet_of pnX6 rfl rfl rfl (Nat.le_of_ble_eq_true rfl) (gAr gAn) ?_
  show G (gπ l) mX6_all 0 [gR (some 74), gU, gU] [] (hS L S M) 0 0 _
  have loop : ∀ (m k : Nat), k + m = 60 → G (gπ l) mX6_all 4 [gR (some 74), gI (sumTo (fun j => M 82 j) k), gI (k : Int)] [] (hS L S M) 0 0 (fun r k => r = some (some (gI (sumTo (fun j => M 82 j) 60))) ∧ k = (hS L S M)) := by
    intro m
    induction m with
    | zero =>
      intro k hk 
      refine g_iload_n dX6_all_4 rfl rfl ?_
      refine g_bipush (x := 60) dX6_all_5 (by decide) ?_
      refine g_icmp_ge (tgt := 25) dX6_all_7 (by decide) (fun c7 => ?_) (fun c7 => absurd c7 (by omega))
      refine g_iload_n dX6_all_25 rfl rfl ?_
      exact g_iret dX6_all_26 (Or.inl rfl) ⟨by rw [show k = 60 by omega], rfl⟩
    | succ m ih =>
      intro k hk 
      refine g_iload_n dX6_all_4 rfl rfl ?_
      refine g_bipush (x := 60) dX6_all_5 (by decide) ?_
      refine g_icmp_ge (tgt := 25) dX6_all_7 (by decide) (fun c7 => absurd c7 (by omega)) (fun c7 => ?_)
      refine g_iload_n dX6_all_10 rfl rfl ?_
      refine g_aload_n dX6_all_11 rfl rfl ?_
      refine p_getR (o := some 82) dX6_all_12 (fX6_31 l) (by decide) rfl (by omega) rfl ?_
      refine g_iload_n dX6_all_15 rfl rfl ?_
      refine m_iald (len := 60) (x := M 82 k) dX6_all_16 rfl ⟨by omega, by omega⟩ (by omega) (by omega) rfl ?_
      refine e_iadd (v := sumTo (fun j => M 82 j) (k + 1)) dX6_all_17 rfl ?_
      refine e_istore_n (loc' := [gR (some 74), gI (sumTo (fun j => M 82 j) (k + 1)), gI (k : Int)]) dX6_all_18 rfl (by decide) rfl ?_
      refine e_iinc (v := ((k + 1 : Nat) : Int)) (loc' := [gR (some 74), gI (sumTo (fun j => M 82 j) (k + 1)), gI (((k + 1 : Nat) : Int))]) dX6_all_19 (by decide) rfl (gadd_nat (by omega)) rfl ?_
      refine g_goto (tgt := 4) dX6_all_22 (by decide) ?_
      exact ih (k + 1) (by omega)
  refine g_iconst (x := 0) dX6_all_0 (by decide) ?_
  refine e_istore_n (loc' := [gR (some 74), gI 0, gU]) dX6_all_1 rfl (by decide) rfl ?_
  refine g_iconst (x := 0) dX6_all_2 (by decide) ?_
  refine e_istore_n (loc' := [gR (some 74), gI 0, gI 0]) dX6_all_3 rfl (by decide) rfl ?_
  exact loop 60 0 (by omega)
def xState (M : Nat → Nat → Int) (w : Int) : Int := if w = 0 then M 74 17 else if w = 1 then M 74 16 else if w = 2 then M 74 15 else if w = 3 then xMid M else if w = 4 then M 74 10 else if w = 5 then cntTo (fun c => decide (M 75 c = 3)) 60 else if w = 6 then cntTo (fun c => decide (M 75 c = 2)) 60 else if w = 7 then sumTo (fun j => M 82 j) 60 else if w = 8 then M 74 18 else if w = 9 then M 74 19 else -1
set_option maxHeartbeats 1000000 in
theorem cX6_state (l : Launch) {L : Nat} {S : sT} {M : Nat → Nat → Int} {M0 : Nat → Nat → Int} (hM0 : M0 = up M 74 0 0) (h0 : 0 ≤ M0 74 12) {w : Int} : gMi (gπ l) mX6_state yX6_state [gR (some 74), gI w] (hS L S M) (xState M0 w) (hS L S M0) := by
  refine gMet_of pnX6 rfl rfl rfl (Nat.le_of_ble_eq_true rfl) (gAr (gAi gAn)) ?_
  show G (gπ l) mX6_state 0 [gR (some 74), gI w] [] (hS L S M) 0 0 _
  refine g_aload_n dX6_state_0 rfl rfl ?_
  refine g_iconst (x := 0) dX6_state_1 (by decide) ?_
  refine m_putI dX6_state_2 (fX6_47 l) gTX6 ⟨rfl, rfl⟩ rfl rfl ⟨by omega, by omega⟩ ?_
  refine g_eq rfl (show hS L S (up M 74 0 0) = hS L S M0 from by rw [hM0]) ?_
  refine g_iload_n dX6_state_5 rfl rfl ?_
  rcases (by omega : (w < 0 ∨ 9 < w) ∨ w = 0 ∨ w = 1 ∨ w = 2 ∨ w = 3 ∨ w = 4 ∨ w = 5 ∨ w = 6 ∨ w = 7 ∨ w = 8 ∨ w = 9) with w6 | w6 | w6 | w6 | w6 | w6 | w6 | w6 | w6 | w6 | w6
  · refine g_tableOut (tgt := 112) dX6_state_6 (by omega) (by decide) ?_
    refine g_iconst (x := -1) dX6_state_112 (by decide) ?_
    exact g_iret dX6_state_113 (Or.inl rfl) ⟨congrArg gK1 (by unfold xState; (repeat' split) <;> omega), rfl⟩
  · refine g_tableIn (tgt := 60) (off := 54) dX6_state_6 (by omega) (by omega) (by rw [w6]; rfl) (by decide) ?_
    refine g_aload_n dX6_state_60 rfl rfl ?_
    refine m_getI (x := M0 74 17) dX6_state_61 (fX6_114 l) rfl rfl ⟨by omega, by omega⟩ rfl ?_
    exact g_iret dX6_state_64 (Or.inl rfl) ⟨congrArg gK1 (by unfold xState; (repeat' split) <;> omega), rfl⟩
  · refine g_tableIn (tgt := 65) (off := 59) dX6_state_6 (by omega) (by omega) (by rw [w6]; rfl) (by decide) ?_
    refine g_aload_n dX6_state_65 rfl rfl ?_
    refine m_getI (x := M0 74 16) dX6_state_66 (fX6_111 l) rfl rfl ⟨by omega, by omega⟩ rfl ?_
    exact g_iret dX6_state_69 (Or.inl rfl) ⟨congrArg gK1 (by unfold xState; (repeat' split) <;> omega), rfl⟩
  · refine g_tableIn (tgt := 70) (off := 64) dX6_state_6 (by omega) (by omega) (by rw [w6]; rfl) (by decide) ?_
    refine g_aload_n dX6_state_70 rfl rfl ?_
    refine m_getI (x := M0 74 15) dX6_state_71 (fX6_43 l) rfl rfl ⟨by omega, by omega⟩ rfl ?_
    exact g_iret dX6_state_74 (Or.inl rfl) ⟨congrArg gK1 (by unfold xState; (repeat' split) <;> omega), rfl⟩
  · refine g_tableIn (tgt := 75) (off := 69) dX6_state_6 (by omega) (by omega) (by rw [w6]; rfl) (by decide) ?_
    refine g_aload_n dX6_state_75 rfl rfl ?_
    refine g_Vi0 dX6_state_76 (sX6_state_76 l) rfl (by show 74 < 87; omega) (Nat.le_of_ble_eq_true rfl) (cX6_middle l h0) ?_
    exact g_iret dX6_state_79 (Or.inl rfl) ⟨congrArg gK1 (by unfold xState; (repeat' split) <;> omega), rfl⟩
  · refine g_tableIn (tgt := 80) (off := 74) dX6_state_6 (by omega) (by omega) (by rw [w6]; rfl) (by decide) ?_
    refine g_aload_n dX6_state_80 rfl rfl ?_
    refine m_getI (x := M0 74 10) dX6_state_81 (fX6_79 l) rfl rfl ⟨by omega, by omega⟩ rfl ?_
    exact g_iret dX6_state_84 (Or.inl rfl) ⟨congrArg gK1 (by unfold xState; (repeat' split) <;> omega), rfl⟩
  · refine g_tableIn (tgt := 85) (off := 79) dX6_state_6 (by omega) (by omega) (by rw [w6]; rfl) (by decide) ?_
    refine g_aload_n dX6_state_85 rfl rfl ?_
    refine g_iconst (x := 3) dX6_state_86 (by decide) ?_
    refine g_Vi1 dX6_state_87 (sX6_state_87 l) rfl (by show 74 < 87; omega) (Nat.le_of_ble_eq_true rfl) (cX6_many l) ?_
    exact g_iret dX6_state_90 (Or.inl rfl) ⟨congrArg gK1 (by unfold xState; (repeat' split) <;> omega), rfl⟩
  · refine g_tableIn (tgt := 91) (off := 85) dX6_state_6 (by omega) (by omega) (by rw [w6]; rfl) (by decide) ?_
    refine g_aload_n dX6_state_91 rfl rfl ?_
    refine g_iconst (x := 2) dX6_state_92 (by decide) ?_
    refine g_Vi1 dX6_state_93 (sX6_state_93 l) rfl (by show 74 < 87; omega) (Nat.le_of_ble_eq_true rfl) (cX6_many l) ?_
    exact g_iret dX6_state_96 (Or.inl rfl) ⟨congrArg gK1 (by unfold xState; (repeat' split) <;> omega), rfl⟩
  · refine g_tableIn (tgt := 97) (off := 91) dX6_state_6 (by omega) (by omega) (by rw [w6]; rfl) (by decide) ?_
    refine g_aload_n dX6_state_97 rfl rfl ?_
    refine g_Vi0 dX6_state_98 (sX6_state_98 l) rfl (by show 74 < 87; omega) (Nat.le_of_ble_eq_true rfl) (cX6_all l) ?_
    exact g_iret dX6_state_101 (Or.inl rfl) ⟨congrArg gK1 (by unfold xState; (repeat' split) <;> omega), rfl⟩
  · refine g_tableIn (tgt := 102) (off := 96) dX6_state_6 (by omega) (by omega) (by rw [w6]; rfl) (by decide) ?_
    refine g_aload_n dX6_state_102 rfl rfl ?_
    refine m_getI (x := M0 74 18) dX6_state_103 (fX6_117 l) rfl rfl ⟨by omega, by omega⟩ rfl ?_
    exact g_iret dX6_state_106 (Or.inl rfl) ⟨congrArg gK1 (by unfold xState; (repeat' split) <;> omega), rfl⟩
  · refine g_tableIn (tgt := 107) (off := 101) dX6_state_6 (by omega) (by omega) (by rw [w6]; rfl) (by decide) ?_
    refine g_aload_n dX6_state_107 rfl rfl ?_
    refine m_getI (x := M0 74 19) dX6_state_108 (fX6_76 l) rfl rfl ⟨by omega, by omega⟩ rfl ?_
    exact g_iret dX6_state_111 (Or.inl rfl) ⟨congrArg gK1 (by unfold xState; (repeat' split) <;> omega), rfl⟩
