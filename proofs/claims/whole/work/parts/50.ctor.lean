/-! contracts: the constructors -/
theorem nwX1_9 : Cond.classLink "RopewayDesk$Fleet" 9 KX0.1 ∈ gWS ∧ Cond.instantiable KX0.1 11 ∈ gWS ∧ Cond.initialized KX0.1 ∈ gWS := ⟨gW_t 27 (by decide +kernel) rfl, gW_t 29 (by decide +kernel) rfl, gW_t 3 (by decide +kernel) rfl⟩
theorem nwX5_7 : Cond.classLink "RopewayDesk" 7 KX1.1 ∈ gWS ∧ Cond.instantiable KX1.1 1 ∈ gWS ∧ Cond.initialized KX1.1 ∈ gWS := ⟨gW_t 21 (by decide +kernel) rfl, gW_t 22 (by decide +kernel) rfl, gW_t 2 (by decide +kernel) rfl⟩
theorem nwX5_22 : Cond.classLink "RopewayDesk" 22 KX2.1 ∈ gWS ∧ Cond.instantiable KX2.1 2 ∈ gWS ∧ Cond.initialized KX2.1 ∈ gWS := ⟨gW_t 93 (by decide +kernel) rfl, gW_t 94 (by decide +kernel) rfl, gW_t 4 (by decide +kernel) rfl⟩
theorem nwX5_29 : Cond.classLink "RopewayDesk" 29 KX4.1 ∈ gWS ∧ Cond.instantiable KX4.1 5 ∈ gWS ∧ Cond.initialized KX4.1 ∈ gWS := ⟨gW_t 108 (by decide +kernel) rfl, gW_t 109 (by decide +kernel) rfl, gW_t 5 (by decide +kernel) rfl⟩
theorem nwX5_16 : Cond.classLink "RopewayDesk" 16 KX3.1 ∈ gWS ∧ Cond.instantiable KX3.1 2 ∈ gWS ∧ Cond.initialized KX3.1 ∈ gWS := ⟨gW_t 91 (by decide +kernel) rfl, gW_t 132 (by decide +kernel) rfl, gW_t 6 (by decide +kernel) rfl⟩
theorem nwL_8 : Cond.classLink "RopewayDeskLaw" 8 KX5.1 ∈ gWS ∧ Cond.instantiable KX5.1 10 ∈ gWS ∧ Cond.initialized KX5.1 ∈ gWS := ⟨gW_t 13 (by decide +kernel) rfl, gW_t 14 (by decide +kernel) rfl, gW_t 1 (by decide +kernel) rfl⟩
theorem nwL_54 : Cond.classLink "RopewayDeskLaw" 54 KX6.1 ∈ gWS ∧ Cond.instantiable KX6.1 20 ∈ gWS ∧ Cond.initialized KX6.1 ∈ gWS := ⟨gW_t 533 (by decide +kernel) rfl, gW_t 534 (by decide +kernel) rfl, gW_t 7 (by decide +kernel) rfl⟩
theorem naX1_9 : Cond.classLink "RopewayDesk$Fleet" 9 KX0.1 ∈ gWS := gW_t 27 (by decide +kernel) rfl
theorem naX5_16 : Cond.classLink "RopewayDesk" 16 KX3.1 ∈ gWS := gW_t 91 (by decide +kernel) rfl
theorem naX2_9 : Cond.classLink "RopewayDesk$Siding" 9 KX0.1 ∈ gWS := gW_t 99 (by decide +kernel) rfl
theorem naX3_9 : Cond.classLink "RopewayDesk$Station" 9 KX0.1 ∈ gWS := gW_t 137 (by decide +kernel) rfl
theorem nwI : Cond.arrayClass .int ∈ gWS := gW_t 131 (by decide +kernel) rfl
theorem nwL : Cond.arrayClass .long ∈ gWS := gW_t 745 (by decide +kernel) rfl
theorem tyX0_k : ∀ j, j < KX0.2.2 → ((KX0.2.1 j).2.2.1 = "I" ∧ tyX0 j = .int) ∨ ((KX0.2.1 j).2.2.1 ≠ "I" ∧ ((∃ C, tyX0 j = .object C) ∨ ∃ t, tyX0 j = .array t)) := by
  intro j hj
  match j, hj with
  | 0, _ => exact Or.inl ⟨rfl, rfl⟩
  | 1, _ => exact Or.inl ⟨rfl, rfl⟩
  | 2, _ => exact Or.inl ⟨rfl, rfl⟩
  | 3, _ => exact Or.inl ⟨rfl, rfl⟩
  | 4, _ => exact Or.inl ⟨rfl, rfl⟩
  | 5, _ => exact Or.inl ⟨rfl, rfl⟩
  | 6, _ => exact Or.inl ⟨rfl, rfl⟩
  | 7, _ => exact Or.inl ⟨rfl, rfl⟩
  | 8, _ => exact Or.inl ⟨rfl, rfl⟩
  | 9, _ => exact Or.inl ⟨rfl, rfl⟩
  | 10, _ => exact Or.inl ⟨rfl, rfl⟩
theorem tyX1_k : ∀ j, j < KX1.2.2 → ((KX1.2.1 j).2.2.1 = "I" ∧ tyX1 j = .int) ∨ ((KX1.2.1 j).2.2.1 ≠ "I" ∧ ((∃ C, tyX1 j = .object C) ∨ ∃ t, tyX1 j = .array t)) := by
  intro j hj
  match j, hj with
  | 0, _ => exact Or.inr ⟨by decide, Or.inr ⟨_, rfl⟩⟩
theorem tyX2_k : ∀ j, j < KX2.2.2 → ((KX2.2.1 j).2.2.1 = "I" ∧ tyX2 j = .int) ∨ ((KX2.2.1 j).2.2.1 ≠ "I" ∧ ((∃ C, tyX2 j = .object C) ∨ ∃ t, tyX2 j = .array t)) := by
  intro j hj
  match j, hj with
  | 0, _ => exact Or.inr ⟨by decide, Or.inr ⟨_, rfl⟩⟩
  | 1, _ => exact Or.inl ⟨rfl, rfl⟩
theorem tyX3_k : ∀ j, j < KX3.2.2 → ((KX3.2.1 j).2.2.1 = "I" ∧ tyX3 j = .int) ∨ ((KX3.2.1 j).2.2.1 ≠ "I" ∧ ((∃ C, tyX3 j = .object C) ∨ ∃ t, tyX3 j = .array t)) := by
  intro j hj
  match j, hj with
  | 0, _ => exact Or.inl ⟨rfl, rfl⟩
  | 1, _ => exact Or.inr ⟨by decide, Or.inr ⟨_, rfl⟩⟩
theorem tyX4_k : ∀ j, j < KX4.2.2 → ((KX4.2.1 j).2.2.1 = "I" ∧ tyX4 j = .int) ∨ ((KX4.2.1 j).2.2.1 ≠ "I" ∧ ((∃ C, tyX4 j = .object C) ∨ ∃ t, tyX4 j = .array t)) := by
  intro j hj
  match j, hj with
  | 0, _ => exact Or.inr ⟨by decide, Or.inr ⟨_, rfl⟩⟩
  | 1, _ => exact Or.inr ⟨by decide, Or.inr ⟨_, rfl⟩⟩
  | 2, _ => exact Or.inl ⟨rfl, rfl⟩
  | 3, _ => exact Or.inl ⟨rfl, rfl⟩
  | 4, _ => exact Or.inl ⟨rfl, rfl⟩
theorem tyX5_k : ∀ j, j < KX5.2.2 → ((KX5.2.1 j).2.2.1 = "I" ∧ tyX5 j = .int) ∨ ((KX5.2.1 j).2.2.1 ≠ "I" ∧ ((∃ C, tyX5 j = .object C) ∨ ∃ t, tyX5 j = .array t)) := by
  intro j hj
  match j, hj with
  | 0, _ => exact Or.inr ⟨by decide, Or.inl ⟨_, rfl⟩⟩
  | 1, _ => exact Or.inr ⟨by decide, Or.inr ⟨_, rfl⟩⟩
  | 2, _ => exact Or.inr ⟨by decide, Or.inl ⟨_, rfl⟩⟩
  | 3, _ => exact Or.inr ⟨by decide, Or.inl ⟨_, rfl⟩⟩
  | 4, _ => exact Or.inl ⟨rfl, rfl⟩
  | 5, _ => exact Or.inl ⟨rfl, rfl⟩
  | 6, _ => exact Or.inl ⟨rfl, rfl⟩
  | 7, _ => exact Or.inl ⟨rfl, rfl⟩
  | 8, _ => exact Or.inl ⟨rfl, rfl⟩
  | 9, _ => exact Or.inl ⟨rfl, rfl⟩
theorem tyX6_k : ∀ j, j < KX6.2.2 → ((KX6.2.1 j).2.2.1 = "I" ∧ tyX6 j = .int) ∨ ((KX6.2.1 j).2.2.1 ≠ "I" ∧ ((∃ C, tyX6 j = .object C) ∨ ∃ t, tyX6 j = .array t)) := by
  intro j hj
  match j, hj with
  | 0, _ => exact Or.inl ⟨rfl, rfl⟩
  | 1, _ => exact Or.inr ⟨by decide, Or.inr ⟨_, rfl⟩⟩
  | 2, _ => exact Or.inr ⟨by decide, Or.inr ⟨_, rfl⟩⟩
  | 3, _ => exact Or.inr ⟨by decide, Or.inr ⟨_, rfl⟩⟩
  | 4, _ => exact Or.inr ⟨by decide, Or.inr ⟨_, rfl⟩⟩
  | 5, _ => exact Or.inr ⟨by decide, Or.inr ⟨_, rfl⟩⟩
  | 6, _ => exact Or.inr ⟨by decide, Or.inr ⟨_, rfl⟩⟩
  | 7, _ => exact Or.inr ⟨by decide, Or.inr ⟨_, rfl⟩⟩
  | 8, _ => exact Or.inr ⟨by decide, Or.inr ⟨_, rfl⟩⟩
  | 9, _ => exact Or.inr ⟨by decide, Or.inr ⟨_, rfl⟩⟩
  | 10, _ => exact Or.inl ⟨rfl, rfl⟩
  | 11, _ => exact Or.inr ⟨by decide, Or.inr ⟨_, rfl⟩⟩
  | 12, _ => exact Or.inl ⟨rfl, rfl⟩
  | 13, _ => exact Or.inr ⟨by decide, Or.inr ⟨_, rfl⟩⟩
  | 14, _ => exact Or.inl ⟨rfl, rfl⟩
  | 15, _ => exact Or.inl ⟨rfl, rfl⟩
  | 16, _ => exact Or.inl ⟨rfl, rfl⟩
  | 17, _ => exact Or.inl ⟨rfl, rfl⟩
  | 18, _ => exact Or.inl ⟨rfl, rfl⟩
  | 19, _ => exact Or.inl ⟨rfl, rfl⟩
  | j + 20, h => exact absurd h (by show ¬ j + 20 < 20; omega)
set_option maxHeartbeats 2000000 in
theorem cX0_init (l : Launch) {L : Nat} {i : Nat → Nat → Int} {r : Nat → Nat → Option Nat} {n N : Nat} {c : Int} (h1 : 4 ≤ n) (h2 : n < 64) (h3 : n < N) : gMet (gπ l) mX0_init yX0_init [gR (some n), gI c] (hn L i r N) 0 0 (fun r9 k9 => r9 = some none ∧ k9 = hn L (cabI i n c) r N) := by
  refine gMet_of pnX0 rfl rfl rfl (Nat.le_of_ble_eq_true rfl) (gAr (gAi gAn)) ?_
  show G (gπ l) mX0_init 0 [gR (some n), gI c] [] (hn L i r N) 0 0 _
  refine g_aload_n dX0_init_0 rfl rfl ?_
  refine g_objInit dX0_init_1 oX0_3 ⟨by decide, by decide⟩ ?_
  refine g_aload_n dX0_init_4 rfl rfl ?_
  refine g_iconst (x := 0) dX0_init_5 (by decide) ?_
  refine n_putI dX0_init_6 (fX0_9 l) gTX0 ⟨rfl, rfl⟩ (by first | exact Or.inl rfl | exact Or.inr ⟨rfl, rfl, rfl⟩) (T0_cab (by omega) (by omega)) (by omega) (by omega) ?_
  refine g_aload_n dX0_init_9 rfl rfl ?_
  refine g_iconst (x := -1) dX0_init_10 (by decide) ?_
  refine n_putI dX0_init_11 (fX0_15 l) gTX0 ⟨rfl, rfl⟩ (by first | exact Or.inl rfl | exact Or.inr ⟨rfl, rfl, rfl⟩) (T0_cab (by omega) (by omega)) (by omega) (by omega) ?_
  refine g_aload_n dX0_init_14 rfl rfl ?_
  refine g_iconst (x := -1) dX0_init_15 (by decide) ?_
  refine n_putI dX0_init_16 (fX0_18 l) gTX0 ⟨rfl, rfl⟩ (by first | exact Or.inl rfl | exact Or.inr ⟨rfl, rfl, rfl⟩) (T0_cab (by omega) (by omega)) (by omega) (by omega) ?_
  refine g_aload_n dX0_init_19 rfl rfl ?_
  refine g_iconst (x := 0) dX0_init_20 (by decide) ?_
  refine n_putI dX0_init_21 (fX0_21 l) gTX0 ⟨rfl, rfl⟩ (by first | exact Or.inl rfl | exact Or.inr ⟨rfl, rfl, rfl⟩) (T0_cab (by omega) (by omega)) (by omega) (by omega) ?_
  refine g_aload_n dX0_init_24 rfl rfl ?_
  refine g_iconst (x := -1) dX0_init_25 (by decide) ?_
  refine n_putI dX0_init_26 (fX0_24 l) gTX0 ⟨rfl, rfl⟩ (by first | exact Or.inl rfl | exact Or.inr ⟨rfl, rfl, rfl⟩) (T0_cab (by omega) (by omega)) (by omega) (by omega) ?_
  refine g_aload_n dX0_init_29 rfl rfl ?_
  refine g_iconst (x := -1) dX0_init_30 (by decide) ?_
  refine n_putI dX0_init_31 (fX0_27 l) gTX0 ⟨rfl, rfl⟩ (by first | exact Or.inl rfl | exact Or.inr ⟨rfl, rfl, rfl⟩) (T0_cab (by omega) (by omega)) (by omega) (by omega) ?_
  refine g_aload_n dX0_init_34 rfl rfl ?_
  refine g_iconst (x := -1) dX0_init_35 (by decide) ?_
  refine n_putI dX0_init_36 (fX0_30 l) gTX0 ⟨rfl, rfl⟩ (by first | exact Or.inl rfl | exact Or.inr ⟨rfl, rfl, rfl⟩) (T0_cab (by omega) (by omega)) (by omega) (by omega) ?_
  refine g_aload_n dX0_init_39 rfl rfl ?_
  refine g_iconst (x := -1) dX0_init_40 (by decide) ?_
  refine n_putI dX0_init_41 (fX0_33 l) gTX0 ⟨rfl, rfl⟩ (by first | exact Or.inl rfl | exact Or.inr ⟨rfl, rfl, rfl⟩) (T0_cab (by omega) (by omega)) (by omega) (by omega) ?_
  refine g_aload_n dX0_init_44 rfl rfl ?_
  refine g_iconst (x := 0) dX0_init_45 (by decide) ?_
  refine n_putI dX0_init_46 (fX0_36 l) gTX0 ⟨rfl, rfl⟩ (by first | exact Or.inl rfl | exact Or.inr ⟨rfl, rfl, rfl⟩) (T0_cab (by omega) (by omega)) (by omega) (by omega) ?_
  refine g_aload_n dX0_init_49 rfl rfl ?_
  refine g_iconst (x := 0) dX0_init_50 (by decide) ?_
  refine n_putI dX0_init_51 (fX0_39 l) gTX0 ⟨rfl, rfl⟩ (by first | exact Or.inl rfl | exact Or.inr ⟨rfl, rfl, rfl⟩) (T0_cab (by omega) (by omega)) (by omega) (by omega) ?_
  refine g_aload_n dX0_init_54 rfl rfl ?_
  refine g_iload_n dX0_init_55 rfl rfl ?_
  refine n_putI dX0_init_56 (fX0_42 l) gTX0 ⟨rfl, rfl⟩ (by first | exact Or.inl rfl | exact Or.inr ⟨rfl, rfl, rfl⟩) (T0_cab (by omega) (by omega)) (by omega) (by omega) ?_
  exact g_vret dX0_init_59 rfl ⟨rfl, rfl⟩
set_option maxHeartbeats 2000000 in
theorem cX2_init (l : Launch) {L : Nat} {i : Nat → Nat → Int} {r : Nat → Nat → Option Nat} (z : Zr 66 i r) : gMet (gπ l) mX2_init yX2_init [gR (some 65)] (hn L i r 66) 1 20 (fun r9 k9 => r9 = some none ∧ k9 = hn L (sidI i) (sidR r) 67) := by
  refine gMet_of pnX2 rfl rfl rfl (Nat.le_of_ble_eq_true rfl) (gAr gAn) ?_
  show G (gπ l) mX2_init 0 [gR (some 65)] [] (hn L i r 66) 1 20 _
  refine g_aload_n dX2_init_0 rfl rfl ?_
  refine g_objInit dX2_init_1 oX2_3 ⟨by decide, by decide⟩ ?_
  refine g_aload_n dX2_init_4 rfl rfl ?_
  refine g_bipush (x := 20) dX2_init_5 (by decide) ?_
  refine n_newA (mc := 0) (ms := 0) (N := 20) (kc0 l) dX2_init_7 naX2_9 rfl (by omega) rfl (by omega) z ?_
  refine n_putR dX2_init_10 (fX2_11 l) gTX2 ⟨by decide, Or.inr ⟨_, rfl⟩⟩ (by first | exact Or.inl rfl | exact Or.inr ⟨rfl, rfl, rfl⟩) rfl (by omega) (by omega) ?_
  refine g_aload_n dX2_init_13 rfl rfl ?_
  refine g_iconst (x := 0) dX2_init_14 (by decide) ?_
  refine n_putI dX2_init_15 (fX2_17 l) gTX2 ⟨rfl, rfl⟩ (by first | exact Or.inl rfl | exact Or.inr ⟨rfl, rfl, rfl⟩) rfl (by omega) (by omega) ?_
  exact g_vret dX2_init_18 rfl ⟨rfl, rfl⟩
set_option maxHeartbeats 2000000 in
theorem cX3_init (l : Launch) {L : Nat} {i : Nat → Nat → Int} {r : Nat → Nat → Option Nat} {n : Nat} {c : Int} (hn1 : n = 70 ∨ n = 72) (z : Zr (n + 1) i r) : gMet (gπ l) mX3_init yX3_init [gR (some n), gI c] (hn L i r (n + 1)) 1 13 (fun r9 k9 => r9 = some none ∧ k9 = hn L (stI i n c) (stR r n) (n + 2)) := by
  refine gMet_of pnX3 rfl rfl rfl (Nat.le_of_ble_eq_true rfl) (gAr (gAi gAn)) ?_
  show G (gπ l) mX3_init 0 [gR (some n), gI c] [] (hn L i r (n + 1)) 1 13 _
  refine g_aload_n dX3_init_0 rfl rfl ?_
  refine g_objInit dX3_init_1 oX3_3 ⟨by decide, by decide⟩ ?_
  refine g_aload_n dX3_init_4 rfl rfl ?_
  refine g_bipush (x := 13) dX3_init_5 (by decide) ?_
  refine n_newA (mc := 0) (ms := 0) (N := 13) (kc0 l) dX3_init_7 naX3_9 rfl (by omega) (by rcases hn1 with rfl | rfl <;> rfl) (by omega) z ?_
  refine n_putR dX3_init_10 (fX3_11 l) gTX3 ⟨by decide, Or.inr ⟨_, rfl⟩⟩ (by first | exact Or.inl rfl | exact Or.inr ⟨rfl, rfl, rfl⟩) (by rcases hn1 with rfl | rfl <;> rfl) (by omega) (by omega) ?_
  refine g_aload_n dX3_init_13 rfl rfl ?_
  refine g_iload_n dX3_init_14 rfl rfl ?_
  refine n_putI dX3_init_15 (fX3_17 l) gTX3 ⟨rfl, rfl⟩ (by first | exact Or.inl rfl | exact Or.inr ⟨rfl, rfl, rfl⟩) (by rcases hn1 with rfl | rfl <;> rfl) (by omega) (by omega) ?_
  exact g_vret dX3_init_18 rfl ⟨rfl, rfl⟩
set_option maxHeartbeats 2000000 in
theorem cX4_init (l : Launch) {L : Nat} {i : Nat → Nat → Int} {r : Nat → Nat → Option Nat} (z : Zr 68 i r) : gMet (gπ l) mX4_init yX4_init [gR (some 67)] (hn L i r 68) 2 10 (fun r9 k9 => r9 = some none ∧ k9 = hn L (wbI i) (wbR r) 70) := by
  refine gMet_of pnX4 rfl rfl rfl (Nat.le_of_ble_eq_true rfl) (gAr gAn) ?_
  show G (gπ l) mX4_init 0 [gR (some 67)] [] (hn L i r 68) 2 10 _
  refine g_aload_n dX4_init_0 rfl rfl ?_
  refine g_objInit dX4_init_1 oX4_1 ⟨by decide, by decide⟩ ?_
  refine g_aload_n dX4_init_4 rfl rfl ?_
  refine g_iconst (x := 5) dX4_init_5 (by decide) ?_
  refine n_newI (mc := 1) (ms := 5) (N := 5) dX4_init_6 nwI rfl (by omega) rfl (by omega) z ?_
  refine n_putR dX4_init_8 (fX4_9 l) gTX4 ⟨by decide, Or.inr ⟨_, rfl⟩⟩ (by first | exact Or.inl rfl | exact Or.inr ⟨rfl, rfl, rfl⟩) rfl (by omega) (by omega) ?_
  refine g_aload_n dX4_init_11 rfl rfl ?_
  refine g_iconst (x := 5) dX4_init_12 (by decide) ?_
  refine n_newI (mc := 0) (ms := 0) (N := 5) dX4_init_13 nwI rfl (by omega) rfl (by omega) ((z.mono (m := 69) (by omega)).upR (by omega)) ?_
  refine n_putR dX4_init_15 (fX4_13 l) gTX4 ⟨by decide, Or.inr ⟨_, rfl⟩⟩ (by first | exact Or.inl rfl | exact Or.inr ⟨rfl, rfl, rfl⟩) rfl (by omega) (by omega) ?_
  refine g_aload_n dX4_init_18 rfl rfl ?_
  refine g_iconst (x := 0) dX4_init_19 (by decide) ?_
  refine n_putI dX4_init_20 (fX4_16 l) gTX4 ⟨rfl, rfl⟩ (by first | exact Or.inl rfl | exact Or.inr ⟨rfl, rfl, rfl⟩) rfl (by omega) (by omega) ?_
  refine g_aload_n dX4_init_23 rfl rfl ?_
  refine g_iconst (x := 0) dX4_init_24 (by decide) ?_
  refine n_putI dX4_init_25 (fX4_20 l) gTX4 ⟨rfl, rfl⟩ (by first | exact Or.inl rfl | exact Or.inr ⟨rfl, rfl, rfl⟩) rfl (by omega) (by omega) ?_
  refine g_aload_n dX4_init_28 rfl rfl ?_
  refine g_iconst (x := 0) dX4_init_29 (by decide) ?_
  refine n_putI dX4_init_30 (fX4_23 l) gTX4 ⟨rfl, rfl⟩ (by first | exact Or.inl rfl | exact Or.inr ⟨rfl, rfl, rfl⟩) rfl (by omega) (by omega) ?_
  exact g_vret dX4_init_33 rfl ⟨rfl, rfl⟩
set_option maxHeartbeats 2000000 in
theorem cX1_init (l : Launch) {L : Nat} {i : Nat → Nat → Int} {r : Nat → Nat → Option Nat} (z : Zr 3 i r) : gMet (gπ l) mX1_init yX1_init [gR (some 2)] (hn L i r 3) 61 720 (fun r9 k9 => r9 = some none ∧ k9 = hn L (fleetI i 60) (fleetR r 60) 64) := by
  refine gMet_of pnX1 rfl rfl rfl (Nat.le_of_ble_eq_true rfl) (gAr gAn) ?_
  show G (gπ l) mX1_init 0 [gR (some 2), gU] [] (hn L i r 3) 61 720 _
  have z4 : Zr 4 i r := z.mono (by omega)
  have loop : ∀ (m k : Nat), k + m = 60 → G (gπ l) mX1_init 15 [gR (some 2), gI (k : Int)] [] (hn L (fleetI i k) (fleetR r k) (4 + k)) m (11 * m) (fun r9 k9 => r9 = some none ∧ k9 = hn L (fleetI i 60) (fleetR r 60) 64) := by
    intro m
    induction m with
    | zero =>
      intro k hk
      refine g_iload_n dX1_init_15 rfl rfl ?_
      refine g_bipush (x := 60) dX1_init_16 (by decide) ?_
      refine g_icmp_ge (tgt := 41) dX1_init_18 (by decide) (fun c18 => ?_) (fun c18 => absurd c18 (by omega))
      exact g_vret dX1_init_41 rfl ⟨rfl, by rw [show k = 60 by omega]⟩
    | succ m ih =>
      intro k hk
      show G (gπ l) mX1_init 15 [gR (some 2), gI (k : Int)] [] (hn L (fleetI i k) (fleetR r k) (4 + k)) (m + 1) (11 * m + 11) _
      refine g_iload_n dX1_init_15 rfl rfl ?_
      refine g_bipush (x := 60) dX1_init_16 (by decide) ?_
      refine g_icmp_ge (tgt := 41) dX1_init_18 (by decide) (fun c18 => absurd c18 (by omega)) (fun c18 => ?_)
      refine g_aload_n dX1_init_21 rfl rfl ?_
      refine n_getR (o := some 3) dX1_init_22 (fX1_11 l) (by decide) rfl (by omega) (by unfold fleetR; rw [if_neg (by omega), up_same]) ?_
      refine g_iload_n dX1_init_25 rfl rfl ?_
      refine n_new (π := gπ l) (mc := m) (ms := 11 * m) dX1_init_26 ⟨rfl, lX0⟩ gTX0 nwX1_9 tyX0_k (T0_cab (by omega) (by omega)) (by omega) z4.fleet ?_
      refine g_dupR dX1_init_29 ?_
      refine g_iload_n dX1_init_30 rfl rfl ?_
      refine n_ctor (mc := m) (ms := 11 * m) (as := [gI (k : Int)]) dX1_init_31 (sX1_init_31 l) ⟨rfl, rfl⟩ ⟨by decide, by decide⟩ ⟨rfl, iX0_init⟩ (Nat.le_of_ble_eq_true rfl) (cX0_init l (by omega) (by omega) (by omega)) ?_
      refine n_aast (len := 60) (kc0 l) dX1_init_34 rfl (by omega) (by omega) (by omega) (by omega) (fun v hv => by cases hv; exact ⟨(T0_cab (by omega) (by omega)), by omega⟩) ?_
      refine e_iinc (v := ((k + 1 : Nat) : Int)) (loc' := [gR (some 2), gI (((k + 1 : Nat) : Int))]) dX1_init_35 (by decide) rfl (gadd_nat9 (k := 1) (by omega)) rfl ?_
      refine g_goto (tgt := 15) dX1_init_38 (by decide) ?_
      refine g_eq rfl ?_ (ih (k + 1) (by omega))
      show hn L (cabI (fleetI i k) (4 + k) (k : Int)) (up (fleetR r k) 3 k (some (4 + k))) (4 + k + 1) = _
      rw [fleetI_s (fun b => (z4 (4 + k) b (by omega)).1), fleetR_s]
      rfl
  refine g_aload_n dX1_init_0 rfl rfl ?_
  refine g_objInit dX1_init_1 oX1_3 ⟨by decide, by decide⟩ ?_
  refine g_aload_n dX1_init_4 rfl rfl ?_
  refine g_bipush (x := 60) dX1_init_5 (by decide) ?_
  refine n_newA (mc := 60) (ms := 660) (N := 60) (kc0 l) dX1_init_7 naX1_9 rfl (by omega) rfl (by omega) z ?_
  refine n_putR dX1_init_10 (fX1_11 l) gTX1 ⟨by decide, Or.inr ⟨_, rfl⟩⟩ (by first | exact Or.inl rfl | exact Or.inr ⟨rfl, rfl, rfl⟩) rfl (by omega) (by omega) ?_
  refine g_iconst (x := 0) dX1_init_13 (by decide) ?_
  refine e_istore_n (loc' := [gR (some 2), gI 0]) dX1_init_14 rfl (by decide) rfl ?_
  have k0 := loop 60 0 (by omega)
  rw [fleetI_0, fleetR_0] at k0
  exact k0
set_option maxHeartbeats 2000000 in
theorem cX5_init (l : Launch) {L : Nat} {i : Nat → Nat → Int} {r : Nat → Nat → Option Nat} (z : Zr 2 i r) : gMet (gπ l) mX5_init yX5_init [gR (some 1)] (hn L i r 2) 72 790 (fun r9 k9 => r9 = some none ∧ k9 = hn L (dskI i) (dskR r) 74) := by
  refine gMet_of pnX5 rfl rfl rfl (Nat.le_of_ble_eq_true rfl) (gAr gAn) ?_
  show G (gπ l) mX5_init 0 [gR (some 1), gU] [] (hn L i r 2) 72 790 _
  refine g_aload_n dX5_init_0 rfl rfl ?_
  refine g_objInit dX5_init_1 oX5_1 ⟨by decide, by decide⟩ ?_
  refine g_aload_n dX5_init_4 rfl rfl ?_
  refine n_new (π := gπ l) (mc := 71) (ms := 789) dX5_init_5 ⟨rfl, lX1⟩ gTX1 nwX5_7 tyX1_k rfl (by omega) z ?_
  refine g_dupR dX5_init_8 ?_
  refine n_ctor (mc := 10) (ms := 69) (as := []) dX5_init_9 (sX5_init_9 l) ⟨rfl, rfl⟩ ⟨by decide, by decide⟩ ⟨rfl, iX1_init⟩ (Nat.le_of_ble_eq_true rfl) (cX1_init l (z.mono (m := 3) (by omega))) ?_
  refine n_putR dX5_init_12 (fX5_10 l) gTX5 ⟨by decide, Or.inl ⟨_, rfl⟩⟩ (by first | exact Or.inl rfl | exact Or.inr ⟨rfl, rfl, rfl⟩) rfl (by omega) (by omega) ?_
  refine g_aload_n dX5_init_15 rfl rfl ?_
  refine g_iconst (x := 2) dX5_init_16 (by decide) ?_
  refine n_newA (mc := 9) (ms := 67) (N := 2) (kc3 l) dX5_init_17 naX5_16 rfl (by omega) rfl (by omega) ((show Zr 64 _ _ from Zr.fleet (k := 60) ((z.mono (m := 3) (by omega)).mono (m := 4) (by omega))).upR (by omega)) ?_
  refine n_putR dX5_init_20 (fX5_18 l) gTX5 ⟨by decide, Or.inr ⟨_, rfl⟩⟩ (by first | exact Or.inl rfl | exact Or.inr ⟨rfl, rfl, rfl⟩) rfl (by omega) (by omega) ?_
  refine g_aload_n dX5_init_23 rfl rfl ?_
  refine n_new (π := gπ l) (mc := 8) (ms := 65) dX5_init_24 ⟨rfl, lX2⟩ gTX2 nwX5_22 tyX2_k rfl (by omega) ((((show Zr 64 _ _ from Zr.fleet (k := 60) ((z.mono (m := 3) (by omega)).mono (m := 4) (by omega))).upR (by omega)).mono (m := 65) (by omega)).upR (by omega)) ?_
  refine g_dupR dX5_init_27 ?_
  refine n_ctorN (mc := 7) (ms := 45) (as := []) dX5_init_28 (sX5_init_28 l) ⟨rfl, rfl⟩ ⟨by decide, by decide⟩ ⟨rfl, iX2_init⟩ (Nat.le_of_ble_eq_true rfl) (cX2_init l (((((show Zr 64 _ _ from Zr.fleet (k := 60) ((z.mono (m := 3) (by omega)).mono (m := 4) (by omega))).upR (by omega)).mono (m := 65) (by omega)).upR (by omega)).mono (m := 66) (by omega))) ?_
  refine n_putR dX5_init_31 (fX5_25 l) gTX5 ⟨by decide, Or.inl ⟨_, rfl⟩⟩ (by first | exact Or.inl rfl | exact Or.inr ⟨rfl, rfl, rfl⟩) rfl (by omega) (by omega) ?_
  refine g_aload_n dX5_init_34 rfl rfl ?_
  refine n_new (π := gπ l) (mc := 6) (ms := 40) dX5_init_35 ⟨rfl, lX4⟩ gTX4 nwX5_29 tyX4_k rfl (by omega) (((((((show Zr 64 _ _ from Zr.fleet (k := 60) ((z.mono (m := 3) (by omega)).mono (m := 4) (by omega))).upR (by omega)).mono (m := 65) (by omega)).upR (by omega)).mono (m := 66) (by omega)).mono (by omega) : Zr 67 _ _).sid.upR (by omega)) ?_
  refine g_dupR dX5_init_38 ?_
  refine n_ctorN (mc := 4) (ms := 30) (as := []) dX5_init_39 (sX5_init_39 l) ⟨rfl, rfl⟩ ⟨by decide, by decide⟩ ⟨rfl, iX4_init⟩ (Nat.le_of_ble_eq_true rfl) (cX4_init l ((((((((show Zr 64 _ _ from Zr.fleet (k := 60) ((z.mono (m := 3) (by omega)).mono (m := 4) (by omega))).upR (by omega)).mono (m := 65) (by omega)).upR (by omega)).mono (m := 66) (by omega)).mono (by omega) : Zr 67 _ _).sid.upR (by omega)).mono (m := 68) (by omega))) ?_
  refine n_putR dX5_init_42 (fX5_32 l) gTX5 ⟨by decide, Or.inl ⟨_, rfl⟩⟩ (by first | exact Or.inl rfl | exact Or.inr ⟨rfl, rfl, rfl⟩) rfl (by omega) (by omega) ?_
  refine g_aload_n dX5_init_45 rfl rfl ?_
  refine g_iconst (x := 0) dX5_init_46 (by decide) ?_
  refine n_putI dX5_init_47 (fX5_36 l) gTX5 ⟨rfl, rfl⟩ (by first | exact Or.inl rfl | exact Or.inr ⟨rfl, rfl, rfl⟩) rfl (by omega) (by omega) ?_
  refine g_aload_n dX5_init_50 rfl rfl ?_
  refine g_bipush (x := 60) dX5_init_51 (by decide) ?_
  refine n_putI dX5_init_53 (fX5_40 l) gTX5 ⟨rfl, rfl⟩ (by first | exact Or.inl rfl | exact Or.inr ⟨rfl, rfl, rfl⟩) rfl (by omega) (by omega) ?_
  refine g_aload_n dX5_init_56 rfl rfl ?_
  refine g_iconst (x := 0) dX5_init_57 (by decide) ?_
  refine n_putI dX5_init_58 (fX5_43 l) gTX5 ⟨rfl, rfl⟩ (by first | exact Or.inl rfl | exact Or.inr ⟨rfl, rfl, rfl⟩) rfl (by omega) (by omega) ?_
  refine g_aload_n dX5_init_61 rfl rfl ?_
  refine g_iconst (x := 0) dX5_init_62 (by decide) ?_
  refine n_putI dX5_init_63 (fX5_46 l) gTX5 ⟨rfl, rfl⟩ (by first | exact Or.inl rfl | exact Or.inr ⟨rfl, rfl, rfl⟩) rfl (by omega) (by omega) ?_
  refine g_aload_n dX5_init_66 rfl rfl ?_
  refine g_iconst (x := 0) dX5_init_67 (by decide) ?_
  refine n_putI dX5_init_68 (fX5_49 l) gTX5 ⟨rfl, rfl⟩ (by first | exact Or.inl rfl | exact Or.inr ⟨rfl, rfl, rfl⟩) rfl (by omega) (by omega) ?_
  refine g_aload_n dX5_init_71 rfl rfl ?_
  refine g_iconst (x := 0) dX5_init_72 (by decide) ?_
  refine n_putI dX5_init_73 (fX5_52 l) gTX5 ⟨rfl, rfl⟩ (by first | exact Or.inl rfl | exact Or.inr ⟨rfl, rfl, rfl⟩) rfl (by omega) (by omega) ?_
  refine g_iconst (x := 0) dX5_init_76 (by decide) ?_
  refine e_istore_n (loc' := [gR (some 1), gI 0]) dX5_init_77 rfl (by decide) rfl ?_
  refine g_iload_n dX5_init_78 rfl rfl ?_
  refine g_iconst (x := 2) dX5_init_79 (by decide) ?_
  refine g_icmp_ge (tgt := 103) dX5_init_80 (by decide) (fun c80 => absurd c80 (by omega)) (fun c80 => ?_)
  refine g_aload_n dX5_init_83 rfl rfl ?_
  refine n_getR (o := some 64) dX5_init_84 (fX5_18 l) (by decide) rfl (by omega) (by simp [stR, wbR, sidR, up]) ?_
  refine g_iload_n dX5_init_87 rfl rfl ?_
  refine n_new (π := gπ l) (mc := 3) (ms := 28) dX5_init_88 ⟨rfl, lX3⟩ gTX3 nwX5_16 tyX3_k rfl (by omega) ((((((((((((((((show Zr 64 _ _ from Zr.fleet (k := 60) ((z.mono (m := 3) (by omega)).mono (m := 4) (by omega))).upR (by omega)).mono (m := 65) (by omega)).upR (by omega)).mono (m := 66) (by omega)).mono (by omega) : Zr 67 _ _).sid.upR (by omega)).mono (m := 68) (by omega)).mono (by omega) : Zr 70 _ _).wb.upR (by omega)).upI (by omega)).upI (by omega)).upI (by omega)).upI (by omega)).upI (by omega)).upI (by omega)) ?_
  refine g_dupR dX5_init_91 ?_
  refine g_iload_n dX5_init_92 rfl rfl ?_
  refine n_ctor (mc := 2) (ms := 15) (as := [gI 0]) dX5_init_93 (sX5_init_93 l) ⟨rfl, rfl⟩ ⟨by decide, by decide⟩ ⟨rfl, iX3_init⟩ (Nat.le_of_ble_eq_true rfl) (cX3_init l (n := 70) (by omega) (((((((((((((((((show Zr 64 _ _ from Zr.fleet (k := 60) ((z.mono (m := 3) (by omega)).mono (m := 4) (by omega))).upR (by omega)).mono (m := 65) (by omega)).upR (by omega)).mono (m := 66) (by omega)).mono (by omega) : Zr 67 _ _).sid.upR (by omega)).mono (m := 68) (by omega)).mono (by omega) : Zr 70 _ _).wb.upR (by omega)).upI (by omega)).upI (by omega)).upI (by omega)).upI (by omega)).upI (by omega)).upI (by omega)).mono (m := 71) (by omega))) ?_
  refine n_aast (len := 2) (kc3 l) dX5_init_96 rfl (by omega) (by omega) (by omega) (by omega) (fun v hv => by cases hv; exact ⟨rfl, by omega⟩) ?_
  refine e_iinc (v := 1) (loc' := [gR (some 1), gI 1]) dX5_init_97 (by decide) rfl (by decide) rfl ?_
  refine g_goto (tgt := 78) dX5_init_100 (by decide) ?_
  refine g_iload_n dX5_init_78 rfl rfl ?_
  refine g_iconst (x := 2) dX5_init_79 (by decide) ?_
  refine g_icmp_ge (tgt := 103) dX5_init_80 (by decide) (fun c80 => absurd c80 (by omega)) (fun c80 => ?_)
  refine g_aload_n dX5_init_83 rfl rfl ?_
  refine n_getR (o := some 64) dX5_init_84 (fX5_18 l) (by decide) rfl (by omega) (by simp [stR, wbR, sidR, up]) ?_
  refine g_iload_n dX5_init_87 rfl rfl ?_
  refine n_new (π := gπ l) (mc := 1) (ms := 13) dX5_init_88 ⟨rfl, lX3⟩ gTX3 nwX5_16 tyX3_k rfl (by omega) (((((((((((((((((((show Zr 64 _ _ from Zr.fleet (k := 60) ((z.mono (m := 3) (by omega)).mono (m := 4) (by omega))).upR (by omega)).mono (m := 65) (by omega)).upR (by omega)).mono (m := 66) (by omega)).mono (by omega) : Zr 67 _ _).sid.upR (by omega)).mono (m := 68) (by omega)).mono (by omega) : Zr 70 _ _).wb.upR (by omega)).upI (by omega)).upI (by omega)).upI (by omega)).upI (by omega)).upI (by omega)).upI (by omega)).mono (m := 71) (by omega)).mono (by omega) : Zr (70 + 2) _ _).st.upR (by omega)) ?_
  refine g_dupR dX5_init_91 ?_
  refine g_iload_n dX5_init_92 rfl rfl ?_
  refine n_ctor (mc := 0) (ms := 0) (as := [gI 1]) dX5_init_93 (sX5_init_93 l) ⟨rfl, rfl⟩ ⟨by decide, by decide⟩ ⟨rfl, iX3_init⟩ (Nat.le_of_ble_eq_true rfl) (cX3_init l (n := 72) (by omega) ((((((((((((((((((((show Zr 64 _ _ from Zr.fleet (k := 60) ((z.mono (m := 3) (by omega)).mono (m := 4) (by omega))).upR (by omega)).mono (m := 65) (by omega)).upR (by omega)).mono (m := 66) (by omega)).mono (by omega) : Zr 67 _ _).sid.upR (by omega)).mono (m := 68) (by omega)).mono (by omega) : Zr 70 _ _).wb.upR (by omega)).upI (by omega)).upI (by omega)).upI (by omega)).upI (by omega)).upI (by omega)).upI (by omega)).mono (m := 71) (by omega)).mono (by omega) : Zr (70 + 2) _ _).st.upR (by omega)).mono (m := 73) (by omega))) ?_
  refine n_aast (len := 2) (kc3 l) dX5_init_96 rfl (by omega) (by omega) (by omega) (by omega) (fun v hv => by cases hv; exact ⟨rfl, by omega⟩) ?_
  refine e_iinc (v := 2) (loc' := [gR (some 1), gI 2]) dX5_init_97 (by decide) rfl (by decide) rfl ?_
  refine g_goto (tgt := 78) dX5_init_100 (by decide) ?_
  refine g_iload_n dX5_init_78 rfl rfl ?_
  refine g_iconst (x := 2) dX5_init_79 (by decide) ?_
  refine g_icmp_ge (tgt := 103) dX5_init_80 (by decide) (fun c80 => ?_) (fun c80 => absurd c80 (by omega))
  exact g_vret dX5_init_103 rfl ⟨rfl, rfl⟩
set_option maxHeartbeats 2000000 in
theorem cX6_init (l : Launch) {L : Nat} {i : Nat → Nat → Int} {r : Nat → Nat → Option Nat} (z : Zr 75 i r) : gMet (gπ l) mX6_init yX6_init [gR (some 74)] (hn L i r 75) 11 565 (fun r9 k9 => r9 = some none ∧ k9 = hn L (modI0 i 60) (modR r) 86) := by
  refine gMet_of pnX6 rfl rfl rfl (Nat.le_of_ble_eq_true rfl) (gAr gAn) ?_
  show G (gπ l) mX6_init 0 [gR (some 74), gU] [] (hn L i r 75) 11 565 _
  have loop : ∀ (m k : Nat), k + m = 60 → G (gπ l) mX6_init 99 [gR (some 74), gI (k : Int)] [] (hn L (modI0 i k) (modR r) 86) 0 0 (fun r9 k9 => r9 = some none ∧ k9 = hn L (modI0 i 60) (modR r) 86) := by
    intro m
    induction m with
    | zero =>
      intro k hk
      refine g_iload_n dX6_init_99 rfl rfl ?_
      refine g_bipush (x := 60) dX6_init_100 (by decide) ?_
      refine g_icmp_ge (tgt := 118) dX6_init_102 (by decide) (fun c102 => ?_) (fun c102 => absurd c102 (by omega))
      exact g_vret dX6_init_118 rfl ⟨rfl, by rw [show k = 60 by omega]⟩
    | succ m ih =>
      intro k hk
      refine g_iload_n dX6_init_99 rfl rfl ?_
      refine g_bipush (x := 60) dX6_init_100 (by decide) ?_
      refine g_icmp_ge (tgt := 118) dX6_init_102 (by decide) (fun c102 => absurd c102 (by omega)) (fun c102 => ?_)
      refine g_aload_n dX6_init_105 rfl rfl ?_
      refine n_getR (o := some 79) dX6_init_106 (fX6_22 l) (by decide) rfl (by omega) (by simp [modR, up]) ?_
      refine g_iload_n dX6_init_109 rfl rfl ?_
      refine g_iconst (x := -1) dX6_init_110 (by decide) ?_
      refine n_iast (len := 60) dX6_init_111 rfl (by omega) (by omega) (by omega) (by omega) ?_
      refine e_iinc (v := ((k + 1 : Nat) : Int)) (loc' := [gR (some 74), gI (((k + 1 : Nat) : Int))]) dX6_init_112 (by decide) rfl (gadd_nat9 (k := 1) (by omega)) rfl ?_
      refine g_goto (tgt := 99) dX6_init_115 (by decide) ?_
      refine g_eq rfl ?_ (ih (k + 1) (by omega))
      show hn L (up (modI0 i k) 79 k (-1)) (modR r) 86 = _
      rw [modI0_s]
  refine g_aload_n dX6_init_0 rfl rfl ?_
  refine g_objInit dX6_init_1 oX6_1 ⟨by decide, by decide⟩ ?_
  refine g_aload_n dX6_init_4 rfl rfl ?_
  refine g_bipush (x := 60) dX6_init_5 (by decide) ?_
  refine n_newI (mc := 10) (ms := 505) (N := 60) dX6_init_7 nwI rfl (by omega) rfl (by omega) z ?_
  refine n_putR dX6_init_9 (fX6_7 l) gTX6 ⟨by decide, Or.inr ⟨_, rfl⟩⟩ (by first | exact Or.inl rfl | exact Or.inr ⟨rfl, rfl, rfl⟩) rfl (by omega) (by omega) ?_
  refine g_aload_n dX6_init_12 rfl rfl ?_
  refine g_bipush (x := 60) dX6_init_13 (by decide) ?_
  refine n_newI (mc := 9) (ms := 445) (N := 60) dX6_init_15 nwI rfl (by omega) rfl (by omega) ((z.mono (m := 76) (by omega)).upR (by omega)) ?_
  refine n_putR dX6_init_17 (fX6_13 l) gTX6 ⟨by decide, Or.inr ⟨_, rfl⟩⟩ (by first | exact Or.inl rfl | exact Or.inr ⟨rfl, rfl, rfl⟩) rfl (by omega) (by omega) ?_
  refine g_aload_n dX6_init_20 rfl rfl ?_
  refine g_bipush (x := 60) dX6_init_21 (by decide) ?_
  refine n_newI (mc := 8) (ms := 385) (N := 60) dX6_init_23 nwI rfl (by omega) rfl (by omega) ((((z.mono (m := 76) (by omega)).upR (by omega)).mono (m := 77) (by omega)).upR (by omega)) ?_
  refine n_putR dX6_init_25 (fX6_16 l) gTX6 ⟨by decide, Or.inr ⟨_, rfl⟩⟩ (by first | exact Or.inl rfl | exact Or.inr ⟨rfl, rfl, rfl⟩) rfl (by omega) (by omega) ?_
  refine g_aload_n dX6_init_28 rfl rfl ?_
  refine g_bipush (x := 60) dX6_init_29 (by decide) ?_
  refine n_newI (mc := 7) (ms := 325) (N := 60) dX6_init_31 nwI rfl (by omega) rfl (by omega) ((((((z.mono (m := 76) (by omega)).upR (by omega)).mono (m := 77) (by omega)).upR (by omega)).mono (m := 78) (by omega)).upR (by omega)) ?_
  refine n_putR dX6_init_33 (fX6_19 l) gTX6 ⟨by decide, Or.inr ⟨_, rfl⟩⟩ (by first | exact Or.inl rfl | exact Or.inr ⟨rfl, rfl, rfl⟩) rfl (by omega) (by omega) ?_
  refine g_aload_n dX6_init_36 rfl rfl ?_
  refine g_bipush (x := 60) dX6_init_37 (by decide) ?_
  refine n_newI (mc := 6) (ms := 265) (N := 60) dX6_init_39 nwI rfl (by omega) rfl (by omega) ((((((((z.mono (m := 76) (by omega)).upR (by omega)).mono (m := 77) (by omega)).upR (by omega)).mono (m := 78) (by omega)).upR (by omega)).mono (m := 79) (by omega)).upR (by omega)) ?_
  refine n_putR dX6_init_41 (fX6_22 l) gTX6 ⟨by decide, Or.inr ⟨_, rfl⟩⟩ (by first | exact Or.inl rfl | exact Or.inr ⟨rfl, rfl, rfl⟩) rfl (by omega) (by omega) ?_
  refine g_aload_n dX6_init_44 rfl rfl ?_
  refine g_bipush (x := 60) dX6_init_45 (by decide) ?_
  refine n_newI (mc := 5) (ms := 205) (N := 60) dX6_init_47 nwI rfl (by omega) rfl (by omega) ((((((((((z.mono (m := 76) (by omega)).upR (by omega)).mono (m := 77) (by omega)).upR (by omega)).mono (m := 78) (by omega)).upR (by omega)).mono (m := 79) (by omega)).upR (by omega)).mono (m := 80) (by omega)).upR (by omega)) ?_
  refine n_putR dX6_init_49 (fX6_25 l) gTX6 ⟨by decide, Or.inr ⟨_, rfl⟩⟩ (by first | exact Or.inl rfl | exact Or.inr ⟨rfl, rfl, rfl⟩) rfl (by omega) (by omega) ?_
  refine g_aload_n dX6_init_52 rfl rfl ?_
  refine g_bipush (x := 60) dX6_init_53 (by decide) ?_
  refine n_newI (mc := 4) (ms := 145) (N := 60) dX6_init_55 nwI rfl (by omega) rfl (by omega) ((((((((((((z.mono (m := 76) (by omega)).upR (by omega)).mono (m := 77) (by omega)).upR (by omega)).mono (m := 78) (by omega)).upR (by omega)).mono (m := 79) (by omega)).upR (by omega)).mono (m := 80) (by omega)).upR (by omega)).mono (m := 81) (by omega)).upR (by omega)) ?_
  refine n_putR dX6_init_57 (fX6_28 l) gTX6 ⟨by decide, Or.inr ⟨_, rfl⟩⟩ (by first | exact Or.inl rfl | exact Or.inr ⟨rfl, rfl, rfl⟩) rfl (by omega) (by omega) ?_
  refine g_aload_n dX6_init_60 rfl rfl ?_
  refine g_bipush (x := 60) dX6_init_61 (by decide) ?_
  refine n_newI (mc := 3) (ms := 85) (N := 60) dX6_init_63 nwI rfl (by omega) rfl (by omega) ((((((((((((((z.mono (m := 76) (by omega)).upR (by omega)).mono (m := 77) (by omega)).upR (by omega)).mono (m := 78) (by omega)).upR (by omega)).mono (m := 79) (by omega)).upR (by omega)).mono (m := 80) (by omega)).upR (by omega)).mono (m := 81) (by omega)).upR (by omega)).mono (m := 82) (by omega)).upR (by omega)) ?_
  refine n_putR dX6_init_65 (fX6_31 l) gTX6 ⟨by decide, Or.inr ⟨_, rfl⟩⟩ (by first | exact Or.inl rfl | exact Or.inr ⟨rfl, rfl, rfl⟩) rfl (by omega) (by omega) ?_
  refine g_aload_n dX6_init_68 rfl rfl ?_
  refine g_bipush (x := 60) dX6_init_69 (by decide) ?_
  refine n_newI (mc := 2) (ms := 25) (N := 60) dX6_init_71 nwI rfl (by omega) rfl (by omega) ((((((((((((((((z.mono (m := 76) (by omega)).upR (by omega)).mono (m := 77) (by omega)).upR (by omega)).mono (m := 78) (by omega)).upR (by omega)).mono (m := 79) (by omega)).upR (by omega)).mono (m := 80) (by omega)).upR (by omega)).mono (m := 81) (by omega)).upR (by omega)).mono (m := 82) (by omega)).upR (by omega)).mono (m := 83) (by omega)).upR (by omega)) ?_
  refine n_putR dX6_init_73 (fX6_34 l) gTX6 ⟨by decide, Or.inr ⟨_, rfl⟩⟩ (by first | exact Or.inl rfl | exact Or.inr ⟨rfl, rfl, rfl⟩) rfl (by omega) (by omega) ?_
  refine g_aload_n dX6_init_76 rfl rfl ?_
  refine g_bipush (x := 20) dX6_init_77 (by decide) ?_
  refine n_newI (mc := 1) (ms := 5) (N := 20) dX6_init_79 nwI rfl (by omega) rfl (by omega) ((((((((((((((((((z.mono (m := 76) (by omega)).upR (by omega)).mono (m := 77) (by omega)).upR (by omega)).mono (m := 78) (by omega)).upR (by omega)).mono (m := 79) (by omega)).upR (by omega)).mono (m := 80) (by omega)).upR (by omega)).mono (m := 81) (by omega)).upR (by omega)).mono (m := 82) (by omega)).upR (by omega)).mono (m := 83) (by omega)).upR (by omega)).mono (m := 84) (by omega)).upR (by omega)) ?_
  refine n_putR dX6_init_81 (fX6_37 l) gTX6 ⟨by decide, Or.inr ⟨_, rfl⟩⟩ (by first | exact Or.inl rfl | exact Or.inr ⟨rfl, rfl, rfl⟩) rfl (by omega) (by omega) ?_
  refine g_aload_n dX6_init_84 rfl rfl ?_
  refine g_iconst (x := 5) dX6_init_85 (by decide) ?_
  refine n_newI (mc := 0) (ms := 0) (N := 5) dX6_init_86 nwI rfl (by omega) rfl (by omega) ((((((((((((((((((((z.mono (m := 76) (by omega)).upR (by omega)).mono (m := 77) (by omega)).upR (by omega)).mono (m := 78) (by omega)).upR (by omega)).mono (m := 79) (by omega)).upR (by omega)).mono (m := 80) (by omega)).upR (by omega)).mono (m := 81) (by omega)).upR (by omega)).mono (m := 82) (by omega)).upR (by omega)).mono (m := 83) (by omega)).upR (by omega)).mono (m := 84) (by omega)).upR (by omega)).mono (m := 85) (by omega)).upR (by omega)) ?_
  refine n_putR dX6_init_88 (fX6_40 l) gTX6 ⟨by decide, Or.inr ⟨_, rfl⟩⟩ (by first | exact Or.inl rfl | exact Or.inr ⟨rfl, rfl, rfl⟩) rfl (by omega) (by omega) ?_
  refine g_aload_n dX6_init_91 rfl rfl ?_
  refine g_bipush (x := 60) dX6_init_92 (by decide) ?_
  refine n_putI dX6_init_94 (fX6_43 l) gTX6 ⟨rfl, rfl⟩ (by first | exact Or.inl rfl | exact Or.inr ⟨rfl, rfl, rfl⟩) rfl (by omega) (by omega) ?_
  refine g_iconst (x := 0) dX6_init_97 (by decide) ?_
  refine e_istore_n (loc' := [gR (some 74), gI 0]) dX6_init_98 rfl (by decide) rfl ?_
  have k0 := loop 60 0 (by omega)
  rw [modI0_0] at k0
  exact k0
