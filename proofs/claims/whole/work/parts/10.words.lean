/-! words of fields, methods and links -/
theorem lX0 : ∀ w ∈ u_ws KX0.1 KX0.2.1 KX0.2.2, w ∈ gWS := by
  intro w hw
  obtain ⟨k, hk, rfl⟩ := List.mem_map.mp hw
  have hk := List.mem_range.mp hk
  match k, hk with
  | 0, _ => exact (gW_t 63 (by decide +kernel) rfl)
  | 1, _ => exact (gW_t 65 (by decide +kernel) rfl)
  | 2, _ => exact (gW_t 67 (by decide +kernel) rfl)
  | 3, _ => exact (gW_t 69 (by decide +kernel) rfl)
  | 4, _ => exact (gW_t 71 (by decide +kernel) rfl)
  | 5, _ => exact (gW_t 73 (by decide +kernel) rfl)
  | 6, _ => exact (gW_t 75 (by decide +kernel) rfl)
  | 7, _ => exact (gW_t 77 (by decide +kernel) rfl)
  | 8, _ => exact (gW_t 79 (by decide +kernel) rfl)
  | 9, _ => exact (gW_t 81 (by decide +kernel) rfl)
  | 10, _ => exact (gW_t 83 (by decide +kernel) rfl)
  | n + 11, h => exact absurd h (by show ¬ n + 11 < 11; omega)
theorem lX1 : ∀ w ∈ u_ws KX1.1 KX1.2.1 KX1.2.2, w ∈ gWS := by
  intro w hw
  obtain ⟨k, hk, rfl⟩ := List.mem_map.mp hw
  have hk := List.mem_range.mp hk
  match k, hk with
  | 0, _ => exact (gW_t 88 (by decide +kernel) rfl)
  | n + 1, h => exact absurd h (by show ¬ n + 1 < 1; omega)
theorem lX2 : ∀ w ∈ u_ws KX2.1 KX2.2.1 KX2.2.2, w ∈ gWS := by
  intro w hw
  obtain ⟨k, hk, rfl⟩ := List.mem_map.mp hw
  have hk := List.mem_range.mp hk
  match k, hk with
  | 0, _ => exact (gW_t 103 (by decide +kernel) rfl)
  | 1, _ => exact (gW_t 105 (by decide +kernel) rfl)
  | n + 2, h => exact absurd h (by show ¬ n + 2 < 2; omega)
theorem lX3 : ∀ w ∈ u_ws KX3.1 KX3.2.1 KX3.2.2, w ∈ gWS := by
  intro w hw
  obtain ⟨k, hk, rfl⟩ := List.mem_map.mp hw
  have hk := List.mem_range.mp hk
  match k, hk with
  | 0, _ => exact (gW_t 142 (by decide +kernel) rfl)
  | 1, _ => exact (gW_t 144 (by decide +kernel) rfl)
  | n + 2, h => exact absurd h (by show ¬ n + 2 < 2; omega)
theorem lX4 : ∀ w ∈ u_ws KX4.1 KX4.2.1 KX4.2.2, w ∈ gWS := by
  intro w hw
  obtain ⟨k, hk, rfl⟩ := List.mem_map.mp hw
  have hk := List.mem_range.mp hk
  match k, hk with
  | 0, _ => exact (gW_t 120 (by decide +kernel) rfl)
  | 1, _ => exact (gW_t 122 (by decide +kernel) rfl)
  | 2, _ => exact (gW_t 124 (by decide +kernel) rfl)
  | 3, _ => exact (gW_t 126 (by decide +kernel) rfl)
  | 4, _ => exact (gW_t 128 (by decide +kernel) rfl)
  | n + 5, h => exact absurd h (by show ¬ n + 5 < 5; omega)
theorem lX5 : ∀ w ∈ u_ws KX5.1 KX5.2.1 KX5.2.2, w ∈ gWS := by
  intro w hw
  obtain ⟨k, hk, rfl⟩ := List.mem_map.mp hw
  have hk := List.mem_range.mp hk
  match k, hk with
  | 0, _ => exact (gW_t 157 (by decide +kernel) rfl)
  | 1, _ => exact (gW_t 159 (by decide +kernel) rfl)
  | 2, _ => exact (gW_t 161 (by decide +kernel) rfl)
  | 3, _ => exact (gW_t 163 (by decide +kernel) rfl)
  | 4, _ => exact (gW_t 165 (by decide +kernel) rfl)
  | 5, _ => exact (gW_t 167 (by decide +kernel) rfl)
  | 6, _ => exact (gW_t 169 (by decide +kernel) rfl)
  | 7, _ => exact (gW_t 171 (by decide +kernel) rfl)
  | 8, _ => exact (gW_t 173 (by decide +kernel) rfl)
  | 9, _ => exact (gW_t 175 (by decide +kernel) rfl)
  | n + 10, h => exact absurd h (by show ¬ n + 10 < 10; omega)
theorem lX6 : ∀ w ∈ u_ws KX6.1 KX6.2.1 KX6.2.2, w ∈ gWS := by
  intro w hw
  obtain ⟨k, hk, rfl⟩ := List.mem_map.mp hw
  have hk := List.mem_range.mp hk
  match k, hk with
  | 0, _ => exact (gW_t 559 (by decide +kernel) rfl)
  | 1, _ => exact (gW_t 561 (by decide +kernel) rfl)
  | 2, _ => exact (gW_t 563 (by decide +kernel) rfl)
  | 3, _ => exact (gW_t 565 (by decide +kernel) rfl)
  | 4, _ => exact (gW_t 567 (by decide +kernel) rfl)
  | 5, _ => exact (gW_t 569 (by decide +kernel) rfl)
  | 6, _ => exact (gW_t 571 (by decide +kernel) rfl)
  | 7, _ => exact (gW_t 573 (by decide +kernel) rfl)
  | 8, _ => exact (gW_t 575 (by decide +kernel) rfl)
  | 9, _ => exact (gW_t 577 (by decide +kernel) rfl)
  | 10, _ => exact (gW_t 579 (by decide +kernel) rfl)
  | 11, _ => exact (gW_t 581 (by decide +kernel) rfl)
  | 12, _ => exact (gW_t 583 (by decide +kernel) rfl)
  | 13, _ => exact (gW_t 585 (by decide +kernel) rfl)
  | 14, _ => exact (gW_t 587 (by decide +kernel) rfl)
  | 15, _ => exact (gW_t 589 (by decide +kernel) rfl)
  | 16, _ => exact (gW_t 591 (by decide +kernel) rfl)
  | 17, _ => exact (gW_t 593 (by decide +kernel) rfl)
  | 18, _ => exact (gW_t 595 (by decide +kernel) rfl)
  | 19, _ => exact (gW_t 597 (by decide +kernel) rfl)
  | n + 20, h => exact absurd h (by show ¬ n + 20 < 20; omega)
theorem fX0_9 (l : Launch) : gF (gπ l) "RopewayDesk$Cabin" 9 0 1 KX0 := ⟨rfl, by decide, lX0, (gW_t 36 (by decide +kernel) rfl)⟩
theorem fX0_15 (l : Launch) : gF (gπ l) "RopewayDesk$Cabin" 15 0 2 KX0 := ⟨rfl, by decide, lX0, (gW_t 39 (by decide +kernel) rfl)⟩
theorem fX0_18 (l : Launch) : gF (gπ l) "RopewayDesk$Cabin" 18 0 3 KX0 := ⟨rfl, by decide, lX0, (gW_t 43 (by decide +kernel) rfl)⟩
theorem fX0_21 (l : Launch) : gF (gπ l) "RopewayDesk$Cabin" 21 0 4 KX0 := ⟨rfl, by decide, lX0, (gW_t 46 (by decide +kernel) rfl)⟩
theorem fX0_24 (l : Launch) : gF (gπ l) "RopewayDesk$Cabin" 24 0 5 KX0 := ⟨rfl, by decide, lX0, (gW_t 49 (by decide +kernel) rfl)⟩
theorem fX0_27 (l : Launch) : gF (gπ l) "RopewayDesk$Cabin" 27 0 6 KX0 := ⟨rfl, by decide, lX0, (gW_t 52 (by decide +kernel) rfl)⟩
theorem fX0_30 (l : Launch) : gF (gπ l) "RopewayDesk$Cabin" 30 0 7 KX0 := ⟨rfl, by decide, lX0, (gW_t 54 (by decide +kernel) rfl)⟩
theorem fX0_33 (l : Launch) : gF (gπ l) "RopewayDesk$Cabin" 33 0 8 KX0 := ⟨rfl, by decide, lX0, (gW_t 56 (by decide +kernel) rfl)⟩
theorem fX0_36 (l : Launch) : gF (gπ l) "RopewayDesk$Cabin" 36 0 9 KX0 := ⟨rfl, by decide, lX0, (gW_t 58 (by decide +kernel) rfl)⟩
theorem fX0_39 (l : Launch) : gF (gπ l) "RopewayDesk$Cabin" 39 0 10 KX0 := ⟨rfl, by decide, lX0, (gW_t 61 (by decide +kernel) rfl)⟩
theorem fX0_42 (l : Launch) : gF (gπ l) "RopewayDesk$Cabin" 42 0 0 KX0 := ⟨rfl, by decide, lX0, (gW_t 34 (by decide +kernel) rfl)⟩
theorem fX1_11 (l : Launch) : gF (gπ l) "RopewayDesk$Fleet" 11 1 0 KX1 := ⟨rfl, by decide, lX1, (gW_t 86 (by decide +kernel) rfl)⟩
theorem fX1_20 (l : Launch) : gF (gπ l) "RopewayDesk$Fleet" 20 0 1 KX0 := ⟨rfl, by decide, lX0, (gW_t 37 (by decide +kernel) rfl)⟩
theorem fX1_24 (l : Launch) : gF (gπ l) "RopewayDesk$Fleet" 24 0 9 KX0 := ⟨rfl, by decide, lX0, (gW_t 59 (by decide +kernel) rfl)⟩
theorem fX1_27 (l : Launch) : gF (gπ l) "RopewayDesk$Fleet" 27 0 4 KX0 := ⟨rfl, by decide, lX0, (gW_t 47 (by decide +kernel) rfl)⟩
theorem fX1_50 (l : Launch) : gF (gπ l) "RopewayDesk$Fleet" 50 0 2 KX0 := ⟨rfl, by decide, lX0, (gW_t 41 (by decide +kernel) rfl)⟩
theorem fX2_11 (l : Launch) : gF (gπ l) "RopewayDesk$Siding" 11 2 0 KX2 := ⟨rfl, by decide, lX2, (gW_t 100 (by decide +kernel) rfl)⟩
theorem fX2_17 (l : Launch) : gF (gπ l) "RopewayDesk$Siding" 17 2 1 KX2 := ⟨rfl, by decide, lX2, (gW_t 101 (by decide +kernel) rfl)⟩
theorem fX3_11 (l : Launch) : gF (gπ l) "RopewayDesk$Station" 11 3 1 KX3 := ⟨rfl, by decide, lX3, (gW_t 140 (by decide +kernel) rfl)⟩
theorem fX3_17 (l : Launch) : gF (gπ l) "RopewayDesk$Station" 17 3 0 KX3 := ⟨rfl, by decide, lX3, (gW_t 138 (by decide +kernel) rfl)⟩
theorem fX3_25 (l : Launch) : gF (gπ l) "RopewayDesk$Station" 25 0 2 KX0 := ⟨rfl, by decide, lX0, (gW_t 40 (by decide +kernel) rfl)⟩
theorem fX3_28 (l : Launch) : gF (gπ l) "RopewayDesk$Station" 28 0 3 KX0 := ⟨rfl, by decide, lX0, (gW_t 44 (by decide +kernel) rfl)⟩
theorem fX3_31 (l : Launch) : gF (gπ l) "RopewayDesk$Station" 31 0 5 KX0 := ⟨rfl, by decide, lX0, (gW_t 50 (by decide +kernel) rfl)⟩
theorem fX4_9 (l : Launch) : gF (gπ l) "RopewayDesk$WindBook" 9 4 0 KX4 := ⟨rfl, by decide, lX4, (gW_t 114 (by decide +kernel) rfl)⟩
theorem fX4_13 (l : Launch) : gF (gπ l) "RopewayDesk$WindBook" 13 4 1 KX4 := ⟨rfl, by decide, lX4, (gW_t 115 (by decide +kernel) rfl)⟩
theorem fX4_16 (l : Launch) : gF (gπ l) "RopewayDesk$WindBook" 16 4 2 KX4 := ⟨rfl, by decide, lX4, (gW_t 116 (by decide +kernel) rfl)⟩
theorem fX4_20 (l : Launch) : gF (gπ l) "RopewayDesk$WindBook" 20 4 3 KX4 := ⟨rfl, by decide, lX4, (gW_t 117 (by decide +kernel) rfl)⟩
theorem fX4_23 (l : Launch) : gF (gπ l) "RopewayDesk$WindBook" 23 4 4 KX4 := ⟨rfl, by decide, lX4, (gW_t 118 (by decide +kernel) rfl)⟩
theorem fX5_10 (l : Launch) : gF (gπ l) "RopewayDesk" 10 5 0 KX5 := ⟨rfl, by decide, lX5, (gW_t 147 (by decide +kernel) rfl)⟩
theorem fX5_18 (l : Launch) : gF (gπ l) "RopewayDesk" 18 5 1 KX5 := ⟨rfl, by decide, lX5, (gW_t 148 (by decide +kernel) rfl)⟩
theorem fX5_25 (l : Launch) : gF (gπ l) "RopewayDesk" 25 5 2 KX5 := ⟨rfl, by decide, lX5, (gW_t 149 (by decide +kernel) rfl)⟩
theorem fX5_32 (l : Launch) : gF (gπ l) "RopewayDesk" 32 5 3 KX5 := ⟨rfl, by decide, lX5, (gW_t 150 (by decide +kernel) rfl)⟩
theorem fX5_36 (l : Launch) : gF (gπ l) "RopewayDesk" 36 5 4 KX5 := ⟨rfl, by decide, lX5, (gW_t 151 (by decide +kernel) rfl)⟩
theorem fX5_40 (l : Launch) : gF (gπ l) "RopewayDesk" 40 5 5 KX5 := ⟨rfl, by decide, lX5, (gW_t 152 (by decide +kernel) rfl)⟩
theorem fX5_43 (l : Launch) : gF (gπ l) "RopewayDesk" 43 5 6 KX5 := ⟨rfl, by decide, lX5, (gW_t 153 (by decide +kernel) rfl)⟩
theorem fX5_46 (l : Launch) : gF (gπ l) "RopewayDesk" 46 5 7 KX5 := ⟨rfl, by decide, lX5, (gW_t 154 (by decide +kernel) rfl)⟩
theorem fX5_49 (l : Launch) : gF (gπ l) "RopewayDesk" 49 5 8 KX5 := ⟨rfl, by decide, lX5, (gW_t 155 (by decide +kernel) rfl)⟩
theorem fX5_52 (l : Launch) : gF (gπ l) "RopewayDesk" 52 5 9 KX5 := ⟨rfl, by decide, lX5, (gW_t 156 (by decide +kernel) rfl)⟩
theorem fX5_82 (l : Launch) : gF (gπ l) "RopewayDesk" 82 3 1 KX3 := ⟨rfl, by decide, lX3, (gW_t 141 (by decide +kernel) rfl)⟩
theorem fX5_92 (l : Launch) : gF (gπ l) "RopewayDesk" 92 0 7 KX0 := ⟨rfl, by decide, lX0, (gW_t 55 (by decide +kernel) rfl)⟩
theorem fX5_95 (l : Launch) : gF (gπ l) "RopewayDesk" 95 0 8 KX0 := ⟨rfl, by decide, lX0, (gW_t 57 (by decide +kernel) rfl)⟩
theorem fX5_108 (l : Launch) : gF (gπ l) "RopewayDesk" 108 1 0 KX1 := ⟨rfl, by decide, lX1, (gW_t 87 (by decide +kernel) rfl)⟩
theorem fX5_111 (l : Launch) : gF (gπ l) "RopewayDesk" 111 0 1 KX0 := ⟨rfl, by decide, lX0, (gW_t 38 (by decide +kernel) rfl)⟩
theorem fX5_135 (l : Launch) : gF (gπ l) "RopewayDesk" 135 0 2 KX0 := ⟨rfl, by decide, lX0, (gW_t 42 (by decide +kernel) rfl)⟩
theorem fX5_138 (l : Launch) : gF (gπ l) "RopewayDesk" 138 0 3 KX0 := ⟨rfl, by decide, lX0, (gW_t 45 (by decide +kernel) rfl)⟩
theorem fX5_152 (l : Launch) : gF (gπ l) "RopewayDesk" 152 0 5 KX0 := ⟨rfl, by decide, lX0, (gW_t 51 (by decide +kernel) rfl)⟩
theorem fX5_155 (l : Launch) : gF (gπ l) "RopewayDesk" 155 0 6 KX0 := ⟨rfl, by decide, lX0, (gW_t 53 (by decide +kernel) rfl)⟩
theorem fX5_161 (l : Launch) : gF (gπ l) "RopewayDesk" 161 0 9 KX0 := ⟨rfl, by decide, lX0, (gW_t 60 (by decide +kernel) rfl)⟩
theorem fX5_164 (l : Launch) : gF (gπ l) "RopewayDesk" 164 0 10 KX0 := ⟨rfl, by decide, lX0, (gW_t 62 (by decide +kernel) rfl)⟩
theorem fX5_174 (l : Launch) : gF (gπ l) "RopewayDesk" 174 0 0 KX0 := ⟨rfl, by decide, lX0, (gW_t 35 (by decide +kernel) rfl)⟩
theorem fX5_177 (l : Launch) : gF (gπ l) "RopewayDesk" 177 4 4 KX4 := ⟨rfl, by decide, lX4, (gW_t 119 (by decide +kernel) rfl)⟩
theorem fX5_180 (l : Launch) : gF (gπ l) "RopewayDesk" 180 2 1 KX2 := ⟨rfl, by decide, lX2, (gW_t 102 (by decide +kernel) rfl)⟩
theorem fX5_197 (l : Launch) : gF (gπ l) "RopewayDesk" 197 0 4 KX0 := ⟨rfl, by decide, lX0, (gW_t 48 (by decide +kernel) rfl)⟩
theorem fX5_230 (l : Launch) : gF (gπ l) "RopewayDesk" 230 3 0 KX3 := ⟨rfl, by decide, lX3, (gW_t 139 (by decide +kernel) rfl)⟩
theorem fX6_7 (l : Launch) : gF (gπ l) "RopewayDeskModel" 7 6 1 KX6 := ⟨rfl, by decide, lX6, (gW_t 540 (by decide +kernel) rfl)⟩
theorem fX6_13 (l : Launch) : gF (gπ l) "RopewayDeskModel" 13 6 2 KX6 := ⟨rfl, by decide, lX6, (gW_t 541 (by decide +kernel) rfl)⟩
theorem fX6_16 (l : Launch) : gF (gπ l) "RopewayDeskModel" 16 6 3 KX6 := ⟨rfl, by decide, lX6, (gW_t 542 (by decide +kernel) rfl)⟩
theorem fX6_19 (l : Launch) : gF (gπ l) "RopewayDeskModel" 19 6 4 KX6 := ⟨rfl, by decide, lX6, (gW_t 543 (by decide +kernel) rfl)⟩
theorem fX6_22 (l : Launch) : gF (gπ l) "RopewayDeskModel" 22 6 5 KX6 := ⟨rfl, by decide, lX6, (gW_t 544 (by decide +kernel) rfl)⟩
theorem fX6_25 (l : Launch) : gF (gπ l) "RopewayDeskModel" 25 6 6 KX6 := ⟨rfl, by decide, lX6, (gW_t 545 (by decide +kernel) rfl)⟩
theorem fX6_28 (l : Launch) : gF (gπ l) "RopewayDeskModel" 28 6 7 KX6 := ⟨rfl, by decide, lX6, (gW_t 546 (by decide +kernel) rfl)⟩
theorem fX6_31 (l : Launch) : gF (gπ l) "RopewayDeskModel" 31 6 8 KX6 := ⟨rfl, by decide, lX6, (gW_t 547 (by decide +kernel) rfl)⟩
theorem fX6_34 (l : Launch) : gF (gπ l) "RopewayDeskModel" 34 6 9 KX6 := ⟨rfl, by decide, lX6, (gW_t 548 (by decide +kernel) rfl)⟩
theorem fX6_37 (l : Launch) : gF (gπ l) "RopewayDeskModel" 37 6 11 KX6 := ⟨rfl, by decide, lX6, (gW_t 550 (by decide +kernel) rfl)⟩
theorem fX6_40 (l : Launch) : gF (gπ l) "RopewayDeskModel" 40 6 13 KX6 := ⟨rfl, by decide, lX6, (gW_t 552 (by decide +kernel) rfl)⟩
theorem fX6_43 (l : Launch) : gF (gπ l) "RopewayDeskModel" 43 6 15 KX6 := ⟨rfl, by decide, lX6, (gW_t 554 (by decide +kernel) rfl)⟩
theorem fX6_47 (l : Launch) : gF (gπ l) "RopewayDeskModel" 47 6 0 KX6 := ⟨rfl, by decide, lX6, (gW_t 539 (by decide +kernel) rfl)⟩
theorem fX6_73 (l : Launch) : gF (gπ l) "RopewayDeskModel" 73 6 14 KX6 := ⟨rfl, by decide, lX6, (gW_t 553 (by decide +kernel) rfl)⟩
theorem fX6_76 (l : Launch) : gF (gπ l) "RopewayDeskModel" 76 6 19 KX6 := ⟨rfl, by decide, lX6, (gW_t 558 (by decide +kernel) rfl)⟩
theorem fX6_79 (l : Launch) : gF (gπ l) "RopewayDeskModel" 79 6 10 KX6 := ⟨rfl, by decide, lX6, (gW_t 549 (by decide +kernel) rfl)⟩
theorem fX6_82 (l : Launch) : gF (gπ l) "RopewayDeskModel" 82 6 12 KX6 := ⟨rfl, by decide, lX6, (gW_t 551 (by decide +kernel) rfl)⟩
theorem fX6_111 (l : Launch) : gF (gπ l) "RopewayDeskModel" 111 6 16 KX6 := ⟨rfl, by decide, lX6, (gW_t 555 (by decide +kernel) rfl)⟩
theorem fX6_114 (l : Launch) : gF (gπ l) "RopewayDeskModel" 114 6 17 KX6 := ⟨rfl, by decide, lX6, (gW_t 556 (by decide +kernel) rfl)⟩
theorem fX6_117 (l : Launch) : gF (gπ l) "RopewayDeskModel" 117 6 18 KX6 := ⟨rfl, by decide, lX6, (gW_t 557 (by decide +kernel) rfl)⟩
set_option maxRecDepth 40000 in
theorem qX0_init : gcw mX0_init yX0_init ∈ gWS ∧ Cond.initialized yX0_init.cls ∈ gWS ∧ (yX0_init.cls ≠ "java/lang/invoke/MethodHandle" ∧ yX0_init.cls ≠ "java/lang/invoke/VarHandle") ∧ (parseMethodDescriptor yX0_init.desc).map (fun d => d.parameters.length) = some 1 := ⟨(gW_t 32 rfl rfl), (gW_t 3 (by decide +kernel) rfl), ⟨by decide, by decide⟩, by decide +kernel⟩
theorem iX0_init : Cond.instanceMethod yX0_init ∈ gWS := (gW_t 31 (by decide +kernel) rfl)
set_option maxRecDepth 40000 in
theorem qX0_standAt : gcw mX0_standAt yX0_standAt ∈ gWS ∧ Cond.initialized yX0_standAt.cls ∈ gWS ∧ (yX0_standAt.cls ≠ "java/lang/invoke/MethodHandle" ∧ yX0_standAt.cls ≠ "java/lang/invoke/VarHandle") ∧ (parseMethodDescriptor yX0_standAt.desc).map (fun d => d.parameters.length) = some 1 := ⟨(gW_t 287 rfl rfl), (gW_t 3 (by decide +kernel) rfl), ⟨by decide, by decide⟩, by decide +kernel⟩
theorem iX0_standAt : Cond.instanceMethod yX0_standAt ∈ gWS := (gW_t 285 (by decide +kernel) rfl)
theorem vX0_standAt : Cond.selects "RopewayDesk$Cabin" yX0_standAt yX0_standAt ∈ gWS := (gW_t 286 (by decide +kernel) rfl)
set_option maxRecDepth 40000 in
theorem qX0_stopClamping : gcw mX0_stopClamping yX0_stopClamping ∈ gWS ∧ Cond.initialized yX0_stopClamping.cls ∈ gWS ∧ (yX0_stopClamping.cls ≠ "java/lang/invoke/MethodHandle" ∧ yX0_stopClamping.cls ≠ "java/lang/invoke/VarHandle") ∧ (parseMethodDescriptor yX0_stopClamping.desc).map (fun d => d.parameters.length) = some 0 := ⟨(gW_t 358 rfl rfl), (gW_t 3 (by decide +kernel) rfl), ⟨by decide, by decide⟩, by decide +kernel⟩
theorem iX0_stopClamping : Cond.instanceMethod yX0_stopClamping ∈ gWS := (gW_t 356 (by decide +kernel) rfl)
theorem vX0_stopClamping : Cond.selects "RopewayDesk$Cabin" yX0_stopClamping yX0_stopClamping ∈ gWS := (gW_t 357 (by decide +kernel) rfl)
set_option maxRecDepth 40000 in
theorem qX0_isClamping : gcw mX0_isClamping yX0_isClamping ∈ gWS ∧ Cond.initialized yX0_isClamping.cls ∈ gWS ∧ (yX0_isClamping.cls ≠ "java/lang/invoke/MethodHandle" ∧ yX0_isClamping.cls ≠ "java/lang/invoke/VarHandle") ∧ (parseMethodDescriptor yX0_isClamping.desc).map (fun d => d.parameters.length) = some 0 := ⟨(gW_t 334 rfl rfl), (gW_t 3 (by decide +kernel) rfl), ⟨by decide, by decide⟩, by decide +kernel⟩
theorem iX0_isClamping : Cond.instanceMethod yX0_isClamping ∈ gWS := (gW_t 332 (by decide +kernel) rfl)
theorem vX0_isClamping : Cond.selects "RopewayDesk$Cabin" yX0_isClamping yX0_isClamping ∈ gWS := (gW_t 333 (by decide +kernel) rfl)
set_option maxRecDepth 40000 in
theorem qX0_hasReport : gcw mX0_hasReport yX0_hasReport ∈ gWS ∧ Cond.initialized yX0_hasReport.cls ∈ gWS ∧ (yX0_hasReport.cls ≠ "java/lang/invoke/MethodHandle" ∧ yX0_hasReport.cls ≠ "java/lang/invoke/VarHandle") ∧ (parseMethodDescriptor yX0_hasReport.desc).map (fun d => d.parameters.length) = some 0 := ⟨(gW_t 342 rfl rfl), (gW_t 3 (by decide +kernel) rfl), ⟨by decide, by decide⟩, by decide +kernel⟩
theorem iX0_hasReport : Cond.instanceMethod yX0_hasReport ∈ gWS := (gW_t 340 (by decide +kernel) rfl)
theorem vX0_hasReport : Cond.selects "RopewayDesk$Cabin" yX0_hasReport yX0_hasReport ∈ gWS := (gW_t 341 (by decide +kernel) rfl)
set_option maxRecDepth 40000 in
theorem qX0_faultOfReport : gcw mX0_faultOfReport yX0_faultOfReport ∈ gWS ∧ Cond.initialized yX0_faultOfReport.cls ∈ gWS ∧ (yX0_faultOfReport.cls ≠ "java/lang/invoke/MethodHandle" ∧ yX0_faultOfReport.cls ≠ "java/lang/invoke/VarHandle") ∧ (parseMethodDescriptor yX0_faultOfReport.desc).map (fun d => d.parameters.length) = some 0 := ⟨(gW_t 346 rfl rfl), (gW_t 3 (by decide +kernel) rfl), ⟨by decide, by decide⟩, by decide +kernel⟩
theorem iX0_faultOfReport : Cond.instanceMethod yX0_faultOfReport ∈ gWS := (gW_t 344 (by decide +kernel) rfl)
theorem vX0_faultOfReport : Cond.selects "RopewayDesk$Cabin" yX0_faultOfReport yX0_faultOfReport ∈ gWS := (gW_t 345 (by decide +kernel) rfl)
set_option maxRecDepth 40000 in
theorem qX0_hasDoorsOpen : gcw mX0_hasDoorsOpen yX0_hasDoorsOpen ∈ gWS ∧ Cond.initialized yX0_hasDoorsOpen.cls ∈ gWS ∧ (yX0_hasDoorsOpen.cls ≠ "java/lang/invoke/MethodHandle" ∧ yX0_hasDoorsOpen.cls ≠ "java/lang/invoke/VarHandle") ∧ (parseMethodDescriptor yX0_hasDoorsOpen.desc).map (fun d => d.parameters.length) = some 0 := ⟨(gW_t 514 rfl rfl), (gW_t 3 (by decide +kernel) rfl), ⟨by decide, by decide⟩, by decide +kernel⟩
theorem iX0_hasDoorsOpen : Cond.instanceMethod yX0_hasDoorsOpen ∈ gWS := (gW_t 512 (by decide +kernel) rfl)
theorem vX0_hasDoorsOpen : Cond.selects "RopewayDesk$Cabin" yX0_hasDoorsOpen yX0_hasDoorsOpen ∈ gWS := (gW_t 513 (by decide +kernel) rfl)
set_option maxRecDepth 40000 in
theorem qX1_init : gcw mX1_init yX1_init ∈ gWS ∧ Cond.initialized yX1_init.cls ∈ gWS ∧ (yX1_init.cls ≠ "java/lang/invoke/MethodHandle" ∧ yX1_init.cls ≠ "java/lang/invoke/VarHandle") ∧ (parseMethodDescriptor yX1_init.desc).map (fun d => d.parameters.length) = some 0 := ⟨(gW_t 25 rfl rfl), (gW_t 2 (by decide +kernel) rfl), ⟨by decide, by decide⟩, by decide +kernel⟩
theorem iX1_init : Cond.instanceMethod yX1_init ∈ gWS := (gW_t 24 (by decide +kernel) rfl)
set_option maxRecDepth 40000 in
theorem qX1_countAt : gcw mX1_countAt yX1_countAt ∈ gWS ∧ Cond.initialized yX1_countAt.cls ∈ gWS ∧ (yX1_countAt.cls ≠ "java/lang/invoke/MethodHandle" ∧ yX1_countAt.cls ≠ "java/lang/invoke/VarHandle") ∧ (parseMethodDescriptor yX1_countAt.desc).map (fun d => d.parameters.length) = some 1 := ⟨(gW_t 197 rfl rfl), (gW_t 2 (by decide +kernel) rfl), ⟨by decide, by decide⟩, by decide +kernel⟩
theorem iX1_countAt : Cond.instanceMethod yX1_countAt ∈ gWS := (gW_t 195 (by decide +kernel) rfl)
theorem vX1_countAt : Cond.selects "RopewayDesk$Fleet" yX1_countAt yX1_countAt ∈ gWS := (gW_t 196 (by decide +kernel) rfl)
set_option maxRecDepth 40000 in
theorem qX1_tripsOfAll : gcw mX1_tripsOfAll yX1_tripsOfAll ∈ gWS ∧ Cond.initialized yX1_tripsOfAll.cls ∈ gWS ∧ (yX1_tripsOfAll.cls ≠ "java/lang/invoke/MethodHandle" ∧ yX1_tripsOfAll.cls ≠ "java/lang/invoke/VarHandle") ∧ (parseMethodDescriptor yX1_tripsOfAll.desc).map (fun d => d.parameters.length) = some 0 := ⟨(gW_t 201 rfl rfl), (gW_t 2 (by decide +kernel) rfl), ⟨by decide, by decide⟩, by decide +kernel⟩
theorem iX1_tripsOfAll : Cond.instanceMethod yX1_tripsOfAll ∈ gWS := (gW_t 199 (by decide +kernel) rfl)
theorem vX1_tripsOfAll : Cond.selects "RopewayDesk$Fleet" yX1_tripsOfAll yX1_tripsOfAll ∈ gWS := (gW_t 200 (by decide +kernel) rfl)
set_option maxRecDepth 40000 in
theorem qX1_farthest : gcw mX1_farthest yX1_farthest ∈ gWS ∧ Cond.initialized yX1_farthest.cls ∈ gWS ∧ (yX1_farthest.cls ≠ "java/lang/invoke/MethodHandle" ∧ yX1_farthest.cls ≠ "java/lang/invoke/VarHandle") ∧ (parseMethodDescriptor yX1_farthest.desc).map (fun d => d.parameters.length) = some 0 := ⟨(gW_t 295 rfl rfl), (gW_t 2 (by decide +kernel) rfl), ⟨by decide, by decide⟩, by decide +kernel⟩
theorem iX1_farthest : Cond.instanceMethod yX1_farthest ∈ gWS := (gW_t 293 (by decide +kernel) rfl)
theorem vX1_farthest : Cond.selects "RopewayDesk$Fleet" yX1_farthest yX1_farthest ∈ gWS := (gW_t 294 (by decide +kernel) rfl)
set_option maxRecDepth 40000 in
theorem qX1_advance : gcw mX1_advance yX1_advance ∈ gWS ∧ Cond.initialized yX1_advance.cls ∈ gWS ∧ (yX1_advance.cls ≠ "java/lang/invoke/MethodHandle" ∧ yX1_advance.cls ≠ "java/lang/invoke/VarHandle") ∧ (parseMethodDescriptor yX1_advance.desc).map (fun d => d.parameters.length) = some 1 := ⟨(gW_t 309 rfl rfl), (gW_t 2 (by decide +kernel) rfl), ⟨by decide, by decide⟩, by decide +kernel⟩
theorem iX1_advance : Cond.instanceMethod yX1_advance ∈ gWS := (gW_t 307 (by decide +kernel) rfl)
theorem vX1_advance : Cond.selects "RopewayDesk$Fleet" yX1_advance yX1_advance ∈ gWS := (gW_t 308 (by decide +kernel) rfl)
set_option maxRecDepth 40000 in
theorem qX1_isClear : gcw mX1_isClear yX1_isClear ∈ gWS ∧ Cond.initialized yX1_isClear.cls ∈ gWS ∧ (yX1_isClear.cls ≠ "java/lang/invoke/MethodHandle" ∧ yX1_isClear.cls ≠ "java/lang/invoke/VarHandle") ∧ (parseMethodDescriptor yX1_isClear.desc).map (fun d => d.parameters.length) = some 2 := ⟨(gW_t 390 rfl rfl), (gW_t 2 (by decide +kernel) rfl), ⟨by decide, by decide⟩, by decide +kernel⟩
theorem iX1_isClear : Cond.instanceMethod yX1_isClear ∈ gWS := (gW_t 388 (by decide +kernel) rfl)
theorem vX1_isClear : Cond.selects "RopewayDesk$Fleet" yX1_isClear yX1_isClear ∈ gWS := (gW_t 389 (by decide +kernel) rfl)
set_option maxRecDepth 40000 in
theorem qX1_hasNearEnd : gcw mX1_hasNearEnd yX1_hasNearEnd ∈ gWS ∧ Cond.initialized yX1_hasNearEnd.cls ∈ gWS ∧ (yX1_hasNearEnd.cls ≠ "java/lang/invoke/MethodHandle" ∧ yX1_hasNearEnd.cls ≠ "java/lang/invoke/VarHandle") ∧ (parseMethodDescriptor yX1_hasNearEnd.desc).map (fun d => d.parameters.length) = some 1 := ⟨(gW_t 405 rfl rfl), (gW_t 2 (by decide +kernel) rfl), ⟨by decide, by decide⟩, by decide +kernel⟩
theorem iX1_hasNearEnd : Cond.instanceMethod yX1_hasNearEnd ∈ gWS := (gW_t 403 (by decide +kernel) rfl)
theorem vX1_hasNearEnd : Cond.selects "RopewayDesk$Fleet" yX1_hasNearEnd yX1_hasNearEnd ∈ gWS := (gW_t 404 (by decide +kernel) rfl)
set_option maxRecDepth 40000 in
theorem qX1_wayAhead : gcw mX1_wayAhead yX1_wayAhead ∈ gWS ∧ Cond.initialized yX1_wayAhead.cls ∈ gWS ∧ (yX1_wayAhead.cls ≠ "java/lang/invoke/MethodHandle" ∧ yX1_wayAhead.cls ≠ "java/lang/invoke/VarHandle") ∧ (parseMethodDescriptor yX1_wayAhead.desc).map (fun d => d.parameters.length) = some 1 := ⟨(gW_t 525 rfl rfl), (gW_t 2 (by decide +kernel) rfl), ⟨by decide, by decide⟩, by decide +kernel⟩
theorem iX1_wayAhead : Cond.instanceMethod yX1_wayAhead ∈ gWS := (gW_t 523 (by decide +kernel) rfl)
theorem vX1_wayAhead : Cond.selects "RopewayDesk$Fleet" yX1_wayAhead yX1_wayAhead ∈ gWS := (gW_t 524 (by decide +kernel) rfl)
set_option maxRecDepth 40000 in
theorem qX1_hasLeft : gcw mX1_hasLeft yX1_hasLeft ∈ gWS ∧ Cond.initialized yX1_hasLeft.cls ∈ gWS ∧ (yX1_hasLeft.cls ≠ "java/lang/invoke/MethodHandle" ∧ yX1_hasLeft.cls ≠ "java/lang/invoke/VarHandle") ∧ (parseMethodDescriptor yX1_hasLeft.desc).map (fun d => d.parameters.length) = some 2 := ⟨(gW_t 393 rfl rfl), (gW_t 2 (by decide +kernel) rfl), ⟨by decide, by decide⟩, by decide +kernel⟩
theorem tX1_hasLeft : Cond.static yX1_hasLeft ∈ gWS := (gW_t 392 (by decide +kernel) rfl)
set_option maxRecDepth 40000 in
theorem qX1_spot : gcw mX1_spot yX1_spot ∈ gWS ∧ Cond.initialized yX1_spot.cls ∈ gWS ∧ (yX1_spot.cls ≠ "java/lang/invoke/MethodHandle" ∧ yX1_spot.cls ≠ "java/lang/invoke/VarHandle") ∧ (parseMethodDescriptor yX1_spot.desc).map (fun d => d.parameters.length) = some 1 := ⟨(gW_t 528 rfl rfl), (gW_t 2 (by decide +kernel) rfl), ⟨by decide, by decide⟩, by decide +kernel⟩
theorem tX1_spot : Cond.static yX1_spot ∈ gWS := (gW_t 527 (by decide +kernel) rfl)
set_option maxRecDepth 40000 in
theorem qX2_init : gcw mX2_init yX2_init ∈ gWS ∧ Cond.initialized yX2_init.cls ∈ gWS ∧ (yX2_init.cls ≠ "java/lang/invoke/MethodHandle" ∧ yX2_init.cls ≠ "java/lang/invoke/VarHandle") ∧ (parseMethodDescriptor yX2_init.desc).map (fun d => d.parameters.length) = some 0 := ⟨(gW_t 97 rfl rfl), (gW_t 4 (by decide +kernel) rfl), ⟨by decide, by decide⟩, by decide +kernel⟩
theorem iX2_init : Cond.instanceMethod yX2_init ∈ gWS := (gW_t 96 (by decide +kernel) rfl)
set_option maxRecDepth 40000 in
theorem qX2_hasRoom : gcw mX2_hasRoom yX2_hasRoom ∈ gWS ∧ Cond.initialized yX2_hasRoom.cls ∈ gWS ∧ (yX2_hasRoom.cls ≠ "java/lang/invoke/MethodHandle" ∧ yX2_hasRoom.cls ≠ "java/lang/invoke/VarHandle") ∧ (parseMethodDescriptor yX2_hasRoom.desc).map (fun d => d.parameters.length) = some 0 := ⟨(gW_t 367 rfl rfl), (gW_t 4 (by decide +kernel) rfl), ⟨by decide, by decide⟩, by decide +kernel⟩
theorem iX2_hasRoom : Cond.instanceMethod yX2_hasRoom ∈ gWS := (gW_t 365 (by decide +kernel) rfl)
theorem vX2_hasRoom : Cond.selects "RopewayDesk$Siding" yX2_hasRoom yX2_hasRoom ∈ gWS := (gW_t 366 (by decide +kernel) rfl)
set_option maxRecDepth 40000 in
theorem qX2_cabinAt : gcw mX2_cabinAt yX2_cabinAt ∈ gWS ∧ Cond.initialized yX2_cabinAt.cls ∈ gWS ∧ (yX2_cabinAt.cls ≠ "java/lang/invoke/MethodHandle" ∧ yX2_cabinAt.cls ≠ "java/lang/invoke/VarHandle") ∧ (parseMethodDescriptor yX2_cabinAt.desc).map (fun d => d.parameters.length) = some 1 := ⟨(gW_t 189 rfl rfl), (gW_t 4 (by decide +kernel) rfl), ⟨by decide, by decide⟩, by decide +kernel⟩
theorem iX2_cabinAt : Cond.instanceMethod yX2_cabinAt ∈ gWS := (gW_t 187 (by decide +kernel) rfl)
theorem vX2_cabinAt : Cond.selects "RopewayDesk$Siding" yX2_cabinAt yX2_cabinAt ∈ gWS := (gW_t 188 (by decide +kernel) rfl)
set_option maxRecDepth 40000 in
theorem qX2_append : gcw mX2_append yX2_append ∈ gWS ∧ Cond.initialized yX2_append.cls ∈ gWS ∧ (yX2_append.cls ≠ "java/lang/invoke/MethodHandle" ∧ yX2_append.cls ≠ "java/lang/invoke/VarHandle") ∧ (parseMethodDescriptor yX2_append.desc).map (fun d => d.parameters.length) = some 1 := ⟨(gW_t 371 rfl rfl), (gW_t 4 (by decide +kernel) rfl), ⟨by decide, by decide⟩, by decide +kernel⟩
theorem iX2_append : Cond.instanceMethod yX2_append ∈ gWS := (gW_t 369 (by decide +kernel) rfl)
theorem vX2_append : Cond.selects "RopewayDesk$Siding" yX2_append yX2_append ∈ gWS := (gW_t 370 (by decide +kernel) rfl)
set_option maxRecDepth 40000 in
theorem qX2_remove : gcw mX2_remove yX2_remove ∈ gWS ∧ Cond.initialized yX2_remove.cls ∈ gWS ∧ (yX2_remove.cls ≠ "java/lang/invoke/MethodHandle" ∧ yX2_remove.cls ≠ "java/lang/invoke/VarHandle") ∧ (parseMethodDescriptor yX2_remove.desc).map (fun d => d.parameters.length) = some 1 := ⟨(gW_t 467 rfl rfl), (gW_t 4 (by decide +kernel) rfl), ⟨by decide, by decide⟩, by decide +kernel⟩
theorem iX2_remove : Cond.instanceMethod yX2_remove ∈ gWS := (gW_t 465 (by decide +kernel) rfl)
theorem vX2_remove : Cond.selects "RopewayDesk$Siding" yX2_remove yX2_remove ∈ gWS := (gW_t 466 (by decide +kernel) rfl)
set_option maxRecDepth 40000 in
theorem qX2_placeOf : gcw mX2_placeOf yX2_placeOf ∈ gWS ∧ Cond.initialized yX2_placeOf.cls ∈ gWS ∧ (yX2_placeOf.cls ≠ "java/lang/invoke/MethodHandle" ∧ yX2_placeOf.cls ≠ "java/lang/invoke/VarHandle") ∧ (parseMethodDescriptor yX2_placeOf.desc).map (fun d => d.parameters.length) = some 1 := ⟨(gW_t 471 rfl rfl), (gW_t 4 (by decide +kernel) rfl), ⟨by decide, by decide⟩, by decide +kernel⟩
theorem iX2_placeOf : Cond.instanceMethod yX2_placeOf ∈ gWS := (gW_t 469 (by decide +kernel) rfl)
theorem vX2_placeOf : Cond.selects "RopewayDesk$Siding" yX2_placeOf yX2_placeOf ∈ gWS := (gW_t 470 (by decide +kernel) rfl)
set_option maxRecDepth 40000 in
theorem qX3_init : gcw mX3_init yX3_init ∈ gWS ∧ Cond.initialized yX3_init.cls ∈ gWS ∧ (yX3_init.cls ≠ "java/lang/invoke/MethodHandle" ∧ yX3_init.cls ≠ "java/lang/invoke/VarHandle") ∧ (parseMethodDescriptor yX3_init.desc).map (fun d => d.parameters.length) = some 1 := ⟨(gW_t 135 rfl rfl), (gW_t 6 (by decide +kernel) rfl), ⟨by decide, by decide⟩, by decide +kernel⟩
theorem iX3_init : Cond.instanceMethod yX3_init ∈ gWS := (gW_t 134 (by decide +kernel) rfl)
set_option maxRecDepth 40000 in
theorem qX3_adm : gcw mX3_adm yX3_adm ∈ gWS ∧ Cond.initialized yX3_adm.cls ∈ gWS ∧ (yX3_adm.cls ≠ "java/lang/invoke/MethodHandle" ∧ yX3_adm.cls ≠ "java/lang/invoke/VarHandle") ∧ (parseMethodDescriptor yX3_adm.desc).map (fun d => d.parameters.length) = some 2 := ⟨(gW_t 283 rfl rfl), (gW_t 6 (by decide +kernel) rfl), ⟨by decide, by decide⟩, by decide +kernel⟩
theorem iX3_adm : Cond.instanceMethod yX3_adm ∈ gWS := (gW_t 281 (by decide +kernel) rfl)
theorem vX3_adm : Cond.selects "RopewayDesk$Station" yX3_adm yX3_adm ∈ gWS := (gW_t 282 (by decide +kernel) rfl)
set_option maxRecDepth 40000 in
theorem qX3_goOn : gcw mX3_goOn yX3_goOn ∈ gWS ∧ Cond.initialized yX3_goOn.cls ∈ gWS ∧ (yX3_goOn.cls ≠ "java/lang/invoke/MethodHandle" ∧ yX3_goOn.cls ≠ "java/lang/invoke/VarHandle") ∧ (parseMethodDescriptor yX3_goOn.desc).map (fun d => d.parameters.length) = some 1 := ⟨(gW_t 329 rfl rfl), (gW_t 6 (by decide +kernel) rfl), ⟨by decide, by decide⟩, by decide +kernel⟩
theorem iX3_goOn : Cond.instanceMethod yX3_goOn ∈ gWS := (gW_t 327 (by decide +kernel) rfl)
theorem vX3_goOn : Cond.selects "RopewayDesk$Station" yX3_goOn yX3_goOn ∈ gWS := (gW_t 328 (by decide +kernel) rfl)
set_option maxRecDepth 40000 in
theorem qX3_isEmptyUpTo : gcw mX3_isEmptyUpTo yX3_isEmptyUpTo ∈ gWS ∧ Cond.initialized yX3_isEmptyUpTo.cls ∈ gWS ∧ (yX3_isEmptyUpTo.cls ≠ "java/lang/invoke/MethodHandle" ∧ yX3_isEmptyUpTo.cls ≠ "java/lang/invoke/VarHandle") ∧ (parseMethodDescriptor yX3_isEmptyUpTo.desc).map (fun d => d.parameters.length) = some 1 := ⟨(gW_t 463 rfl rfl), (gW_t 6 (by decide +kernel) rfl), ⟨by decide, by decide⟩, by decide +kernel⟩
theorem iX3_isEmptyUpTo : Cond.instanceMethod yX3_isEmptyUpTo ∈ gWS := (gW_t 461 (by decide +kernel) rfl)
theorem vX3_isEmptyUpTo : Cond.selects "RopewayDesk$Station" yX3_isEmptyUpTo yX3_isEmptyUpTo ∈ gWS := (gW_t 462 (by decide +kernel) rfl)
set_option maxRecDepth 40000 in
theorem qX3_count : gcw mX3_count yX3_count ∈ gWS ∧ Cond.initialized yX3_count.cls ∈ gWS ∧ (yX3_count.cls ≠ "java/lang/invoke/MethodHandle" ∧ yX3_count.cls ≠ "java/lang/invoke/VarHandle") ∧ (parseMethodDescriptor yX3_count.desc).map (fun d => d.parameters.length) = some 0 := ⟨(gW_t 385 rfl rfl), (gW_t 6 (by decide +kernel) rfl), ⟨by decide, by decide⟩, by decide +kernel⟩
theorem iX3_count : Cond.instanceMethod yX3_count ∈ gWS := (gW_t 383 (by decide +kernel) rfl)
theorem vX3_count : Cond.selects "RopewayDesk$Station" yX3_count yX3_count ∈ gWS := (gW_t 384 (by decide +kernel) rfl)
set_option maxRecDepth 40000 in
theorem qX4_init : gcw mX4_init yX4_init ∈ gWS ∧ Cond.initialized yX4_init.cls ∈ gWS ∧ (yX4_init.cls ≠ "java/lang/invoke/MethodHandle" ∧ yX4_init.cls ≠ "java/lang/invoke/VarHandle") ∧ (parseMethodDescriptor yX4_init.desc).map (fun d => d.parameters.length) = some 0 := ⟨(gW_t 112 rfl rfl), (gW_t 5 (by decide +kernel) rfl), ⟨by decide, by decide⟩, by decide +kernel⟩
theorem iX4_init : Cond.instanceMethod yX4_init ∈ gWS := (gW_t 111 (by decide +kernel) rfl)
set_option maxRecDepth 40000 in
theorem qX4_report : gcw mX4_report yX4_report ∈ gWS ∧ Cond.initialized yX4_report.cls ∈ gWS ∧ (yX4_report.cls ≠ "java/lang/invoke/MethodHandle" ∧ yX4_report.cls ≠ "java/lang/invoke/VarHandle") ∧ (parseMethodDescriptor yX4_report.desc).map (fun d => d.parameters.length) = some 1 := ⟨(gW_t 429 rfl rfl), (gW_t 5 (by decide +kernel) rfl), ⟨by decide, by decide⟩, by decide +kernel⟩
theorem iX4_report : Cond.instanceMethod yX4_report ∈ gWS := (gW_t 427 (by decide +kernel) rfl)
theorem vX4_report : Cond.selects "RopewayDesk$WindBook" yX4_report yX4_report ∈ gWS := (gW_t 428 (by decide +kernel) rfl)
set_option maxRecDepth 40000 in
theorem qX4_sortIn : gcw mX4_sortIn yX4_sortIn ∈ gWS ∧ Cond.initialized yX4_sortIn.cls ∈ gWS ∧ (yX4_sortIn.cls ≠ "java/lang/invoke/MethodHandle" ∧ yX4_sortIn.cls ≠ "java/lang/invoke/VarHandle") ∧ (parseMethodDescriptor yX4_sortIn.desc).map (fun d => d.parameters.length) = some 2 := ⟨(gW_t 433 rfl rfl), (gW_t 5 (by decide +kernel) rfl), ⟨by decide, by decide⟩, by decide +kernel⟩
theorem iX4_sortIn : Cond.instanceMethod yX4_sortIn ∈ gWS := (gW_t 432 (by decide +kernel) rfl)
theorem vX4_sortIn : Cond.selects "RopewayDesk$WindBook" yX4_sortIn yX4_sortIn ∈ gWS := (gW_p 13 (by decide +kernel) rfl)
set_option maxRecDepth 40000 in
theorem qX5_init : gcw mX5_init yX5_init ∈ gWS ∧ Cond.initialized yX5_init.cls ∈ gWS ∧ (yX5_init.cls ≠ "java/lang/invoke/MethodHandle" ∧ yX5_init.cls ≠ "java/lang/invoke/VarHandle") ∧ (parseMethodDescriptor yX5_init.desc).map (fun d => d.parameters.length) = some 0 := ⟨(gW_t 17 rfl rfl), (gW_t 1 (by decide +kernel) rfl), ⟨by decide, by decide⟩, by decide +kernel⟩
theorem iX5_init : Cond.instanceMethod yX5_init ∈ gWS := (gW_t 16 (by decide +kernel) rfl)
set_option maxRecDepth 40000 in
theorem qX5_pulse : gcw mX5_pulse yX5_pulse ∈ gWS ∧ Cond.initialized yX5_pulse.cls ∈ gWS ∧ (yX5_pulse.cls ≠ "java/lang/invoke/MethodHandle" ∧ yX5_pulse.cls ≠ "java/lang/invoke/VarHandle") ∧ (parseMethodDescriptor yX5_pulse.desc).map (fun d => d.parameters.length) = some 1 := ⟨(gW_t 209 rfl rfl), (gW_t 1 (by decide +kernel) rfl), ⟨by decide, by decide⟩, by decide +kernel⟩
theorem iX5_pulse : Cond.instanceMethod yX5_pulse ∈ gWS := (gW_t 207 (by decide +kernel) rfl)
theorem vX5_pulse : Cond.selects "RopewayDesk" yX5_pulse yX5_pulse ∈ gWS := (gW_t 208 (by decide +kernel) rfl)
set_option maxRecDepth 40000 in
theorem qX5_tick : gcw mX5_tick yX5_tick ∈ gWS ∧ Cond.initialized yX5_tick.cls ∈ gWS ∧ (yX5_tick.cls ≠ "java/lang/invoke/MethodHandle" ∧ yX5_tick.cls ≠ "java/lang/invoke/VarHandle") ∧ (parseMethodDescriptor yX5_tick.desc).map (fun d => d.parameters.length) = some 1 := ⟨(gW_t 316 rfl rfl), (gW_t 1 (by decide +kernel) rfl), ⟨by decide, by decide⟩, by decide +kernel⟩
theorem iX5_tick : Cond.instanceMethod yX5_tick ∈ gWS := (gW_t 314 (by decide +kernel) rfl)
theorem vX5_tick : Cond.selects "RopewayDesk" yX5_tick yX5_tick ∈ gWS := (gW_t 315 (by decide +kernel) rfl)
set_option maxRecDepth 40000 in
theorem qX5_gauge : gcw mX5_gauge yX5_gauge ∈ gWS ∧ Cond.initialized yX5_gauge.cls ∈ gWS ∧ (yX5_gauge.cls ≠ "java/lang/invoke/MethodHandle" ∧ yX5_gauge.cls ≠ "java/lang/invoke/VarHandle") ∧ (parseMethodDescriptor yX5_gauge.desc).map (fun d => d.parameters.length) = some 3 := ⟨(gW_t 412 rfl rfl), (gW_t 1 (by decide +kernel) rfl), ⟨by decide, by decide⟩, by decide +kernel⟩
theorem iX5_gauge : Cond.instanceMethod yX5_gauge ∈ gWS := (gW_t 410 (by decide +kernel) rfl)
theorem vX5_gauge : Cond.selects "RopewayDesk" yX5_gauge yX5_gauge ∈ gWS := (gW_t 411 (by decide +kernel) rfl)
set_option maxRecDepth 40000 in
theorem qX5_wind : gcw mX5_wind yX5_wind ∈ gWS ∧ Cond.initialized yX5_wind.cls ∈ gWS ∧ (yX5_wind.cls ≠ "java/lang/invoke/MethodHandle" ∧ yX5_wind.cls ≠ "java/lang/invoke/VarHandle") ∧ (parseMethodDescriptor yX5_wind.desc).map (fun d => d.parameters.length) = some 1 := ⟨(gW_t 424 rfl rfl), (gW_t 1 (by decide +kernel) rfl), ⟨by decide, by decide⟩, by decide +kernel⟩
theorem iX5_wind : Cond.instanceMethod yX5_wind ∈ gWS := (gW_t 422 (by decide +kernel) rfl)
theorem vX5_wind : Cond.selects "RopewayDesk" yX5_wind yX5_wind ∈ gWS := (gW_t 423 (by decide +kernel) rfl)
set_option maxRecDepth 40000 in
theorem qX5_drive : gcw mX5_drive yX5_drive ∈ gWS ∧ Cond.initialized yX5_drive.cls ∈ gWS ∧ (yX5_drive.cls ≠ "java/lang/invoke/MethodHandle" ∧ yX5_drive.cls ≠ "java/lang/invoke/VarHandle") ∧ (parseMethodDescriptor yX5_drive.desc).map (fun d => d.parameters.length) = some 1 := ⟨(gW_t 440 rfl rfl), (gW_t 1 (by decide +kernel) rfl), ⟨by decide, by decide⟩, by decide +kernel⟩
theorem iX5_drive : Cond.instanceMethod yX5_drive ∈ gWS := (gW_t 438 (by decide +kernel) rfl)
theorem vX5_drive : Cond.selects "RopewayDesk" yX5_drive yX5_drive ∈ gWS := (gW_t 439 (by decide +kernel) rfl)
set_option maxRecDepth 40000 in
theorem qX5_bring : gcw mX5_bring yX5_bring ∈ gWS ∧ Cond.initialized yX5_bring.cls ∈ gWS ∧ (yX5_bring.cls ≠ "java/lang/invoke/MethodHandle" ∧ yX5_bring.cls ≠ "java/lang/invoke/VarHandle") ∧ (parseMethodDescriptor yX5_bring.desc).map (fun d => d.parameters.length) = some 1 := ⟨(gW_t 448 rfl rfl), (gW_t 1 (by decide +kernel) rfl), ⟨by decide, by decide⟩, by decide +kernel⟩
theorem iX5_bring : Cond.instanceMethod yX5_bring ∈ gWS := (gW_t 446 (by decide +kernel) rfl)
theorem vX5_bring : Cond.selects "RopewayDesk" yX5_bring yX5_bring ∈ gWS := (gW_t 447 (by decide +kernel) rfl)
set_option maxRecDepth 40000 in
theorem qX5_putOn : gcw mX5_putOn yX5_putOn ∈ gWS ∧ Cond.initialized yX5_putOn.cls ∈ gWS ∧ (yX5_putOn.cls ≠ "java/lang/invoke/MethodHandle" ∧ yX5_putOn.cls ≠ "java/lang/invoke/VarHandle") ∧ (parseMethodDescriptor yX5_putOn.desc).map (fun d => d.parameters.length) = some 2 := ⟨(gW_t 459 rfl rfl), (gW_t 1 (by decide +kernel) rfl), ⟨by decide, by decide⟩, by decide +kernel⟩
theorem iX5_putOn : Cond.instanceMethod yX5_putOn ∈ gWS := (gW_t 457 (by decide +kernel) rfl)
theorem vX5_putOn : Cond.selects "RopewayDesk" yX5_putOn yX5_putOn ∈ gWS := (gW_t 458 (by decide +kernel) rfl)
set_option maxRecDepth 40000 in
theorem qX5_takeOff : gcw mX5_takeOff yX5_takeOff ∈ gWS ∧ Cond.initialized yX5_takeOff.cls ∈ gWS ∧ (yX5_takeOff.cls ≠ "java/lang/invoke/MethodHandle" ∧ yX5_takeOff.cls ≠ "java/lang/invoke/VarHandle") ∧ (parseMethodDescriptor yX5_takeOff.desc).map (fun d => d.parameters.length) = some 2 := ⟨(gW_t 478 rfl rfl), (gW_t 1 (by decide +kernel) rfl), ⟨by decide, by decide⟩, by decide +kernel⟩
theorem iX5_takeOff : Cond.instanceMethod yX5_takeOff ∈ gWS := (gW_t 476 (by decide +kernel) rfl)
theorem vX5_takeOff : Cond.selects "RopewayDesk" yX5_takeOff yX5_takeOff ∈ gWS := (gW_t 477 (by decide +kernel) rfl)
set_option maxRecDepth 40000 in
theorem qX5_plan : gcw mX5_plan yX5_plan ∈ gWS ∧ Cond.initialized yX5_plan.cls ∈ gWS ∧ (yX5_plan.cls ≠ "java/lang/invoke/MethodHandle" ∧ yX5_plan.cls ≠ "java/lang/invoke/VarHandle") ∧ (parseMethodDescriptor yX5_plan.desc).map (fun d => d.parameters.length) = some 1 := ⟨(gW_t 485 rfl rfl), (gW_t 1 (by decide +kernel) rfl), ⟨by decide, by decide⟩, by decide +kernel⟩
theorem iX5_plan : Cond.instanceMethod yX5_plan ∈ gWS := (gW_t 483 (by decide +kernel) rfl)
theorem vX5_plan : Cond.selects "RopewayDesk" yX5_plan yX5_plan ∈ gWS := (gW_t 484 (by decide +kernel) rfl)
set_option maxRecDepth 40000 in
theorem qX5_release : gcw mX5_release yX5_release ∈ gWS ∧ Cond.initialized yX5_release.cls ∈ gWS ∧ (yX5_release.cls ≠ "java/lang/invoke/MethodHandle" ∧ yX5_release.cls ≠ "java/lang/invoke/VarHandle") ∧ (parseMethodDescriptor yX5_release.desc).map (fun d => d.parameters.length) = some 1 := ⟨(gW_t 493 rfl rfl), (gW_t 1 (by decide +kernel) rfl), ⟨by decide, by decide⟩, by decide +kernel⟩
theorem iX5_release : Cond.instanceMethod yX5_release ∈ gWS := (gW_t 491 (by decide +kernel) rfl)
theorem vX5_release : Cond.selects "RopewayDesk" yX5_release yX5_release ∈ gWS := (gW_t 492 (by decide +kernel) rfl)
set_option maxRecDepth 40000 in
theorem qX5_locks : gcw mX5_locks yX5_locks ∈ gWS ∧ Cond.initialized yX5_locks.cls ∈ gWS ∧ (yX5_locks.cls ≠ "java/lang/invoke/MethodHandle" ∧ yX5_locks.cls ≠ "java/lang/invoke/VarHandle") ∧ (parseMethodDescriptor yX5_locks.desc).map (fun d => d.parameters.length) = some 0 := ⟨(gW_t 181 rfl rfl), (gW_t 1 (by decide +kernel) rfl), ⟨by decide, by decide⟩, by decide +kernel⟩
theorem iX5_locks : Cond.instanceMethod yX5_locks ∈ gWS := (gW_t 179 (by decide +kernel) rfl)
theorem vX5_locks : Cond.selects "RopewayDesk" yX5_locks yX5_locks ∈ gWS := (gW_t 180 (by decide +kernel) rfl)
set_option maxRecDepth 40000 in
theorem qX5_where : gcw mX5_where yX5_where ∈ gWS ∧ Cond.initialized yX5_where.cls ∈ gWS ∧ (yX5_where.cls ≠ "java/lang/invoke/MethodHandle" ∧ yX5_where.cls ≠ "java/lang/invoke/VarHandle") ∧ (parseMethodDescriptor yX5_where.desc).map (fun d => d.parameters.length) = some 2 := ⟨(gW_t 505 rfl rfl), (gW_t 1 (by decide +kernel) rfl), ⟨by decide, by decide⟩, by decide +kernel⟩
theorem iX5_where : Cond.instanceMethod yX5_where ∈ gWS := (gW_t 503 (by decide +kernel) rfl)
theorem vX5_where : Cond.selects "RopewayDesk" yX5_where yX5_where ∈ gWS := (gW_t 504 (by decide +kernel) rfl)
set_option maxRecDepth 40000 in
theorem qX5_gap : gcw mX5_gap yX5_gap ∈ gWS ∧ Cond.initialized yX5_gap.cls ∈ gWS ∧ (yX5_gap.cls ≠ "java/lang/invoke/MethodHandle" ∧ yX5_gap.cls ≠ "java/lang/invoke/VarHandle") ∧ (parseMethodDescriptor yX5_gap.desc).map (fun d => d.parameters.length) = some 1 := ⟨(gW_t 521 rfl rfl), (gW_t 1 (by decide +kernel) rfl), ⟨by decide, by decide⟩, by decide +kernel⟩
theorem iX5_gap : Cond.instanceMethod yX5_gap ∈ gWS := (gW_t 519 (by decide +kernel) rfl)
theorem vX5_gap : Cond.selects "RopewayDesk" yX5_gap yX5_gap ∈ gWS := (gW_t 520 (by decide +kernel) rfl)
set_option maxRecDepth 40000 in
theorem qX5_sided : gcw mX5_sided yX5_sided ∈ gWS ∧ Cond.initialized yX5_sided.cls ∈ gWS ∧ (yX5_sided.cls ≠ "java/lang/invoke/MethodHandle" ∧ yX5_sided.cls ≠ "java/lang/invoke/VarHandle") ∧ (parseMethodDescriptor yX5_sided.desc).map (fun d => d.parameters.length) = some 1 := ⟨(gW_t 185 rfl rfl), (gW_t 1 (by decide +kernel) rfl), ⟨by decide, by decide⟩, by decide +kernel⟩
theorem iX5_sided : Cond.instanceMethod yX5_sided ∈ gWS := (gW_t 183 (by decide +kernel) rfl)
theorem vX5_sided : Cond.selects "RopewayDesk" yX5_sided yX5_sided ∈ gWS := (gW_t 184 (by decide +kernel) rfl)
set_option maxRecDepth 40000 in
theorem qX5_state : gcw mX5_state yX5_state ∈ gWS ∧ Cond.initialized yX5_state.cls ∈ gWS ∧ (yX5_state.cls ≠ "java/lang/invoke/MethodHandle" ∧ yX5_state.cls ≠ "java/lang/invoke/VarHandle") ∧ (parseMethodDescriptor yX5_state.desc).map (fun d => d.parameters.length) = some 1 := ⟨(gW_t 193 rfl rfl), (gW_t 1 (by decide +kernel) rfl), ⟨by decide, by decide⟩, by decide +kernel⟩
theorem iX5_state : Cond.instanceMethod yX5_state ∈ gWS := (gW_t 191 (by decide +kernel) rfl)
theorem vX5_state : Cond.selects "RopewayDesk" yX5_state yX5_state ∈ gWS := (gW_t 192 (by decide +kernel) rfl)
set_option maxRecDepth 40000 in
theorem qX5_checkStation : gcw mX5_checkStation yX5_checkStation ∈ gWS ∧ Cond.initialized yX5_checkStation.cls ∈ gWS ∧ (yX5_checkStation.cls ≠ "java/lang/invoke/MethodHandle" ∧ yX5_checkStation.cls ≠ "java/lang/invoke/VarHandle") ∧ (parseMethodDescriptor yX5_checkStation.desc).map (fun d => d.parameters.length) = some 1 := ⟨(gW_t 415 rfl rfl), (gW_t 1 (by decide +kernel) rfl), ⟨by decide, by decide⟩, by decide +kernel⟩
theorem tX5_checkStation : Cond.static yX5_checkStation ∈ gWS := (gW_t 414 (by decide +kernel) rfl)
set_option maxRecDepth 40000 in
theorem qX5_checkCabin : gcw mX5_checkCabin yX5_checkCabin ∈ gWS ∧ Cond.initialized yX5_checkCabin.cls ∈ gWS ∧ (yX5_checkCabin.cls ≠ "java/lang/invoke/MethodHandle" ∧ yX5_checkCabin.cls ≠ "java/lang/invoke/VarHandle") ∧ (parseMethodDescriptor yX5_checkCabin.desc).map (fun d => d.parameters.length) = some 1 := ⟨(gW_t 451 rfl rfl), (gW_t 1 (by decide +kernel) rfl), ⟨by decide, by decide⟩, by decide +kernel⟩
theorem tX5_checkCabin : Cond.static yX5_checkCabin ∈ gWS := (gW_t 450 (by decide +kernel) rfl)
set_option maxRecDepth 40000 in
theorem qX5_lock : gcw mX5_lock yX5_lock ∈ gWS ∧ Cond.initialized yX5_lock.cls ∈ gWS ∧ (yX5_lock.cls ≠ "java/lang/invoke/MethodHandle" ∧ yX5_lock.cls ≠ "java/lang/invoke/VarHandle") ∧ (parseMethodDescriptor yX5_lock.desc).map (fun d => d.parameters.length) = some 1 := ⟨(gW_t 302 rfl rfl), (gW_t 1 (by decide +kernel) rfl), ⟨by decide, by decide⟩, by decide +kernel⟩
theorem iX5_lock : Cond.instanceMethod yX5_lock ∈ gWS := (gW_t 301 (by decide +kernel) rfl)
theorem vX5_lock : Cond.selects "RopewayDesk" yX5_lock yX5_lock ∈ gWS := (gW_p 3 (by decide +kernel) rfl)
set_option maxRecDepth 40000 in
theorem qX5_hasCauseStill : gcw mX5_hasCauseStill yX5_hasCauseStill ∈ gWS ∧ Cond.initialized yX5_hasCauseStill.cls ∈ gWS ∧ (yX5_hasCauseStill.cls ≠ "java/lang/invoke/MethodHandle" ∧ yX5_hasCauseStill.cls ≠ "java/lang/invoke/VarHandle") ∧ (parseMethodDescriptor yX5_hasCauseStill.desc).map (fun d => d.parameters.length) = some 1 := ⟨(gW_t 498 rfl rfl), (gW_t 1 (by decide +kernel) rfl), ⟨by decide, by decide⟩, by decide +kernel⟩
theorem iX5_hasCauseStill : Cond.instanceMethod yX5_hasCauseStill ∈ gWS := (gW_t 497 (by decide +kernel) rfl)
theorem vX5_hasCauseStill : Cond.selects "RopewayDesk" yX5_hasCauseStill yX5_hasCauseStill ∈ gWS := (gW_p 14 (by decide +kernel) rfl)
set_option maxRecDepth 40000 in
theorem qX5_spotOf : gcw mX5_spotOf yX5_spotOf ∈ gWS ∧ Cond.initialized yX5_spotOf.cls ∈ gWS ∧ (yX5_spotOf.cls ≠ "java/lang/invoke/MethodHandle" ∧ yX5_spotOf.cls ≠ "java/lang/invoke/VarHandle") ∧ (parseMethodDescriptor yX5_spotOf.desc).map (fun d => d.parameters.length) = some 1 := ⟨(gW_t 509 rfl rfl), (gW_t 1 (by decide +kernel) rfl), ⟨by decide, by decide⟩, by decide +kernel⟩
theorem iX5_spotOf : Cond.instanceMethod yX5_spotOf ∈ gWS := (gW_t 508 (by decide +kernel) rfl)
theorem vX5_spotOf : Cond.selects "RopewayDesk" yX5_spotOf yX5_spotOf ∈ gWS := (gW_p 15 (by decide +kernel) rfl)
set_option maxRecDepth 40000 in
theorem qX5_letGo : gcw mX5_letGo yX5_letGo ∈ gWS ∧ Cond.initialized yX5_letGo.cls ∈ gWS ∧ (yX5_letGo.cls ≠ "java/lang/invoke/MethodHandle" ∧ yX5_letGo.cls ≠ "java/lang/invoke/VarHandle") ∧ (parseMethodDescriptor yX5_letGo.desc).map (fun d => d.parameters.length) = some 0 := ⟨(gW_t 279 rfl rfl), (gW_t 1 (by decide +kernel) rfl), ⟨by decide, by decide⟩, by decide +kernel⟩
theorem iX5_letGo : Cond.instanceMethod yX5_letGo ∈ gWS := (gW_t 278 (by decide +kernel) rfl)
theorem vX5_letGo : Cond.selects "RopewayDesk" yX5_letGo yX5_letGo ∈ gWS := (gW_p 1 (by decide +kernel) rfl)
set_option maxRecDepth 40000 in
theorem qX5_moveRope : gcw mX5_moveRope yX5_moveRope ∈ gWS ∧ Cond.initialized yX5_moveRope.cls ∈ gWS ∧ (yX5_moveRope.cls ≠ "java/lang/invoke/MethodHandle" ∧ yX5_moveRope.cls ≠ "java/lang/invoke/VarHandle") ∧ (parseMethodDescriptor yX5_moveRope.desc).map (fun d => d.parameters.length) = some 1 := ⟨(gW_t 291 rfl rfl), (gW_t 1 (by decide +kernel) rfl), ⟨by decide, by decide⟩, by decide +kernel⟩
theorem iX5_moveRope : Cond.instanceMethod yX5_moveRope ∈ gWS := (gW_t 290 (by decide +kernel) rfl)
theorem vX5_moveRope : Cond.selects "RopewayDesk" yX5_moveRope yX5_moveRope ∈ gWS := (gW_p 2 (by decide +kernel) rfl)
set_option maxRecDepth 40000 in
theorem qX5_passOneTick : gcw mX5_passOneTick yX5_passOneTick ∈ gWS ∧ Cond.initialized yX5_passOneTick.cls ∈ gWS ∧ (yX5_passOneTick.cls ≠ "java/lang/invoke/MethodHandle" ∧ yX5_passOneTick.cls ≠ "java/lang/invoke/VarHandle") ∧ (parseMethodDescriptor yX5_passOneTick.desc).map (fun d => d.parameters.length) = some 0 := ⟨(gW_t 321 rfl rfl), (gW_t 1 (by decide +kernel) rfl), ⟨by decide, by decide⟩, by decide +kernel⟩
theorem iX5_passOneTick : Cond.instanceMethod yX5_passOneTick ∈ gWS := (gW_t 320 (by decide +kernel) rfl)
theorem vX5_passOneTick : Cond.selects "RopewayDesk" yX5_passOneTick yX5_passOneTick ∈ gWS := (gW_p 4 (by decide +kernel) rfl)
set_option maxRecDepth 40000 in
theorem qX5_workZones : gcw mX5_workZones yX5_workZones ∈ gWS ∧ Cond.initialized yX5_workZones.cls ∈ gWS ∧ (yX5_workZones.cls ≠ "java/lang/invoke/MethodHandle" ∧ yX5_workZones.cls ≠ "java/lang/invoke/VarHandle") ∧ (parseMethodDescriptor yX5_workZones.desc).map (fun d => d.parameters.length) = some 1 := ⟨(gW_t 325 rfl rfl), (gW_t 1 (by decide +kernel) rfl), ⟨by decide, by decide⟩, by decide +kernel⟩
theorem iX5_workZones : Cond.instanceMethod yX5_workZones ∈ gWS := (gW_t 324 (by decide +kernel) rfl)
theorem vX5_workZones : Cond.selects "RopewayDesk" yX5_workZones yX5_workZones ∈ gWS := (gW_p 5 (by decide +kernel) rfl)
set_option maxRecDepth 40000 in
theorem qX5_mayClamp : gcw mX5_mayClamp yX5_mayClamp ∈ gWS ∧ Cond.initialized yX5_mayClamp.cls ∈ gWS ∧ (yX5_mayClamp.cls ≠ "java/lang/invoke/MethodHandle" ∧ yX5_mayClamp.cls ≠ "java/lang/invoke/VarHandle") ∧ (parseMethodDescriptor yX5_mayClamp.desc).map (fun d => d.parameters.length) = some 2 := ⟨(gW_t 377 rfl rfl), (gW_t 1 (by decide +kernel) rfl), ⟨by decide, by decide⟩, by decide +kernel⟩
theorem iX5_mayClamp : Cond.instanceMethod yX5_mayClamp ∈ gWS := (gW_t 376 (by decide +kernel) rfl)
theorem vX5_mayClamp : Cond.selects "RopewayDesk" yX5_mayClamp yX5_mayClamp ∈ gWS := (gW_p 9 (by decide +kernel) rfl)
set_option maxRecDepth 40000 in
theorem qX5_spacing : gcw mX5_spacing yX5_spacing ∈ gWS ∧ Cond.initialized yX5_spacing.cls ∈ gWS ∧ (yX5_spacing.cls ≠ "java/lang/invoke/MethodHandle" ∧ yX5_spacing.cls ≠ "java/lang/invoke/VarHandle") ∧ (parseMethodDescriptor yX5_spacing.desc).map (fun d => d.parameters.length) = some 1 := ⟨(gW_t 381 rfl rfl), (gW_t 1 (by decide +kernel) rfl), ⟨by decide, by decide⟩, by decide +kernel⟩
theorem iX5_spacing : Cond.instanceMethod yX5_spacing ∈ gWS := (gW_t 380 (by decide +kernel) rfl)
theorem vX5_spacing : Cond.selects "RopewayDesk" yX5_spacing yX5_spacing ∈ gWS := (gW_p 10 (by decide +kernel) rfl)
set_option maxRecDepth 40000 in
theorem qX5_goOnClamping : gcw mX5_goOnClamping yX5_goOnClamping ∈ gWS ∧ Cond.initialized yX5_goOnClamping.cls ∈ gWS ∧ (yX5_goOnClamping.cls ≠ "java/lang/invoke/MethodHandle" ∧ yX5_goOnClamping.cls ≠ "java/lang/invoke/VarHandle") ∧ (parseMethodDescriptor yX5_goOnClamping.desc).map (fun d => d.parameters.length) = some 2 := ⟨(gW_t 338 rfl rfl), (gW_t 1 (by decide +kernel) rfl), ⟨by decide, by decide⟩, by decide +kernel⟩
theorem iX5_goOnClamping : Cond.instanceMethod yX5_goOnClamping ∈ gWS := (gW_t 337 (by decide +kernel) rfl)
theorem vX5_goOnClamping : Cond.selects "RopewayDesk" yX5_goOnClamping yX5_goOnClamping ∈ gWS := (gW_p 6 (by decide +kernel) rfl)
set_option maxRecDepth 40000 in
theorem qX5_leave : gcw mX5_leave yX5_leave ∈ gWS ∧ Cond.initialized yX5_leave.cls ∈ gWS ∧ (yX5_leave.cls ≠ "java/lang/invoke/MethodHandle" ∧ yX5_leave.cls ≠ "java/lang/invoke/VarHandle") ∧ (parseMethodDescriptor yX5_leave.desc).map (fun d => d.parameters.length) = some 2 := ⟨(gW_t 354 rfl rfl), (gW_t 1 (by decide +kernel) rfl), ⟨by decide, by decide⟩, by decide +kernel⟩
theorem iX5_leave : Cond.instanceMethod yX5_leave ∈ gWS := (gW_t 353 (by decide +kernel) rfl)
theorem vX5_leave : Cond.selects "RopewayDesk" yX5_leave yX5_leave ∈ gWS := (gW_p 7 (by decide +kernel) rfl)
set_option maxRecDepth 40000 in
theorem qX5_fail : gcw mX5_fail yX5_fail ∈ gWS ∧ Cond.initialized yX5_fail.cls ∈ gWS ∧ (yX5_fail.cls ≠ "java/lang/invoke/MethodHandle" ∧ yX5_fail.cls ≠ "java/lang/invoke/VarHandle") ∧ (parseMethodDescriptor yX5_fail.desc).map (fun d => d.parameters.length) = some 3 := ⟨(gW_t 363 rfl rfl), (gW_t 1 (by decide +kernel) rfl), ⟨by decide, by decide⟩, by decide +kernel⟩
theorem iX5_fail : Cond.instanceMethod yX5_fail ∈ gWS := (gW_t 362 (by decide +kernel) rfl)
theorem vX5_fail : Cond.selects "RopewayDesk" yX5_fail yX5_fail ∈ gWS := (gW_p 8 (by decide +kernel) rfl)
set_option maxRecDepth 40000 in
theorem qX5_targetSpeed : gcw mX5_targetSpeed yX5_targetSpeed ∈ gWS ∧ Cond.initialized yX5_targetSpeed.cls ∈ gWS ∧ (yX5_targetSpeed.cls ≠ "java/lang/invoke/MethodHandle" ∧ yX5_targetSpeed.cls ≠ "java/lang/invoke/VarHandle") ∧ (parseMethodDescriptor yX5_targetSpeed.desc).map (fun d => d.parameters.length) = some 0 := ⟨(gW_t 397 rfl rfl), (gW_t 1 (by decide +kernel) rfl), ⟨by decide, by decide⟩, by decide +kernel⟩
theorem iX5_targetSpeed : Cond.instanceMethod yX5_targetSpeed ∈ gWS := (gW_t 396 (by decide +kernel) rfl)
theorem vX5_targetSpeed : Cond.selects "RopewayDesk" yX5_targetSpeed yX5_targetSpeed ∈ gWS := (gW_p 11 (by decide +kernel) rfl)
set_option maxRecDepth 40000 in
theorem qX5_isArrivalHeldUp : gcw mX5_isArrivalHeldUp yX5_isArrivalHeldUp ∈ gWS ∧ Cond.initialized yX5_isArrivalHeldUp.cls ∈ gWS ∧ (yX5_isArrivalHeldUp.cls ≠ "java/lang/invoke/MethodHandle" ∧ yX5_isArrivalHeldUp.cls ≠ "java/lang/invoke/VarHandle") ∧ (parseMethodDescriptor yX5_isArrivalHeldUp.desc).map (fun d => d.parameters.length) = some 0 := ⟨(gW_t 401 rfl rfl), (gW_t 1 (by decide +kernel) rfl), ⟨by decide, by decide⟩, by decide +kernel⟩
theorem iX5_isArrivalHeldUp : Cond.instanceMethod yX5_isArrivalHeldUp ∈ gWS := (gW_t 400 (by decide +kernel) rfl)
theorem vX5_isArrivalHeldUp : Cond.selects "RopewayDesk" yX5_isArrivalHeldUp yX5_isArrivalHeldUp ∈ gWS := (gW_p 12 (by decide +kernel) rfl)
set_option maxRecDepth 40000 in
theorem qX6_init : gcw mX6_init yX6_init ∈ gWS ∧ Cond.initialized yX6_init.cls ∈ gWS ∧ (yX6_init.cls ≠ "java/lang/invoke/MethodHandle" ∧ yX6_init.cls ≠ "java/lang/invoke/VarHandle") ∧ (parseMethodDescriptor yX6_init.desc).map (fun d => d.parameters.length) = some 0 := ⟨(gW_t 537 rfl rfl), (gW_t 7 (by decide +kernel) rfl), ⟨by decide, by decide⟩, by decide +kernel⟩
theorem iX6_init : Cond.instanceMethod yX6_init ∈ gWS := (gW_t 536 (by decide +kernel) rfl)
set_option maxRecDepth 40000 in
theorem qX6_thrown : gcw mX6_thrown yX6_thrown ∈ gWS ∧ Cond.initialized yX6_thrown.cls ∈ gWS ∧ (yX6_thrown.cls ≠ "java/lang/invoke/MethodHandle" ∧ yX6_thrown.cls ≠ "java/lang/invoke/VarHandle") ∧ (parseMethodDescriptor yX6_thrown.desc).map (fun d => d.parameters.length) = some 0 := ⟨(gW_t 603 rfl rfl), (gW_t 7 (by decide +kernel) rfl), ⟨by decide, by decide⟩, by decide +kernel⟩
theorem iX6_thrown : Cond.instanceMethod yX6_thrown ∈ gWS := (gW_t 601 (by decide +kernel) rfl)
theorem vX6_thrown : Cond.selects "RopewayDeskModel" yX6_thrown yX6_thrown ∈ gWS := (gW_t 602 (by decide +kernel) rfl)
set_option maxRecDepth 40000 in
theorem qX6_fails : gcw mX6_fails yX6_fails ∈ gWS ∧ Cond.initialized yX6_fails.cls ∈ gWS ∧ (yX6_fails.cls ≠ "java/lang/invoke/MethodHandle" ∧ yX6_fails.cls ≠ "java/lang/invoke/VarHandle") ∧ (parseMethodDescriptor yX6_fails.desc).map (fun d => d.parameters.length) = some 1 := ⟨(gW_t 614 rfl rfl), (gW_t 7 (by decide +kernel) rfl), ⟨by decide, by decide⟩, by decide +kernel⟩
theorem iX6_fails : Cond.instanceMethod yX6_fails ∈ gWS := (gW_t 613 (by decide +kernel) rfl)
theorem vX6_fails : Cond.selects "RopewayDeskModel" yX6_fails yX6_fails ∈ gWS := (gW_p 16 (by decide +kernel) rfl)
set_option maxRecDepth 40000 in
theorem qX6_isIn : gcw mX6_isIn yX6_isIn ∈ gWS ∧ Cond.initialized yX6_isIn.cls ∈ gWS ∧ (yX6_isIn.cls ≠ "java/lang/invoke/MethodHandle" ∧ yX6_isIn.cls ≠ "java/lang/invoke/VarHandle") ∧ (parseMethodDescriptor yX6_isIn.desc).map (fun d => d.parameters.length) = some 3 := ⟨(gW_t 610 rfl rfl), (gW_t 7 (by decide +kernel) rfl), ⟨by decide, by decide⟩, by decide +kernel⟩
theorem tX6_isIn : Cond.static yX6_isIn ∈ gWS := (gW_t 609 (by decide +kernel) rfl)
set_option maxRecDepth 40000 in
theorem qX6_isCabin : gcw mX6_isCabin yX6_isCabin ∈ gWS ∧ Cond.initialized yX6_isCabin.cls ∈ gWS ∧ (yX6_isCabin.cls ≠ "java/lang/invoke/MethodHandle" ∧ yX6_isCabin.cls ≠ "java/lang/invoke/VarHandle") ∧ (parseMethodDescriptor yX6_isCabin.desc).map (fun d => d.parameters.length) = some 1 := ⟨(gW_t 688 rfl rfl), (gW_t 7 (by decide +kernel) rfl), ⟨by decide, by decide⟩, by decide +kernel⟩
theorem tX6_isCabin : Cond.static yX6_isCabin ∈ gWS := (gW_t 687 (by decide +kernel) rfl)
set_option maxRecDepth 40000 in
theorem qX6_isStation : gcw mX6_isStation yX6_isStation ∈ gWS ∧ Cond.initialized yX6_isStation.cls ∈ gWS ∧ (yX6_isStation.cls ≠ "java/lang/invoke/MethodHandle" ∧ yX6_isStation.cls ≠ "java/lang/invoke/VarHandle") ∧ (parseMethodDescriptor yX6_isStation.desc).map (fun d => d.parameters.length) = some 1 := ⟨(gW_t 673 rfl rfl), (gW_t 7 (by decide +kernel) rfl), ⟨by decide, by decide⟩, by decide +kernel⟩
theorem tX6_isStation : Cond.static yX6_isStation ∈ gWS := (gW_t 672 (by decide +kernel) rfl)
set_option maxRecDepth 40000 in
theorem qX6_in : gcw mX6_in yX6_in ∈ gWS ∧ Cond.initialized yX6_in.cls ∈ gWS ∧ (yX6_in.cls ≠ "java/lang/invoke/MethodHandle" ∧ yX6_in.cls ≠ "java/lang/invoke/VarHandle") ∧ (parseMethodDescriptor yX6_in.desc).map (fun d => d.parameters.length) = some 2 := ⟨(gW_t 622 rfl rfl), (gW_t 7 (by decide +kernel) rfl), ⟨by decide, by decide⟩, by decide +kernel⟩
theorem iX6_in : Cond.instanceMethod yX6_in ∈ gWS := (gW_t 621 (by decide +kernel) rfl)
theorem vX6_in : Cond.selects "RopewayDeskModel" yX6_in yX6_in ∈ gWS := (gW_p 18 (by decide +kernel) rfl)
set_option maxRecDepth 40000 in
theorem qX6_many : gcw mX6_many yX6_many ∈ gWS ∧ Cond.initialized yX6_many.cls ∈ gWS ∧ (yX6_many.cls ≠ "java/lang/invoke/MethodHandle" ∧ yX6_many.cls ≠ "java/lang/invoke/VarHandle") ∧ (parseMethodDescriptor yX6_many.desc).map (fun d => d.parameters.length) = some 1 := ⟨(gW_t 696 rfl rfl), (gW_t 7 (by decide +kernel) rfl), ⟨by decide, by decide⟩, by decide +kernel⟩
theorem iX6_many : Cond.instanceMethod yX6_many ∈ gWS := (gW_t 695 (by decide +kernel) rfl)
theorem vX6_many : Cond.selects "RopewayDeskModel" yX6_many yX6_many ∈ gWS := (gW_p 29 (by decide +kernel) rfl)
set_option maxRecDepth 40000 in
theorem qX6_inZones : gcw mX6_inZones yX6_inZones ∈ gWS ∧ Cond.initialized yX6_inZones.cls ∈ gWS ∧ (yX6_inZones.cls ≠ "java/lang/invoke/MethodHandle" ∧ yX6_inZones.cls ≠ "java/lang/invoke/VarHandle") ∧ (parseMethodDescriptor yX6_inZones.desc).map (fun d => d.parameters.length) = some 1 := ⟨(gW_t 662 rfl rfl), (gW_t 7 (by decide +kernel) rfl), ⟨by decide, by decide⟩, by decide +kernel⟩
theorem iX6_inZones : Cond.instanceMethod yX6_inZones ∈ gWS := (gW_t 661 (by decide +kernel) rfl)
theorem vX6_inZones : Cond.selects "RopewayDeskModel" yX6_inZones yX6_inZones ∈ gWS := (gW_p 27 (by decide +kernel) rfl)
set_option maxRecDepth 40000 in
theorem qX6_letGo : gcw mX6_letGo yX6_letGo ∈ gWS ∧ Cond.initialized yX6_letGo.cls ∈ gWS ∧ (yX6_letGo.cls ≠ "java/lang/invoke/MethodHandle" ∧ yX6_letGo.cls ≠ "java/lang/invoke/VarHandle") ∧ (parseMethodDescriptor yX6_letGo.desc).map (fun d => d.parameters.length) = some 0 := ⟨(gW_t 618 rfl rfl), (gW_t 7 (by decide +kernel) rfl), ⟨by decide, by decide⟩, by decide +kernel⟩
theorem iX6_letGo : Cond.instanceMethod yX6_letGo ∈ gWS := (gW_t 617 (by decide +kernel) rfl)
theorem vX6_letGo : Cond.selects "RopewayDeskModel" yX6_letGo yX6_letGo ∈ gWS := (gW_p 17 (by decide +kernel) rfl)
set_option maxRecDepth 40000 in
theorem qX6_enter : gcw mX6_enter yX6_enter ∈ gWS ∧ Cond.initialized yX6_enter.cls ∈ gWS ∧ (yX6_enter.cls ≠ "java/lang/invoke/MethodHandle" ∧ yX6_enter.cls ≠ "java/lang/invoke/VarHandle") ∧ (parseMethodDescriptor yX6_enter.desc).map (fun d => d.parameters.length) = some 3 := ⟨(gW_t 626 rfl rfl), (gW_t 7 (by decide +kernel) rfl), ⟨by decide, by decide⟩, by decide +kernel⟩
theorem iX6_enter : Cond.instanceMethod yX6_enter ∈ gWS := (gW_t 625 (by decide +kernel) rfl)
theorem vX6_enter : Cond.selects "RopewayDeskModel" yX6_enter yX6_enter ∈ gWS := (gW_p 19 (by decide +kernel) rfl)
set_option maxRecDepth 40000 in
theorem qX6_isOver : gcw mX6_isOver yX6_isOver ∈ gWS ∧ Cond.initialized yX6_isOver.cls ∈ gWS ∧ (yX6_isOver.cls ≠ "java/lang/invoke/MethodHandle" ∧ yX6_isOver.cls ≠ "java/lang/invoke/VarHandle") ∧ (parseMethodDescriptor yX6_isOver.desc).map (fun d => d.parameters.length) = some 0 := ⟨(gW_t 630 rfl rfl), (gW_t 7 (by decide +kernel) rfl), ⟨by decide, by decide⟩, by decide +kernel⟩
theorem iX6_isOver : Cond.instanceMethod yX6_isOver ∈ gWS := (gW_t 629 (by decide +kernel) rfl)
theorem vX6_isOver : Cond.selects "RopewayDeskModel" yX6_isOver yX6_isOver ∈ gWS := (gW_p 20 (by decide +kernel) rfl)
set_option maxRecDepth 40000 in
theorem qX6_pulse : gcw mX6_pulse yX6_pulse ∈ gWS ∧ Cond.initialized yX6_pulse.cls ∈ gWS ∧ (yX6_pulse.cls ≠ "java/lang/invoke/MethodHandle" ∧ yX6_pulse.cls ≠ "java/lang/invoke/VarHandle") ∧ (parseMethodDescriptor yX6_pulse.desc).map (fun d => d.parameters.length) = some 1 := ⟨(gW_t 607 rfl rfl), (gW_t 7 (by decide +kernel) rfl), ⟨by decide, by decide⟩, by decide +kernel⟩
theorem iX6_pulse : Cond.instanceMethod yX6_pulse ∈ gWS := (gW_t 605 (by decide +kernel) rfl)
theorem vX6_pulse : Cond.selects "RopewayDeskModel" yX6_pulse yX6_pulse ∈ gWS := (gW_t 606 (by decide +kernel) rfl)
set_option maxRecDepth 40000 in
theorem qX6_toSiding : gcw mX6_toSiding yX6_toSiding ∈ gWS ∧ Cond.initialized yX6_toSiding.cls ∈ gWS ∧ (yX6_toSiding.cls ≠ "java/lang/invoke/MethodHandle" ∧ yX6_toSiding.cls ≠ "java/lang/invoke/VarHandle") ∧ (parseMethodDescriptor yX6_toSiding.desc).map (fun d => d.parameters.length) = some 1 := ⟨(gW_t 654 rfl rfl), (gW_t 7 (by decide +kernel) rfl), ⟨by decide, by decide⟩, by decide +kernel⟩
theorem iX6_toSiding : Cond.instanceMethod yX6_toSiding ∈ gWS := (gW_t 653 (by decide +kernel) rfl)
theorem vX6_toSiding : Cond.selects "RopewayDeskModel" yX6_toSiding yX6_toSiding ∈ gWS := (gW_p 25 (by decide +kernel) rfl)
set_option maxRecDepth 40000 in
theorem qX6_unside : gcw mX6_unside yX6_unside ∈ gWS ∧ Cond.initialized yX6_unside.cls ∈ gWS ∧ (yX6_unside.cls ≠ "java/lang/invoke/MethodHandle" ∧ yX6_unside.cls ≠ "java/lang/invoke/VarHandle") ∧ (parseMethodDescriptor yX6_unside.desc).map (fun d => d.parameters.length) = some 1 := ⟨(gW_t 700 rfl rfl), (gW_t 7 (by decide +kernel) rfl), ⟨by decide, by decide⟩, by decide +kernel⟩
theorem iX6_unside : Cond.instanceMethod yX6_unside ∈ gWS := (gW_t 699 (by decide +kernel) rfl)
theorem vX6_unside : Cond.selects "RopewayDeskModel" yX6_unside yX6_unside ∈ gWS := (gW_p 30 (by decide +kernel) rfl)
set_option maxRecDepth 40000 in
theorem qX6_middle : gcw mX6_middle yX6_middle ∈ gWS ∧ Cond.initialized yX6_middle.cls ∈ gWS ∧ (yX6_middle.cls ≠ "java/lang/invoke/MethodHandle" ∧ yX6_middle.cls ≠ "java/lang/invoke/VarHandle") ∧ (parseMethodDescriptor yX6_middle.desc).map (fun d => d.parameters.length) = some 0 := ⟨(gW_t 642 rfl rfl), (gW_t 7 (by decide +kernel) rfl), ⟨by decide, by decide⟩, by decide +kernel⟩
theorem iX6_middle : Cond.instanceMethod yX6_middle ∈ gWS := (gW_t 641 (by decide +kernel) rfl)
theorem vX6_middle : Cond.selects "RopewayDeskModel" yX6_middle yX6_middle ∈ gWS := (gW_p 22 (by decide +kernel) rfl)
set_option maxRecDepth 40000 in
theorem qX6_isTooNear : gcw mX6_isTooNear yX6_isTooNear ∈ gWS ∧ Cond.initialized yX6_isTooNear.cls ∈ gWS ∧ (yX6_isTooNear.cls ≠ "java/lang/invoke/MethodHandle" ∧ yX6_isTooNear.cls ≠ "java/lang/invoke/VarHandle") ∧ (parseMethodDescriptor yX6_isTooNear.desc).map (fun d => d.parameters.length) = some 1 := ⟨(gW_t 658 rfl rfl), (gW_t 7 (by decide +kernel) rfl), ⟨by decide, by decide⟩, by decide +kernel⟩
theorem iX6_isTooNear : Cond.instanceMethod yX6_isTooNear ∈ gWS := (gW_t 657 (by decide +kernel) rfl)
theorem vX6_isTooNear : Cond.selects "RopewayDeskModel" yX6_isTooNear yX6_isTooNear ∈ gWS := (gW_p 26 (by decide +kernel) rfl)
set_option maxRecDepth 40000 in
theorem qX6_clamp : gcw mX6_clamp yX6_clamp ∈ gWS ∧ Cond.initialized yX6_clamp.cls ∈ gWS ∧ (yX6_clamp.cls ≠ "java/lang/invoke/MethodHandle" ∧ yX6_clamp.cls ≠ "java/lang/invoke/VarHandle") ∧ (parseMethodDescriptor yX6_clamp.desc).map (fun d => d.parameters.length) = some 1 := ⟨(gW_t 650 rfl rfl), (gW_t 7 (by decide +kernel) rfl), ⟨by decide, by decide⟩, by decide +kernel⟩
theorem iX6_clamp : Cond.instanceMethod yX6_clamp ∈ gWS := (gW_t 649 (by decide +kernel) rfl)
theorem vX6_clamp : Cond.selects "RopewayDeskModel" yX6_clamp yX6_clamp ∈ gWS := (gW_p 24 (by decide +kernel) rfl)
set_option maxRecDepth 40000 in
theorem qX6_work : gcw mX6_work yX6_work ∈ gWS ∧ Cond.initialized yX6_work.cls ∈ gWS ∧ (yX6_work.cls ≠ "java/lang/invoke/MethodHandle" ∧ yX6_work.cls ≠ "java/lang/invoke/VarHandle") ∧ (parseMethodDescriptor yX6_work.desc).map (fun d => d.parameters.length) = some 2 := ⟨(gW_t 646 rfl rfl), (gW_t 7 (by decide +kernel) rfl), ⟨by decide, by decide⟩, by decide +kernel⟩
theorem iX6_work : Cond.instanceMethod yX6_work ∈ gWS := (gW_t 645 (by decide +kernel) rfl)
theorem vX6_work : Cond.selects "RopewayDeskModel" yX6_work yX6_work ∈ gWS := (gW_p 23 (by decide +kernel) rfl)
set_option maxRecDepth 40000 in
theorem qX6_isWaiting : gcw mX6_isWaiting yX6_isWaiting ∈ gWS ∧ Cond.initialized yX6_isWaiting.cls ∈ gWS ∧ (yX6_isWaiting.cls ≠ "java/lang/invoke/MethodHandle" ∧ yX6_isWaiting.cls ≠ "java/lang/invoke/VarHandle") ∧ (parseMethodDescriptor yX6_isWaiting.desc).map (fun d => d.parameters.length) = some 0 := ⟨(gW_t 666 rfl rfl), (gW_t 7 (by decide +kernel) rfl), ⟨by decide, by decide⟩, by decide +kernel⟩
theorem iX6_isWaiting : Cond.instanceMethod yX6_isWaiting ∈ gWS := (gW_t 665 (by decide +kernel) rfl)
theorem vX6_isWaiting : Cond.selects "RopewayDeskModel" yX6_isWaiting yX6_isWaiting ∈ gWS := (gW_p 28 (by decide +kernel) rfl)
set_option maxRecDepth 40000 in
theorem qX6_one : gcw mX6_one yX6_one ∈ gWS ∧ Cond.initialized yX6_one.cls ∈ gWS ∧ (yX6_one.cls ≠ "java/lang/invoke/MethodHandle" ∧ yX6_one.cls ≠ "java/lang/invoke/VarHandle") ∧ (parseMethodDescriptor yX6_one.desc).map (fun d => d.parameters.length) = some 0 := ⟨(gW_t 638 rfl rfl), (gW_t 7 (by decide +kernel) rfl), ⟨by decide, by decide⟩, by decide +kernel⟩
theorem iX6_one : Cond.instanceMethod yX6_one ∈ gWS := (gW_t 637 (by decide +kernel) rfl)
theorem vX6_one : Cond.selects "RopewayDeskModel" yX6_one yX6_one ∈ gWS := (gW_p 21 (by decide +kernel) rfl)
set_option maxRecDepth 40000 in
theorem qX6_tick : gcw mX6_tick yX6_tick ∈ gWS ∧ Cond.initialized yX6_tick.cls ∈ gWS ∧ (yX6_tick.cls ≠ "java/lang/invoke/MethodHandle" ∧ yX6_tick.cls ≠ "java/lang/invoke/VarHandle") ∧ (parseMethodDescriptor yX6_tick.desc).map (fun d => d.parameters.length) = some 1 := ⟨(gW_t 634 rfl rfl), (gW_t 7 (by decide +kernel) rfl), ⟨by decide, by decide⟩, by decide +kernel⟩
theorem iX6_tick : Cond.instanceMethod yX6_tick ∈ gWS := (gW_t 632 (by decide +kernel) rfl)
theorem vX6_tick : Cond.selects "RopewayDeskModel" yX6_tick yX6_tick ∈ gWS := (gW_t 633 (by decide +kernel) rfl)
set_option maxRecDepth 40000 in
theorem qX6_gauge : gcw mX6_gauge yX6_gauge ∈ gWS ∧ Cond.initialized yX6_gauge.cls ∈ gWS ∧ (yX6_gauge.cls ≠ "java/lang/invoke/MethodHandle" ∧ yX6_gauge.cls ≠ "java/lang/invoke/VarHandle") ∧ (parseMethodDescriptor yX6_gauge.desc).map (fun d => d.parameters.length) = some 3 := ⟨(gW_t 670 rfl rfl), (gW_t 7 (by decide +kernel) rfl), ⟨by decide, by decide⟩, by decide +kernel⟩
theorem iX6_gauge : Cond.instanceMethod yX6_gauge ∈ gWS := (gW_t 668 (by decide +kernel) rfl)
theorem vX6_gauge : Cond.selects "RopewayDeskModel" yX6_gauge yX6_gauge ∈ gWS := (gW_t 669 (by decide +kernel) rfl)
set_option maxRecDepth 40000 in
theorem qX6_wind : gcw mX6_wind yX6_wind ∈ gWS ∧ Cond.initialized yX6_wind.cls ∈ gWS ∧ (yX6_wind.cls ≠ "java/lang/invoke/MethodHandle" ∧ yX6_wind.cls ≠ "java/lang/invoke/VarHandle") ∧ (parseMethodDescriptor yX6_wind.desc).map (fun d => d.parameters.length) = some 1 := ⟨(gW_t 677 rfl rfl), (gW_t 7 (by decide +kernel) rfl), ⟨by decide, by decide⟩, by decide +kernel⟩
theorem iX6_wind : Cond.instanceMethod yX6_wind ∈ gWS := (gW_t 675 (by decide +kernel) rfl)
theorem vX6_wind : Cond.selects "RopewayDeskModel" yX6_wind yX6_wind ∈ gWS := (gW_t 676 (by decide +kernel) rfl)
set_option maxRecDepth 40000 in
theorem qX6_drive : gcw mX6_drive yX6_drive ∈ gWS ∧ Cond.initialized yX6_drive.cls ∈ gWS ∧ (yX6_drive.cls ≠ "java/lang/invoke/MethodHandle" ∧ yX6_drive.cls ≠ "java/lang/invoke/VarHandle") ∧ (parseMethodDescriptor yX6_drive.desc).map (fun d => d.parameters.length) = some 1 := ⟨(gW_t 681 rfl rfl), (gW_t 7 (by decide +kernel) rfl), ⟨by decide, by decide⟩, by decide +kernel⟩
theorem iX6_drive : Cond.instanceMethod yX6_drive ∈ gWS := (gW_t 679 (by decide +kernel) rfl)
theorem vX6_drive : Cond.selects "RopewayDeskModel" yX6_drive yX6_drive ∈ gWS := (gW_t 680 (by decide +kernel) rfl)
set_option maxRecDepth 40000 in
theorem qX6_bring : gcw mX6_bring yX6_bring ∈ gWS ∧ Cond.initialized yX6_bring.cls ∈ gWS ∧ (yX6_bring.cls ≠ "java/lang/invoke/MethodHandle" ∧ yX6_bring.cls ≠ "java/lang/invoke/VarHandle") ∧ (parseMethodDescriptor yX6_bring.desc).map (fun d => d.parameters.length) = some 1 := ⟨(gW_t 685 rfl rfl), (gW_t 7 (by decide +kernel) rfl), ⟨by decide, by decide⟩, by decide +kernel⟩
theorem iX6_bring : Cond.instanceMethod yX6_bring ∈ gWS := (gW_t 683 (by decide +kernel) rfl)
theorem vX6_bring : Cond.selects "RopewayDeskModel" yX6_bring yX6_bring ∈ gWS := (gW_t 684 (by decide +kernel) rfl)
set_option maxRecDepth 40000 in
theorem qX6_putOn : gcw mX6_putOn yX6_putOn ∈ gWS ∧ Cond.initialized yX6_putOn.cls ∈ gWS ∧ (yX6_putOn.cls ≠ "java/lang/invoke/MethodHandle" ∧ yX6_putOn.cls ≠ "java/lang/invoke/VarHandle") ∧ (parseMethodDescriptor yX6_putOn.desc).map (fun d => d.parameters.length) = some 2 := ⟨(gW_t 692 rfl rfl), (gW_t 7 (by decide +kernel) rfl), ⟨by decide, by decide⟩, by decide +kernel⟩
theorem iX6_putOn : Cond.instanceMethod yX6_putOn ∈ gWS := (gW_t 690 (by decide +kernel) rfl)
theorem vX6_putOn : Cond.selects "RopewayDeskModel" yX6_putOn yX6_putOn ∈ gWS := (gW_t 691 (by decide +kernel) rfl)
set_option maxRecDepth 40000 in
theorem qX6_takeOff : gcw mX6_takeOff yX6_takeOff ∈ gWS ∧ Cond.initialized yX6_takeOff.cls ∈ gWS ∧ (yX6_takeOff.cls ≠ "java/lang/invoke/MethodHandle" ∧ yX6_takeOff.cls ≠ "java/lang/invoke/VarHandle") ∧ (parseMethodDescriptor yX6_takeOff.desc).map (fun d => d.parameters.length) = some 2 := ⟨(gW_t 704 rfl rfl), (gW_t 7 (by decide +kernel) rfl), ⟨by decide, by decide⟩, by decide +kernel⟩
theorem iX6_takeOff : Cond.instanceMethod yX6_takeOff ∈ gWS := (gW_t 702 (by decide +kernel) rfl)
theorem vX6_takeOff : Cond.selects "RopewayDeskModel" yX6_takeOff yX6_takeOff ∈ gWS := (gW_t 703 (by decide +kernel) rfl)
set_option maxRecDepth 40000 in
theorem qX6_plan : gcw mX6_plan yX6_plan ∈ gWS ∧ Cond.initialized yX6_plan.cls ∈ gWS ∧ (yX6_plan.cls ≠ "java/lang/invoke/MethodHandle" ∧ yX6_plan.cls ≠ "java/lang/invoke/VarHandle") ∧ (parseMethodDescriptor yX6_plan.desc).map (fun d => d.parameters.length) = some 1 := ⟨(gW_t 708 rfl rfl), (gW_t 7 (by decide +kernel) rfl), ⟨by decide, by decide⟩, by decide +kernel⟩
theorem iX6_plan : Cond.instanceMethod yX6_plan ∈ gWS := (gW_t 706 (by decide +kernel) rfl)
theorem vX6_plan : Cond.selects "RopewayDeskModel" yX6_plan yX6_plan ∈ gWS := (gW_t 707 (by decide +kernel) rfl)
set_option maxRecDepth 40000 in
theorem qX6_release : gcw mX6_release yX6_release ∈ gWS ∧ Cond.initialized yX6_release.cls ∈ gWS ∧ (yX6_release.cls ≠ "java/lang/invoke/MethodHandle" ∧ yX6_release.cls ≠ "java/lang/invoke/VarHandle") ∧ (parseMethodDescriptor yX6_release.desc).map (fun d => d.parameters.length) = some 1 := ⟨(gW_t 712 rfl rfl), (gW_t 7 (by decide +kernel) rfl), ⟨by decide, by decide⟩, by decide +kernel⟩
theorem iX6_release : Cond.instanceMethod yX6_release ∈ gWS := (gW_t 710 (by decide +kernel) rfl)
theorem vX6_release : Cond.selects "RopewayDeskModel" yX6_release yX6_release ∈ gWS := (gW_t 711 (by decide +kernel) rfl)
set_option maxRecDepth 40000 in
theorem qX6_locks : gcw mX6_locks yX6_locks ∈ gWS ∧ Cond.initialized yX6_locks.cls ∈ gWS ∧ (yX6_locks.cls ≠ "java/lang/invoke/MethodHandle" ∧ yX6_locks.cls ≠ "java/lang/invoke/VarHandle") ∧ (parseMethodDescriptor yX6_locks.desc).map (fun d => d.parameters.length) = some 0 := ⟨(gW_t 716 rfl rfl), (gW_t 7 (by decide +kernel) rfl), ⟨by decide, by decide⟩, by decide +kernel⟩
theorem iX6_locks : Cond.instanceMethod yX6_locks ∈ gWS := (gW_t 714 (by decide +kernel) rfl)
theorem vX6_locks : Cond.selects "RopewayDeskModel" yX6_locks yX6_locks ∈ gWS := (gW_t 715 (by decide +kernel) rfl)
set_option maxRecDepth 40000 in
theorem qX6_placeOf : gcw mX6_placeOf yX6_placeOf ∈ gWS ∧ Cond.initialized yX6_placeOf.cls ∈ gWS ∧ (yX6_placeOf.cls ≠ "java/lang/invoke/MethodHandle" ∧ yX6_placeOf.cls ≠ "java/lang/invoke/VarHandle") ∧ (parseMethodDescriptor yX6_placeOf.desc).map (fun d => d.parameters.length) = some 1 := ⟨(gW_t 724 rfl rfl), (gW_t 7 (by decide +kernel) rfl), ⟨by decide, by decide⟩, by decide +kernel⟩
theorem iX6_placeOf : Cond.instanceMethod yX6_placeOf ∈ gWS := (gW_t 723 (by decide +kernel) rfl)
theorem vX6_placeOf : Cond.selects "RopewayDeskModel" yX6_placeOf yX6_placeOf ∈ gWS := (gW_p 31 (by decide +kernel) rfl)
set_option maxRecDepth 40000 in
theorem qX6_hasOpenDoors : gcw mX6_hasOpenDoors yX6_hasOpenDoors ∈ gWS ∧ Cond.initialized yX6_hasOpenDoors.cls ∈ gWS ∧ (yX6_hasOpenDoors.cls ≠ "java/lang/invoke/MethodHandle" ∧ yX6_hasOpenDoors.cls ≠ "java/lang/invoke/VarHandle") ∧ (parseMethodDescriptor yX6_hasOpenDoors.desc).map (fun d => d.parameters.length) = some 1 := ⟨(gW_t 728 rfl rfl), (gW_t 7 (by decide +kernel) rfl), ⟨by decide, by decide⟩, by decide +kernel⟩
theorem iX6_hasOpenDoors : Cond.instanceMethod yX6_hasOpenDoors ∈ gWS := (gW_t 727 (by decide +kernel) rfl)
theorem vX6_hasOpenDoors : Cond.selects "RopewayDeskModel" yX6_hasOpenDoors yX6_hasOpenDoors ∈ gWS := (gW_p 32 (by decide +kernel) rfl)
set_option maxRecDepth 40000 in
theorem qX6_where : gcw mX6_where yX6_where ∈ gWS ∧ Cond.initialized yX6_where.cls ∈ gWS ∧ (yX6_where.cls ≠ "java/lang/invoke/MethodHandle" ∧ yX6_where.cls ≠ "java/lang/invoke/VarHandle") ∧ (parseMethodDescriptor yX6_where.desc).map (fun d => d.parameters.length) = some 2 := ⟨(gW_t 720 rfl rfl), (gW_t 7 (by decide +kernel) rfl), ⟨by decide, by decide⟩, by decide +kernel⟩
theorem iX6_where : Cond.instanceMethod yX6_where ∈ gWS := (gW_t 718 (by decide +kernel) rfl)
theorem vX6_where : Cond.selects "RopewayDeskModel" yX6_where yX6_where ∈ gWS := (gW_t 719 (by decide +kernel) rfl)
set_option maxRecDepth 40000 in
theorem qX6_gap : gcw mX6_gap yX6_gap ∈ gWS ∧ Cond.initialized yX6_gap.cls ∈ gWS ∧ (yX6_gap.cls ≠ "java/lang/invoke/MethodHandle" ∧ yX6_gap.cls ≠ "java/lang/invoke/VarHandle") ∧ (parseMethodDescriptor yX6_gap.desc).map (fun d => d.parameters.length) = some 1 := ⟨(gW_t 732 rfl rfl), (gW_t 7 (by decide +kernel) rfl), ⟨by decide, by decide⟩, by decide +kernel⟩
theorem iX6_gap : Cond.instanceMethod yX6_gap ∈ gWS := (gW_t 730 (by decide +kernel) rfl)
theorem vX6_gap : Cond.selects "RopewayDeskModel" yX6_gap yX6_gap ∈ gWS := (gW_t 731 (by decide +kernel) rfl)
set_option maxRecDepth 40000 in
theorem qX6_sided : gcw mX6_sided yX6_sided ∈ gWS ∧ Cond.initialized yX6_sided.cls ∈ gWS ∧ (yX6_sided.cls ≠ "java/lang/invoke/MethodHandle" ∧ yX6_sided.cls ≠ "java/lang/invoke/VarHandle") ∧ (parseMethodDescriptor yX6_sided.desc).map (fun d => d.parameters.length) = some 1 := ⟨(gW_t 736 rfl rfl), (gW_t 7 (by decide +kernel) rfl), ⟨by decide, by decide⟩, by decide +kernel⟩
theorem iX6_sided : Cond.instanceMethod yX6_sided ∈ gWS := (gW_t 734 (by decide +kernel) rfl)
theorem vX6_sided : Cond.selects "RopewayDeskModel" yX6_sided yX6_sided ∈ gWS := (gW_t 735 (by decide +kernel) rfl)
set_option maxRecDepth 40000 in
theorem qX6_state : gcw mX6_state yX6_state ∈ gWS ∧ Cond.initialized yX6_state.cls ∈ gWS ∧ (yX6_state.cls ≠ "java/lang/invoke/MethodHandle" ∧ yX6_state.cls ≠ "java/lang/invoke/VarHandle") ∧ (parseMethodDescriptor yX6_state.desc).map (fun d => d.parameters.length) = some 1 := ⟨(gW_t 740 rfl rfl), (gW_t 7 (by decide +kernel) rfl), ⟨by decide, by decide⟩, by decide +kernel⟩
theorem iX6_state : Cond.instanceMethod yX6_state ∈ gWS := (gW_t 738 (by decide +kernel) rfl)
theorem vX6_state : Cond.selects "RopewayDeskModel" yX6_state yX6_state ∈ gWS := (gW_t 739 (by decide +kernel) rfl)
set_option maxRecDepth 40000 in
theorem qX6_all : gcw mX6_all yX6_all ∈ gWS ∧ Cond.initialized yX6_all.cls ∈ gWS ∧ (yX6_all.cls ≠ "java/lang/invoke/MethodHandle" ∧ yX6_all.cls ≠ "java/lang/invoke/VarHandle") ∧ (parseMethodDescriptor yX6_all.desc).map (fun d => d.parameters.length) = some 0 := ⟨(gW_t 744 rfl rfl), (gW_t 7 (by decide +kernel) rfl), ⟨by decide, by decide⟩, by decide +kernel⟩
theorem iX6_all : Cond.instanceMethod yX6_all ∈ gWS := (gW_t 743 (by decide +kernel) rfl)
theorem vX6_all : Cond.selects "RopewayDeskModel" yX6_all yX6_all ∈ gWS := (gW_p 33 (by decide +kernel) rfl)
set_option maxRecDepth 40000 in
theorem qL_pulse : gcw mL_pulse yL_pulse ∈ gWS ∧ Cond.initialized yL_pulse.cls ∈ gWS ∧ (yL_pulse.cls ≠ "java/lang/invoke/MethodHandle" ∧ yL_pulse.cls ≠ "java/lang/invoke/VarHandle") ∧ (parseMethodDescriptor yL_pulse.desc).map (fun d => d.parameters.length) = some 3 := ⟨(gW_t 204 rfl rfl), (gW_t 0 (by decide +kernel) rfl), ⟨by decide, by decide⟩, by decide +kernel⟩
theorem tL_pulse : Cond.static yL_pulse ∈ gWS := (gW_t 203 (by decide +kernel) rfl)
set_option maxRecDepth 40000 in
theorem qL_tick : gcw mL_tick yL_tick ∈ gWS ∧ Cond.initialized yL_tick.cls ∈ gWS ∧ (yL_tick.cls ≠ "java/lang/invoke/MethodHandle" ∧ yL_tick.cls ≠ "java/lang/invoke/VarHandle") ∧ (parseMethodDescriptor yL_tick.desc).map (fun d => d.parameters.length) = some 3 := ⟨(gW_t 312 rfl rfl), (gW_t 0 (by decide +kernel) rfl), ⟨by decide, by decide⟩, by decide +kernel⟩
theorem tL_tick : Cond.static yL_tick ∈ gWS := (gW_t 311 (by decide +kernel) rfl)
set_option maxRecDepth 40000 in
theorem qL_gauge : gcw mL_gauge yL_gauge ∈ gWS ∧ Cond.initialized yL_gauge.cls ∈ gWS ∧ (yL_gauge.cls ≠ "java/lang/invoke/MethodHandle" ∧ yL_gauge.cls ≠ "java/lang/invoke/VarHandle") ∧ (parseMethodDescriptor yL_gauge.desc).map (fun d => d.parameters.length) = some 5 := ⟨(gW_t 408 rfl rfl), (gW_t 0 (by decide +kernel) rfl), ⟨by decide, by decide⟩, by decide +kernel⟩
theorem tL_gauge : Cond.static yL_gauge ∈ gWS := (gW_t 407 (by decide +kernel) rfl)
set_option maxRecDepth 40000 in
theorem qL_wind : gcw mL_wind yL_wind ∈ gWS ∧ Cond.initialized yL_wind.cls ∈ gWS ∧ (yL_wind.cls ≠ "java/lang/invoke/MethodHandle" ∧ yL_wind.cls ≠ "java/lang/invoke/VarHandle") ∧ (parseMethodDescriptor yL_wind.desc).map (fun d => d.parameters.length) = some 2 := ⟨(gW_t 420 rfl rfl), (gW_t 0 (by decide +kernel) rfl), ⟨by decide, by decide⟩, by decide +kernel⟩
theorem tL_wind : Cond.static yL_wind ∈ gWS := (gW_t 419 (by decide +kernel) rfl)
set_option maxRecDepth 40000 in
theorem qL_drive : gcw mL_drive yL_drive ∈ gWS ∧ Cond.initialized yL_drive.cls ∈ gWS ∧ (yL_drive.cls ≠ "java/lang/invoke/MethodHandle" ∧ yL_drive.cls ≠ "java/lang/invoke/VarHandle") ∧ (parseMethodDescriptor yL_drive.desc).map (fun d => d.parameters.length) = some 3 := ⟨(gW_t 436 rfl rfl), (gW_t 0 (by decide +kernel) rfl), ⟨by decide, by decide⟩, by decide +kernel⟩
theorem tL_drive : Cond.static yL_drive ∈ gWS := (gW_t 435 (by decide +kernel) rfl)
set_option maxRecDepth 40000 in
theorem qL_bring : gcw mL_bring yL_bring ∈ gWS ∧ Cond.initialized yL_bring.cls ∈ gWS ∧ (yL_bring.cls ≠ "java/lang/invoke/MethodHandle" ∧ yL_bring.cls ≠ "java/lang/invoke/VarHandle") ∧ (parseMethodDescriptor yL_bring.desc).map (fun d => d.parameters.length) = some 3 := ⟨(gW_t 444 rfl rfl), (gW_t 0 (by decide +kernel) rfl), ⟨by decide, by decide⟩, by decide +kernel⟩
theorem tL_bring : Cond.static yL_bring ∈ gWS := (gW_t 443 (by decide +kernel) rfl)
set_option maxRecDepth 40000 in
theorem qL_putOn : gcw mL_putOn yL_putOn ∈ gWS ∧ Cond.initialized yL_putOn.cls ∈ gWS ∧ (yL_putOn.cls ≠ "java/lang/invoke/MethodHandle" ∧ yL_putOn.cls ≠ "java/lang/invoke/VarHandle") ∧ (parseMethodDescriptor yL_putOn.desc).map (fun d => d.parameters.length) = some 4 := ⟨(gW_t 455 rfl rfl), (gW_t 0 (by decide +kernel) rfl), ⟨by decide, by decide⟩, by decide +kernel⟩
theorem tL_putOn : Cond.static yL_putOn ∈ gWS := (gW_t 454 (by decide +kernel) rfl)
set_option maxRecDepth 40000 in
theorem qL_takeOff : gcw mL_takeOff yL_takeOff ∈ gWS ∧ Cond.initialized yL_takeOff.cls ∈ gWS ∧ (yL_takeOff.cls ≠ "java/lang/invoke/MethodHandle" ∧ yL_takeOff.cls ≠ "java/lang/invoke/VarHandle") ∧ (parseMethodDescriptor yL_takeOff.desc).map (fun d => d.parameters.length) = some 4 := ⟨(gW_t 474 rfl rfl), (gW_t 0 (by decide +kernel) rfl), ⟨by decide, by decide⟩, by decide +kernel⟩
theorem tL_takeOff : Cond.static yL_takeOff ∈ gWS := (gW_t 473 (by decide +kernel) rfl)
set_option maxRecDepth 40000 in
theorem qL_plan : gcw mL_plan yL_plan ∈ gWS ∧ Cond.initialized yL_plan.cls ∈ gWS ∧ (yL_plan.cls ≠ "java/lang/invoke/MethodHandle" ∧ yL_plan.cls ≠ "java/lang/invoke/VarHandle") ∧ (parseMethodDescriptor yL_plan.desc).map (fun d => d.parameters.length) = some 3 := ⟨(gW_t 481 rfl rfl), (gW_t 0 (by decide +kernel) rfl), ⟨by decide, by decide⟩, by decide +kernel⟩
theorem tL_plan : Cond.static yL_plan ∈ gWS := (gW_t 480 (by decide +kernel) rfl)
set_option maxRecDepth 40000 in
theorem qL_release : gcw mL_release yL_release ∈ gWS ∧ Cond.initialized yL_release.cls ∈ gWS ∧ (yL_release.cls ≠ "java/lang/invoke/MethodHandle" ∧ yL_release.cls ≠ "java/lang/invoke/VarHandle") ∧ (parseMethodDescriptor yL_release.desc).map (fun d => d.parameters.length) = some 3 := ⟨(gW_t 489 rfl rfl), (gW_t 0 (by decide +kernel) rfl), ⟨by decide, by decide⟩, by decide +kernel⟩
theorem tL_release : Cond.static yL_release ∈ gWS := (gW_t 488 (by decide +kernel) rfl)
set_option maxRecDepth 40000 in
theorem qL_where : gcw mL_where yL_where ∈ gWS ∧ Cond.initialized yL_where.cls ∈ gWS ∧ (yL_where.cls ≠ "java/lang/invoke/MethodHandle" ∧ yL_where.cls ≠ "java/lang/invoke/VarHandle") ∧ (parseMethodDescriptor yL_where.desc).map (fun d => d.parameters.length) = some 4 := ⟨(gW_t 501 rfl rfl), (gW_t 0 (by decide +kernel) rfl), ⟨by decide, by decide⟩, by decide +kernel⟩
theorem tL_where : Cond.static yL_where ∈ gWS := (gW_t 500 (by decide +kernel) rfl)
set_option maxRecDepth 40000 in
theorem qL_gap : gcw mL_gap yL_gap ∈ gWS ∧ Cond.initialized yL_gap.cls ∈ gWS ∧ (yL_gap.cls ≠ "java/lang/invoke/MethodHandle" ∧ yL_gap.cls ≠ "java/lang/invoke/VarHandle") ∧ (parseMethodDescriptor yL_gap.desc).map (fun d => d.parameters.length) = some 3 := ⟨(gW_t 517 rfl rfl), (gW_t 0 (by decide +kernel) rfl), ⟨by decide, by decide⟩, by decide +kernel⟩
theorem tL_gap : Cond.static yL_gap ∈ gWS := (gW_t 516 (by decide +kernel) rfl)
set_option maxRecDepth 40000 in
theorem qJ_floorMod : gcw mJ_floorMod yJ_floorMod ∈ gWS ∧ Cond.initialized yJ_floorMod.cls ∈ gWS ∧ (yJ_floorMod.cls ≠ "java/lang/invoke/MethodHandle" ∧ yJ_floorMod.cls ≠ "java/lang/invoke/VarHandle") ∧ (parseMethodDescriptor yJ_floorMod.desc).map (fun d => d.parameters.length) = some 2 := ⟨(gW_t 531 rfl rfl), (gW_t 12 (by decide +kernel) rfl), ⟨by decide, by decide⟩, by decide +kernel⟩
theorem tJ_floorMod : Cond.static yJ_floorMod ∈ gWS := (gW_t 530 (by decide +kernel) rfl)
