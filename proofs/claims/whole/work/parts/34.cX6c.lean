/-! contracts: the calls of the reference, first half -/
theorem cX6_fails0 (l : Launch) {L : Nat} {S : sT} {M M0 : Nat → Nat → Int} (h : M0 = up M 74 0 0) : gMi (gπ l) mX6_fails yX6_fails [gR (some 74), gI 0] (hS L S M) 0 (hS L S M0) := by
  subst h; exact cX6_fails l (Or.inl rfl)
theorem cX6_fails1 (l : Launch) {L : Nat} {S : sT} {M M1 : Nat → Nat → Int} (h : M1 = up M 74 0 1) : gMi (gπ l) mX6_fails yX6_fails [gR (some 74), gI 1] (hS L S M) 1 (hS L S M1) := by
  subst h; exact cX6_fails l (Or.inr rfl)
theorem xAdv_0 {M : Nat → Nat → Int} : xAdv M 0 = M := by
  funext a b; unfold xAdv; rw [if_neg (by omega)]
theorem xAdv_put {M : Nat → Nat → Int} {k : Nat} : up (xAdv M k) 76 k (gadd (M 76 k) (if M 75 k = 3 then 1 else 0)) = xAdv M (k + 1) := by
  funext a b
  unfold up
  by_cases e : a = 76 ∧ b = k
  · obtain ⟨rfl, rfl⟩ := e
    rw [if_pos ⟨rfl, rfl⟩]; unfold xAdv; exact (if_pos (show (76 : Nat) = 76 ∧ b < b + 1 from ⟨rfl, by omega⟩)).symm
  · rw [if_neg e]; unfold xAdv
    by_cases c : a = 76 ∧ b < k
    · rw [if_pos c, if_pos (show a = 76 ∧ b < k + 1 from ⟨c.1, by omega⟩)]
    · rw [if_neg c, if_neg (show ¬ (a = 76 ∧ b < k + 1) by omega)]
theorem up_up {α : Type} {f : Nat → Nat → α} {a b : Nat} {x y : α} : up (up f a b x) a b y = up f a b y := by
  funext a' b'; unfold up; split <;> rfl
set_option maxHeartbeats 1000000 in
theorem cX6_one (l : Launch) {L : Nat} {S : sT} {M : Nat → Nat → Int} (hm : Wm M) : gMv (gπ l) mX6_one yX6_one [gR (some 74)] (hS L S M) (hS L S (xTick M)) := by
  refine gMet_of pnX6 rfl rfl rfl (Nat.le_of_ble_eq_true rfl) (gAr gAn) ?_
  show G (gπ l) mX6_one 0 [gR (some 74), gU, gU] [] (hS L S M) 0 0 _
  have inner : ∀ (z : Nat) (M : Nat → Nat → Int) (s : Int) (Q : Option (Option gV) → gH → Prop), z ≤ 12 → Wm M → G (gπ l) mX6_one 46 [gR (some 74), gI s, gI 0] [] (hS L S (xZones M s z)) 0 0 Q → G (gπ l) mX6_one 30 [gR (some 74), gI s, gI (z : Int)] [] (hS L S M) 0 0 Q := by
    intro z
    induction z with
    | zero =>
      intro M s Q hz hm hk
      refine g_iload_n dX6_one_30 rfl rfl ?_
      refine g_if_le (tgt := 46) dX6_one_31 (by decide) (fun c31 => ?_) (fun c31 => absurd c31 (by omega))
      exact hk
    | succ z ih =>
      intro M s Q hz hm hk
      refine g_iload_n dX6_one_30 rfl rfl ?_
      refine g_if_le (tgt := 46) dX6_one_31 (by decide) (fun c31 => absurd c31 (by omega)) (fun c31 => ?_)
      refine g_aload_n dX6_one_34 rfl rfl ?_
      refine g_iload_n dX6_one_35 rfl rfl ?_
      refine g_iload_n dX6_one_36 rfl rfl ?_
      refine g_Vv2 dX6_one_37 (sX6_one_37 l) rfl (by show 74 < 87; omega) (Nat.le_of_ble_eq_true rfl) (cX6_work l hm hz) ?_
      refine e_iinc (v := (z : Int)) (loc' := [gR (some 74), gI s, gI ((z : Int))]) dX6_one_40 (by decide) rfl (by rw [gadd_eq (by omega) (by omega)]; omega) rfl ?_
      refine g_goto (tgt := 30) dX6_one_43 (by decide) ?_
      exact ih (xWork M s (z + 1)) s Q (by omega) hm.work hk
  have key : ∀ M : Nat → Nat → Int, Wm M → ∀ e1 e2 : gV, G (gπ l) mX6_one 20 [gR (some 74), e1, e2] [] (hS L S M) 0 0 (fun r k9 => r = some none ∧ k9 = hS L S (xEnd (xZones (xZones M 0 12) 1 12))) := by
    intro M hm e1 e2
    refine g_iconst (x := 0) dX6_one_20 (by decide) ?_
    refine e_istore_n (loc' := [gR (some 74), gI 0, e2]) dX6_one_21 rfl (by decide) rfl ?_
    refine g_iload_n dX6_one_22 rfl rfl ?_
    refine g_iconst (x := 2) dX6_one_23 (by decide) ?_
    refine g_icmp_ge (tgt := 52) dX6_one_24 (by decide) (fun c24 => absurd c24 (by omega)) (fun c24 => ?_)
    refine g_bipush (x := 12) dX6_one_27 (by decide) ?_
    refine e_istore_n (loc' := [gR (some 74), gI 0, gI 12]) dX6_one_29 rfl (by decide) rfl ?_
    refine inner 12 (M) 0 _ (by omega) hm ?_
    refine e_iinc (v := 1) (loc' := [gR (some 74), gI (1), gI 0]) dX6_one_46 (by decide) rfl (by rw [gadd_eq (by omega) (by omega)]; rfl) rfl ?_
    refine g_goto (tgt := 22) dX6_one_49 (by decide) ?_
    refine g_iload_n dX6_one_22 rfl rfl ?_
    refine g_iconst (x := 2) dX6_one_23 (by decide) ?_
    refine g_icmp_ge (tgt := 52) dX6_one_24 (by decide) (fun c24 => absurd c24 (by omega)) (fun c24 => ?_)
    refine g_bipush (x := 12) dX6_one_27 (by decide) ?_
    refine e_istore_n (loc' := [gR (some 74), gI (1), gI 12]) dX6_one_29 rfl (by decide) rfl ?_
    refine inner 12 (xZones M 0 12) 1 _ (by omega) (Wm.zones (s := 0) 12 hm) ?_
    refine e_iinc (v := 2) (loc' := [gR (some 74), gI (2), gI 0]) dX6_one_46 (by decide) rfl (by rw [gadd_eq (by omega) (by omega)]; rfl) rfl ?_
    refine g_goto (tgt := 22) dX6_one_49 (by decide) ?_
    refine g_iload_n dX6_one_22 rfl rfl ?_
    refine g_iconst (x := 2) dX6_one_23 (by decide) ?_
    refine g_icmp_ge (tgt := 52) dX6_one_24 (by decide) (fun c24 => ?_) (fun c24 => absurd c24 (by omega))
    have hT := Wm.zones (s := 1) 12 (Wm.zones (s := 0) 12 hm)
    generalize xZones (xZones M 0 12) 1 12 = T at *
    refine g_aload_n dX6_one_52 rfl rfl ?_
    refine m_getI (x := T 74 14) dX6_one_53 (fX6_73 l) rfl rfl ⟨by omega, by omega⟩ rfl ?_
    refine g_if_ne (tgt := 66) dX6_one_56 (by decide) (fun c56 => ?_) (fun c56 => ?_)
    · refine g_iconst (x := 0) dX6_one_66 (by decide) ?_
      refine g_goto (tgt := 96) dX6_one_67 (by decide) ?_
      refine g_top (y := xTarget T) (by unfold xTarget; first | rw [if_pos c56] | (rw [if_neg (by simpa using c56)]; split at c63; (rename_i q; rw [if_pos q]); omega)) ?_
      refine e_istore_n (loc' := [gR (some 74), gI (xTarget T), gI 0]) dX6_one_96 rfl (by decide) rfl ?_
      refine g_aload_n dX6_one_97 rfl rfl ?_
      refine g_dupR dX6_one_98 ?_
      refine m_getI (x := T 74 17) dX6_one_99 (fX6_114 l) rfl rfl ⟨by omega, by omega⟩ rfl ?_
      refine g_iload_n dX6_one_102 rfl rfl ?_
      refine g_aload_n dX6_one_103 rfl rfl ?_
      refine m_getI (x := T 74 17) dX6_one_104 (fX6_114 l) rfl rfl ⟨by omega, by omega⟩ rfl ?_
      refine g_icmp_le (tgt := 114) dX6_one_107 (by decide) (fun c107 => ?_) (fun c107 => ?_)
      · refine g_iload_n dX6_one_114 rfl rfl ?_
        refine g_aload_n dX6_one_115 rfl rfl ?_
        refine m_getI (x := T 74 17) dX6_one_116 (fX6_114 l) rfl rfl ⟨by omega, by omega⟩ rfl ?_
        refine g_icmp_ge (tgt := 126) dX6_one_119 (by decide) (fun c119 => ?_) (fun c119 => ?_)
        · refine g_iconst (x := 0) dX6_one_126 (by decide) ?_
          refine e_iadd (v := gadd (T 74 17) 0) dX6_one_127 rfl ?_
          refine m_putI dX6_one_128 (fX6_114 l) gTX6 ⟨rfl, rfl⟩ rfl rfl ⟨by omega, by omega⟩ ?_
          refine g_aload_n dX6_one_131 rfl rfl ?_
          refine g_dupR dX6_one_132 ?_
          refine m_getI (x := T 74 18) dX6_one_133 (fX6_117 l) rfl rfl ⟨by omega, by omega⟩ (up_slot (by omega)) ?_
          refine g_iconst (x := 1) dX6_one_136 (by decide) ?_
          refine e_iadd (v := gadd (T 74 18) 1) dX6_one_137 rfl ?_
          refine m_putI dX6_one_138 (fX6_117 l) gTX6 ⟨rfl, rfl⟩ rfl rfl ⟨by omega, by omega⟩ ?_
          exact g_vret dX6_one_141 rfl ⟨rfl, congrArg (hS L S) (by unfold xEnd xStep; rw [if_neg (by omega), if_neg (by omega)])⟩
        · refine g_iconst (x := -1) dX6_one_122 (by decide) ?_
          refine g_goto (tgt := 127) dX6_one_123 (by decide) ?_
          refine e_iadd (v := gadd (T 74 17) (-1)) dX6_one_127 rfl ?_
          refine m_putI dX6_one_128 (fX6_114 l) gTX6 ⟨rfl, rfl⟩ rfl rfl ⟨by omega, by omega⟩ ?_
          refine g_aload_n dX6_one_131 rfl rfl ?_
          refine g_dupR dX6_one_132 ?_
          refine m_getI (x := T 74 18) dX6_one_133 (fX6_117 l) rfl rfl ⟨by omega, by omega⟩ (up_slot (by omega)) ?_
          refine g_iconst (x := 1) dX6_one_136 (by decide) ?_
          refine e_iadd (v := gadd (T 74 18) 1) dX6_one_137 rfl ?_
          refine m_putI dX6_one_138 (fX6_117 l) gTX6 ⟨rfl, rfl⟩ rfl rfl ⟨by omega, by omega⟩ ?_
          exact g_vret dX6_one_141 rfl ⟨rfl, congrArg (hS L S) (by unfold xEnd xStep; rw [if_neg (by omega), if_pos (by omega)])⟩
      · refine g_iconst (x := 1) dX6_one_110 (by decide) ?_
        refine g_goto (tgt := 127) dX6_one_111 (by decide) ?_
        refine e_iadd (v := gadd (T 74 17) 1) dX6_one_127 rfl ?_
        refine m_putI dX6_one_128 (fX6_114 l) gTX6 ⟨rfl, rfl⟩ rfl rfl ⟨by omega, by omega⟩ ?_
        refine g_aload_n dX6_one_131 rfl rfl ?_
        refine g_dupR dX6_one_132 ?_
        refine m_getI (x := T 74 18) dX6_one_133 (fX6_117 l) rfl rfl ⟨by omega, by omega⟩ (up_slot (by omega)) ?_
        refine g_iconst (x := 1) dX6_one_136 (by decide) ?_
        refine e_iadd (v := gadd (T 74 18) 1) dX6_one_137 rfl ?_
        refine m_putI dX6_one_138 (fX6_117 l) gTX6 ⟨rfl, rfl⟩ rfl rfl ⟨by omega, by omega⟩ ?_
        exact g_vret dX6_one_141 rfl ⟨rfl, congrArg (hS L S) (by unfold xEnd xStep; rw [if_pos (by omega)])⟩
    · refine g_aload_n dX6_one_59 rfl rfl ?_
      refine g_Vi0 dX6_one_60 (sX6_one_60 l) rfl (by show 74 < 87; omega) (Nat.le_of_ble_eq_true rfl) (cX6_isWaiting l) ?_
      refine g_if_eq (tgt := 70) dX6_one_63 (by decide) (fun c63 => ?_) (fun c63 => ?_)
      · refine g_aload_n dX6_one_70 rfl rfl ?_
        refine g_Vi0 dX6_one_71 (sX6_one_71 l) rfl (by show 74 < 87; omega) (Nat.le_of_ble_eq_true rfl) (cX6_middle l hT.2.2.1) ?_
        refine g_sipush (x := 180) dX6_one_74 (by decide) ?_
        refine g_icmp_le (tgt := 92) dX6_one_77 (by decide) (fun c77 => ?_) (fun c77 => ?_)
        · refine g_aload_n dX6_one_92 rfl rfl ?_
          refine m_getI (x := T 74 16) dX6_one_93 (fX6_111 l) rfl rfl ⟨by omega, by omega⟩ rfl ?_
          refine g_top (y := xTarget T) (by unfold xTarget; rw [if_neg (by simpa using c56)]; split at c63; omega; rename_i q; rw [if_neg q]; first | rw [if_pos c77] | (rw [if_neg (by omega)]; first | rw [if_pos c85] | rw [if_neg (by omega)])) ?_
          refine e_istore_n (loc' := [gR (some 74), gI (xTarget T), gI 0]) dX6_one_96 rfl (by decide) rfl ?_
          refine g_aload_n dX6_one_97 rfl rfl ?_
          refine g_dupR dX6_one_98 ?_
          refine m_getI (x := T 74 17) dX6_one_99 (fX6_114 l) rfl rfl ⟨by omega, by omega⟩ rfl ?_
          refine g_iload_n dX6_one_102 rfl rfl ?_
          refine g_aload_n dX6_one_103 rfl rfl ?_
          refine m_getI (x := T 74 17) dX6_one_104 (fX6_114 l) rfl rfl ⟨by omega, by omega⟩ rfl ?_
          refine g_icmp_le (tgt := 114) dX6_one_107 (by decide) (fun c107 => ?_) (fun c107 => ?_)
          · refine g_iload_n dX6_one_114 rfl rfl ?_
            refine g_aload_n dX6_one_115 rfl rfl ?_
            refine m_getI (x := T 74 17) dX6_one_116 (fX6_114 l) rfl rfl ⟨by omega, by omega⟩ rfl ?_
            refine g_icmp_ge (tgt := 126) dX6_one_119 (by decide) (fun c119 => ?_) (fun c119 => ?_)
            · refine g_iconst (x := 0) dX6_one_126 (by decide) ?_
              refine e_iadd (v := gadd (T 74 17) 0) dX6_one_127 rfl ?_
              refine m_putI dX6_one_128 (fX6_114 l) gTX6 ⟨rfl, rfl⟩ rfl rfl ⟨by omega, by omega⟩ ?_
              refine g_aload_n dX6_one_131 rfl rfl ?_
              refine g_dupR dX6_one_132 ?_
              refine m_getI (x := T 74 18) dX6_one_133 (fX6_117 l) rfl rfl ⟨by omega, by omega⟩ (up_slot (by omega)) ?_
              refine g_iconst (x := 1) dX6_one_136 (by decide) ?_
              refine e_iadd (v := gadd (T 74 18) 1) dX6_one_137 rfl ?_
              refine m_putI dX6_one_138 (fX6_117 l) gTX6 ⟨rfl, rfl⟩ rfl rfl ⟨by omega, by omega⟩ ?_
              exact g_vret dX6_one_141 rfl ⟨rfl, congrArg (hS L S) (by unfold xEnd xStep; rw [if_neg (by omega), if_neg (by omega)])⟩
            · refine g_iconst (x := -1) dX6_one_122 (by decide) ?_
              refine g_goto (tgt := 127) dX6_one_123 (by decide) ?_
              refine e_iadd (v := gadd (T 74 17) (-1)) dX6_one_127 rfl ?_
              refine m_putI dX6_one_128 (fX6_114 l) gTX6 ⟨rfl, rfl⟩ rfl rfl ⟨by omega, by omega⟩ ?_
              refine g_aload_n dX6_one_131 rfl rfl ?_
              refine g_dupR dX6_one_132 ?_
              refine m_getI (x := T 74 18) dX6_one_133 (fX6_117 l) rfl rfl ⟨by omega, by omega⟩ (up_slot (by omega)) ?_
              refine g_iconst (x := 1) dX6_one_136 (by decide) ?_
              refine e_iadd (v := gadd (T 74 18) 1) dX6_one_137 rfl ?_
              refine m_putI dX6_one_138 (fX6_117 l) gTX6 ⟨rfl, rfl⟩ rfl rfl ⟨by omega, by omega⟩ ?_
              exact g_vret dX6_one_141 rfl ⟨rfl, congrArg (hS L S) (by unfold xEnd xStep; rw [if_neg (by omega), if_pos (by omega)])⟩
          · refine g_iconst (x := 1) dX6_one_110 (by decide) ?_
            refine g_goto (tgt := 127) dX6_one_111 (by decide) ?_
            refine e_iadd (v := gadd (T 74 17) 1) dX6_one_127 rfl ?_
            refine m_putI dX6_one_128 (fX6_114 l) gTX6 ⟨rfl, rfl⟩ rfl rfl ⟨by omega, by omega⟩ ?_
            refine g_aload_n dX6_one_131 rfl rfl ?_
            refine g_dupR dX6_one_132 ?_
            refine m_getI (x := T 74 18) dX6_one_133 (fX6_117 l) rfl rfl ⟨by omega, by omega⟩ (up_slot (by omega)) ?_
            refine g_iconst (x := 1) dX6_one_136 (by decide) ?_
            refine e_iadd (v := gadd (T 74 18) 1) dX6_one_137 rfl ?_
            refine m_putI dX6_one_138 (fX6_117 l) gTX6 ⟨rfl, rfl⟩ rfl rfl ⟨by omega, by omega⟩ ?_
            exact g_vret dX6_one_141 rfl ⟨rfl, congrArg (hS L S) (by unfold xEnd xStep; rw [if_pos (by omega)])⟩
        · refine g_aload_n dX6_one_80 rfl rfl ?_
          refine m_getI (x := T 74 16) dX6_one_81 (fX6_111 l) rfl rfl ⟨by omega, by omega⟩ rfl ?_
          refine g_iconst (x := 2) dX6_one_84 (by decide) ?_
          refine g_icmp_le (tgt := 92) dX6_one_85 (by decide) (fun c85 => ?_) (fun c85 => ?_)
          · refine g_aload_n dX6_one_92 rfl rfl ?_
            refine m_getI (x := T 74 16) dX6_one_93 (fX6_111 l) rfl rfl ⟨by omega, by omega⟩ rfl ?_
            refine g_top (y := xTarget T) (by unfold xTarget; rw [if_neg (by simpa using c56)]; split at c63; omega; rename_i q; rw [if_neg q]; first | rw [if_pos c77] | (rw [if_neg (by omega)]; first | rw [if_pos c85] | rw [if_neg (by omega)])) ?_
            refine e_istore_n (loc' := [gR (some 74), gI (xTarget T), gI 0]) dX6_one_96 rfl (by decide) rfl ?_
            refine g_aload_n dX6_one_97 rfl rfl ?_
            refine g_dupR dX6_one_98 ?_
            refine m_getI (x := T 74 17) dX6_one_99 (fX6_114 l) rfl rfl ⟨by omega, by omega⟩ rfl ?_
            refine g_iload_n dX6_one_102 rfl rfl ?_
            refine g_aload_n dX6_one_103 rfl rfl ?_
            refine m_getI (x := T 74 17) dX6_one_104 (fX6_114 l) rfl rfl ⟨by omega, by omega⟩ rfl ?_
            refine g_icmp_le (tgt := 114) dX6_one_107 (by decide) (fun c107 => ?_) (fun c107 => ?_)
            · refine g_iload_n dX6_one_114 rfl rfl ?_
              refine g_aload_n dX6_one_115 rfl rfl ?_
              refine m_getI (x := T 74 17) dX6_one_116 (fX6_114 l) rfl rfl ⟨by omega, by omega⟩ rfl ?_
              refine g_icmp_ge (tgt := 126) dX6_one_119 (by decide) (fun c119 => ?_) (fun c119 => ?_)
              · refine g_iconst (x := 0) dX6_one_126 (by decide) ?_
                refine e_iadd (v := gadd (T 74 17) 0) dX6_one_127 rfl ?_
                refine m_putI dX6_one_128 (fX6_114 l) gTX6 ⟨rfl, rfl⟩ rfl rfl ⟨by omega, by omega⟩ ?_
                refine g_aload_n dX6_one_131 rfl rfl ?_
                refine g_dupR dX6_one_132 ?_
                refine m_getI (x := T 74 18) dX6_one_133 (fX6_117 l) rfl rfl ⟨by omega, by omega⟩ (up_slot (by omega)) ?_
                refine g_iconst (x := 1) dX6_one_136 (by decide) ?_
                refine e_iadd (v := gadd (T 74 18) 1) dX6_one_137 rfl ?_
                refine m_putI dX6_one_138 (fX6_117 l) gTX6 ⟨rfl, rfl⟩ rfl rfl ⟨by omega, by omega⟩ ?_
                exact g_vret dX6_one_141 rfl ⟨rfl, congrArg (hS L S) (by unfold xEnd xStep; rw [if_neg (by omega), if_neg (by omega)])⟩
              · refine g_iconst (x := -1) dX6_one_122 (by decide) ?_
                refine g_goto (tgt := 127) dX6_one_123 (by decide) ?_
                refine e_iadd (v := gadd (T 74 17) (-1)) dX6_one_127 rfl ?_
                refine m_putI dX6_one_128 (fX6_114 l) gTX6 ⟨rfl, rfl⟩ rfl rfl ⟨by omega, by omega⟩ ?_
                refine g_aload_n dX6_one_131 rfl rfl ?_
                refine g_dupR dX6_one_132 ?_
                refine m_getI (x := T 74 18) dX6_one_133 (fX6_117 l) rfl rfl ⟨by omega, by omega⟩ (up_slot (by omega)) ?_
                refine g_iconst (x := 1) dX6_one_136 (by decide) ?_
                refine e_iadd (v := gadd (T 74 18) 1) dX6_one_137 rfl ?_
                refine m_putI dX6_one_138 (fX6_117 l) gTX6 ⟨rfl, rfl⟩ rfl rfl ⟨by omega, by omega⟩ ?_
                exact g_vret dX6_one_141 rfl ⟨rfl, congrArg (hS L S) (by unfold xEnd xStep; rw [if_neg (by omega), if_pos (by omega)])⟩
            · refine g_iconst (x := 1) dX6_one_110 (by decide) ?_
              refine g_goto (tgt := 127) dX6_one_111 (by decide) ?_
              refine e_iadd (v := gadd (T 74 17) 1) dX6_one_127 rfl ?_
              refine m_putI dX6_one_128 (fX6_114 l) gTX6 ⟨rfl, rfl⟩ rfl rfl ⟨by omega, by omega⟩ ?_
              refine g_aload_n dX6_one_131 rfl rfl ?_
              refine g_dupR dX6_one_132 ?_
              refine m_getI (x := T 74 18) dX6_one_133 (fX6_117 l) rfl rfl ⟨by omega, by omega⟩ (up_slot (by omega)) ?_
              refine g_iconst (x := 1) dX6_one_136 (by decide) ?_
              refine e_iadd (v := gadd (T 74 18) 1) dX6_one_137 rfl ?_
              refine m_putI dX6_one_138 (fX6_117 l) gTX6 ⟨rfl, rfl⟩ rfl rfl ⟨by omega, by omega⟩ ?_
              exact g_vret dX6_one_141 rfl ⟨rfl, congrArg (hS L S) (by unfold xEnd xStep; rw [if_pos (by omega)])⟩
          · refine g_iconst (x := 2) dX6_one_88 (by decide) ?_
            refine g_goto (tgt := 96) dX6_one_89 (by decide) ?_
            refine g_top (y := xTarget T) (by unfold xTarget; rw [if_neg (by simpa using c56)]; split at c63; omega; rename_i q; rw [if_neg q]; first | rw [if_pos c77] | (rw [if_neg (by omega)]; first | rw [if_pos c85] | rw [if_neg (by omega)])) ?_
            refine e_istore_n (loc' := [gR (some 74), gI (xTarget T), gI 0]) dX6_one_96 rfl (by decide) rfl ?_
            refine g_aload_n dX6_one_97 rfl rfl ?_
            refine g_dupR dX6_one_98 ?_
            refine m_getI (x := T 74 17) dX6_one_99 (fX6_114 l) rfl rfl ⟨by omega, by omega⟩ rfl ?_
            refine g_iload_n dX6_one_102 rfl rfl ?_
            refine g_aload_n dX6_one_103 rfl rfl ?_
            refine m_getI (x := T 74 17) dX6_one_104 (fX6_114 l) rfl rfl ⟨by omega, by omega⟩ rfl ?_
            refine g_icmp_le (tgt := 114) dX6_one_107 (by decide) (fun c107 => ?_) (fun c107 => ?_)
            · refine g_iload_n dX6_one_114 rfl rfl ?_
              refine g_aload_n dX6_one_115 rfl rfl ?_
              refine m_getI (x := T 74 17) dX6_one_116 (fX6_114 l) rfl rfl ⟨by omega, by omega⟩ rfl ?_
              refine g_icmp_ge (tgt := 126) dX6_one_119 (by decide) (fun c119 => ?_) (fun c119 => ?_)
              · refine g_iconst (x := 0) dX6_one_126 (by decide) ?_
                refine e_iadd (v := gadd (T 74 17) 0) dX6_one_127 rfl ?_
                refine m_putI dX6_one_128 (fX6_114 l) gTX6 ⟨rfl, rfl⟩ rfl rfl ⟨by omega, by omega⟩ ?_
                refine g_aload_n dX6_one_131 rfl rfl ?_
                refine g_dupR dX6_one_132 ?_
                refine m_getI (x := T 74 18) dX6_one_133 (fX6_117 l) rfl rfl ⟨by omega, by omega⟩ (up_slot (by omega)) ?_
                refine g_iconst (x := 1) dX6_one_136 (by decide) ?_
                refine e_iadd (v := gadd (T 74 18) 1) dX6_one_137 rfl ?_
                refine m_putI dX6_one_138 (fX6_117 l) gTX6 ⟨rfl, rfl⟩ rfl rfl ⟨by omega, by omega⟩ ?_
                exact g_vret dX6_one_141 rfl ⟨rfl, congrArg (hS L S) (by unfold xEnd xStep; rw [if_neg (by omega), if_neg (by omega)])⟩
              · refine g_iconst (x := -1) dX6_one_122 (by decide) ?_
                refine g_goto (tgt := 127) dX6_one_123 (by decide) ?_
                refine e_iadd (v := gadd (T 74 17) (-1)) dX6_one_127 rfl ?_
                refine m_putI dX6_one_128 (fX6_114 l) gTX6 ⟨rfl, rfl⟩ rfl rfl ⟨by omega, by omega⟩ ?_
                refine g_aload_n dX6_one_131 rfl rfl ?_
                refine g_dupR dX6_one_132 ?_
                refine m_getI (x := T 74 18) dX6_one_133 (fX6_117 l) rfl rfl ⟨by omega, by omega⟩ (up_slot (by omega)) ?_
                refine g_iconst (x := 1) dX6_one_136 (by decide) ?_
                refine e_iadd (v := gadd (T 74 18) 1) dX6_one_137 rfl ?_
                refine m_putI dX6_one_138 (fX6_117 l) gTX6 ⟨rfl, rfl⟩ rfl rfl ⟨by omega, by omega⟩ ?_
                exact g_vret dX6_one_141 rfl ⟨rfl, congrArg (hS L S) (by unfold xEnd xStep; rw [if_neg (by omega), if_pos (by omega)])⟩
            · refine g_iconst (x := 1) dX6_one_110 (by decide) ?_
              refine g_goto (tgt := 127) dX6_one_111 (by decide) ?_
              refine e_iadd (v := gadd (T 74 17) 1) dX6_one_127 rfl ?_
              refine m_putI dX6_one_128 (fX6_114 l) gTX6 ⟨rfl, rfl⟩ rfl rfl ⟨by omega, by omega⟩ ?_
              refine g_aload_n dX6_one_131 rfl rfl ?_
              refine g_dupR dX6_one_132 ?_
              refine m_getI (x := T 74 18) dX6_one_133 (fX6_117 l) rfl rfl ⟨by omega, by omega⟩ (up_slot (by omega)) ?_
              refine g_iconst (x := 1) dX6_one_136 (by decide) ?_
              refine e_iadd (v := gadd (T 74 18) 1) dX6_one_137 rfl ?_
              refine m_putI dX6_one_138 (fX6_117 l) gTX6 ⟨rfl, rfl⟩ rfl rfl ⟨by omega, by omega⟩ ?_
              exact g_vret dX6_one_141 rfl ⟨rfl, congrArg (hS L S) (by unfold xEnd xStep; rw [if_pos (by omega)])⟩
      · refine g_iconst (x := 0) dX6_one_66 (by decide) ?_
        refine g_goto (tgt := 96) dX6_one_67 (by decide) ?_
        refine g_top (y := xTarget T) (by unfold xTarget; first | rw [if_pos c56] | (rw [if_neg (by simpa using c56)]; split at c63; (rename_i q; rw [if_pos q]); omega)) ?_
        refine e_istore_n (loc' := [gR (some 74), gI (xTarget T), gI 0]) dX6_one_96 rfl (by decide) rfl ?_
        refine g_aload_n dX6_one_97 rfl rfl ?_
        refine g_dupR dX6_one_98 ?_
        refine m_getI (x := T 74 17) dX6_one_99 (fX6_114 l) rfl rfl ⟨by omega, by omega⟩ rfl ?_
        refine g_iload_n dX6_one_102 rfl rfl ?_
        refine g_aload_n dX6_one_103 rfl rfl ?_
        refine m_getI (x := T 74 17) dX6_one_104 (fX6_114 l) rfl rfl ⟨by omega, by omega⟩ rfl ?_
        refine g_icmp_le (tgt := 114) dX6_one_107 (by decide) (fun c107 => ?_) (fun c107 => ?_)
        · refine g_iload_n dX6_one_114 rfl rfl ?_
          refine g_aload_n dX6_one_115 rfl rfl ?_
          refine m_getI (x := T 74 17) dX6_one_116 (fX6_114 l) rfl rfl ⟨by omega, by omega⟩ rfl ?_
          refine g_icmp_ge (tgt := 126) dX6_one_119 (by decide) (fun c119 => ?_) (fun c119 => ?_)
          · refine g_iconst (x := 0) dX6_one_126 (by decide) ?_
            refine e_iadd (v := gadd (T 74 17) 0) dX6_one_127 rfl ?_
            refine m_putI dX6_one_128 (fX6_114 l) gTX6 ⟨rfl, rfl⟩ rfl rfl ⟨by omega, by omega⟩ ?_
            refine g_aload_n dX6_one_131 rfl rfl ?_
            refine g_dupR dX6_one_132 ?_
            refine m_getI (x := T 74 18) dX6_one_133 (fX6_117 l) rfl rfl ⟨by omega, by omega⟩ (up_slot (by omega)) ?_
            refine g_iconst (x := 1) dX6_one_136 (by decide) ?_
            refine e_iadd (v := gadd (T 74 18) 1) dX6_one_137 rfl ?_
            refine m_putI dX6_one_138 (fX6_117 l) gTX6 ⟨rfl, rfl⟩ rfl rfl ⟨by omega, by omega⟩ ?_
            exact g_vret dX6_one_141 rfl ⟨rfl, congrArg (hS L S) (by unfold xEnd xStep; rw [if_neg (by omega), if_neg (by omega)])⟩
          · refine g_iconst (x := -1) dX6_one_122 (by decide) ?_
            refine g_goto (tgt := 127) dX6_one_123 (by decide) ?_
            refine e_iadd (v := gadd (T 74 17) (-1)) dX6_one_127 rfl ?_
            refine m_putI dX6_one_128 (fX6_114 l) gTX6 ⟨rfl, rfl⟩ rfl rfl ⟨by omega, by omega⟩ ?_
            refine g_aload_n dX6_one_131 rfl rfl ?_
            refine g_dupR dX6_one_132 ?_
            refine m_getI (x := T 74 18) dX6_one_133 (fX6_117 l) rfl rfl ⟨by omega, by omega⟩ (up_slot (by omega)) ?_
            refine g_iconst (x := 1) dX6_one_136 (by decide) ?_
            refine e_iadd (v := gadd (T 74 18) 1) dX6_one_137 rfl ?_
            refine m_putI dX6_one_138 (fX6_117 l) gTX6 ⟨rfl, rfl⟩ rfl rfl ⟨by omega, by omega⟩ ?_
            exact g_vret dX6_one_141 rfl ⟨rfl, congrArg (hS L S) (by unfold xEnd xStep; rw [if_neg (by omega), if_pos (by omega)])⟩
        · refine g_iconst (x := 1) dX6_one_110 (by decide) ?_
          refine g_goto (tgt := 127) dX6_one_111 (by decide) ?_
          refine e_iadd (v := gadd (T 74 17) 1) dX6_one_127 rfl ?_
          refine m_putI dX6_one_128 (fX6_114 l) gTX6 ⟨rfl, rfl⟩ rfl rfl ⟨by omega, by omega⟩ ?_
          refine g_aload_n dX6_one_131 rfl rfl ?_
          refine g_dupR dX6_one_132 ?_
          refine m_getI (x := T 74 18) dX6_one_133 (fX6_117 l) rfl rfl ⟨by omega, by omega⟩ (up_slot (by omega)) ?_
          refine g_iconst (x := 1) dX6_one_136 (by decide) ?_
          refine e_iadd (v := gadd (T 74 18) 1) dX6_one_137 rfl ?_
          refine m_putI dX6_one_138 (fX6_117 l) gTX6 ⟨rfl, rfl⟩ rfl rfl ⟨by omega, by omega⟩ ?_
          exact g_vret dX6_one_141 rfl ⟨rfl, congrArg (hS L S) (by unfold xEnd xStep; rw [if_pos (by omega)])⟩
  refine g_aload_n dX6_one_0 rfl rfl ?_
  refine g_Vi0 dX6_one_1 (sX6_one_1 l) rfl (by show 74 < 87; omega) (Nat.le_of_ble_eq_true rfl) (cX6_middle l hm.2.2.1) ?_
  refine g_sipush (x := 250) dX6_one_4 (by decide) ?_
  refine g_icmp_le (tgt := 20) dX6_one_7 (by decide) (fun c7 => ?_) (fun c7 => ?_)
  · rw [show xTick M = xEnd (xZones (xZones M 0 12) 1 12) from by unfold xTick xWind; rw [if_pos c7]]
    exact key M hm gU gU
  · refine g_aload_n dX6_one_10 rfl rfl ?_
    refine g_aload_n dX6_one_11 rfl rfl ?_
    refine m_getI (x := M 74 14) dX6_one_12 (fX6_73 l) rfl rfl ⟨by omega, by omega⟩ rfl ?_
    refine g_iconst (x := 4) dX6_one_15 (by decide) ?_
    refine e_ior (v := gor (M 74 14) 4) dX6_one_16 rfl ?_
    refine m_putI dX6_one_17 (fX6_73 l) gTX6 ⟨rfl, rfl⟩ rfl rfl ⟨by omega, by omega⟩ ?_
    rw [show xTick M = xEnd (xZones (xZones (up M 74 14 (gor (M 74 14) 4)) 0 12) 1 12) from by unfold xTick xWind; rw [if_neg (by omega)]]
    exact key _ (hm.fld (by omega)) gU gU
set_option maxHeartbeats 1000000 in
theorem cX6_tick (l : Launch) {L : Nat} {S : sT} {M : Nat → Nat → Int} {M0 : Nat → Nat → Int} (hM0 : M0 = up M 74 0 0) (hm : Wm M0) {t : Nat} (h1 : 1 ≤ t) (h2 : t ≤ 100) : gMi (gπ l) mX6_tick yX6_tick [gR (some 74), gI (t : Int)] (hS L S M) (xTicks M0 t 74 17) (hS L S (xTicks M0 t)) := by
  refine gMet_of pnX6 rfl rfl rfl (Nat.le_of_ble_eq_true rfl) (gAr (gAi gAn)) ?_
  show G (gπ l) mX6_tick 0 [gR (some 74), gI (t : Int), gU] [] (hS L S M) 0 0 _
  have loop : ∀ (m k : Nat) (M : Nat → Nat → Int), k + m = t → Wm M → G (gπ l) mX6_tick 26 [gR (some 74), gI (t : Int), gI (k : Int)] [] (hS L S M) 0 0 (fun r k9 => r = some (some (gI (xTicks M m 74 17))) ∧ k9 = hS L S (xTicks M m)) := by
    intro m
    induction m with
    | zero =>
      intro k M hk hm
      refine g_iload_n dX6_tick_26 rfl rfl ?_
      refine g_iload_n dX6_tick_27 rfl rfl ?_
      refine g_icmp_ge (tgt := 41) dX6_tick_28 (by decide) (fun c28 => ?_) (fun c28 => absurd c28 (by omega))
      refine g_aload_n dX6_tick_41 rfl rfl ?_
      refine m_getI (x := M 74 17) dX6_tick_42 (fX6_114 l) rfl rfl ⟨by omega, by omega⟩ rfl ?_
      exact g_iret dX6_tick_45 (Or.inl rfl) ⟨rfl, rfl⟩
    | succ m ih =>
      intro k M hk hm
      refine g_iload_n dX6_tick_26 rfl rfl ?_
      refine g_iload_n dX6_tick_27 rfl rfl ?_
      refine g_icmp_ge (tgt := 41) dX6_tick_28 (by decide) (fun c28 => absurd c28 (by omega)) (fun c28 => ?_)
      refine g_aload_n dX6_tick_31 rfl rfl ?_
      refine g_Vv0 dX6_tick_32 (sX6_tick_32 l) rfl (by show 74 < 87; omega) (Nat.le_of_ble_eq_true rfl) (cX6_one l hm) ?_
      refine e_iinc (v := ((k + 1 : Nat) : Int)) (loc' := [gR (some 74), gI (t : Int), gI (((k + 1 : Nat) : Int))]) dX6_tick_35 (by decide) rfl (gadd_nat (by omega)) rfl ?_
      refine g_goto (tgt := 26) dX6_tick_38 (by decide) ?_
      exact ih (k + 1) (xTick M) (by omega) hm.tick
  refine g_aload_n dX6_tick_0 rfl rfl ?_
  refine g_iload_n dX6_tick_1 rfl rfl ?_
  refine g_iconst (x := 1) dX6_tick_2 (by decide) ?_
  refine g_bipush (x := 100) dX6_tick_3 (by decide) ?_
  refine g_Si3 dX6_tick_5 (sX6_tick_5 l) (Nat.le_of_ble_eq_true rfl) (gMi_to 1 (cX6_isIn l) (by rw [if_pos ⟨by omega, by omega⟩])) ?_
  refine g_if_ne (tgt := 15) dX6_tick_8 (by decide) (fun c8 => ?_) (fun c8 => absurd c8 (by omega))
  refine g_iconst (x := 0) dX6_tick_15 (by decide) ?_
  refine g_Vi1 dX6_tick_16 (sX6_tick_16 l) rfl (by show 74 < 87; omega) (Nat.le_of_ble_eq_true rfl) (cX6_fails0 l hM0) ?_
  refine g_if_eq (tgt := 24) dX6_tick_19 (by decide) (fun c19 => ?_) (fun c19 => absurd c19 (by omega))
  refine g_iconst (x := 0) dX6_tick_24 (by decide) ?_
  refine e_istore_n (loc' := [gR (some 74), gI (t : Int), gI 0]) dX6_tick_25 rfl (by decide) rfl ?_
  exact loop t 0 M0 (by omega) hm
set_option maxHeartbeats 1000000 in
theorem cX6_tick_x (l : Launch) {L : Nat} {S : sT} {M : Nat → Nat → Int} {M1 : Nat → Nat → Int} (hM1 : M1 = up M 74 0 1) {v : Int} (h1 : ¬ (1 ≤ v ∧ v ≤ 100)) : gMi (gπ l) mX6_tick yX6_tick [gR (some 74), gI v] (hS L S M) (0) (hS L S M1) := by
  refine gMet_of pnX6 rfl rfl rfl (Nat.le_of_ble_eq_true rfl) (gAr (gAi gAn)) ?_
  show G (gπ l) mX6_tick 0 [gR (some 74), gI v, gU] [] (hS L S M) 0 0 _
  refine g_aload_n dX6_tick_0 rfl rfl ?_
  refine g_iload_n dX6_tick_1 rfl rfl ?_
  refine g_iconst (x := 1) dX6_tick_2 (by decide) ?_
  refine g_bipush (x := 100) dX6_tick_3 (by decide) ?_
  refine g_Si3 dX6_tick_5 (sX6_tick_5 l) (Nat.le_of_ble_eq_true rfl) (gMi_to 0 (cX6_isIn l) (by rw [if_neg h1])) ?_
  refine g_if_ne (tgt := 15) dX6_tick_8 (by decide) (fun c8 => absurd c8 (by omega)) (fun c8 => ?_)
  refine g_iconst (x := 1) dX6_tick_11 (by decide) ?_
  refine g_goto (tgt := 16) dX6_tick_12 (by decide) ?_
  refine g_Vi1 dX6_tick_16 (sX6_tick_16 l) rfl (by show 74 < 87; omega) (Nat.le_of_ble_eq_true rfl) (cX6_fails1 l hM1) ?_
  refine g_if_eq (tgt := 24) dX6_tick_19 (by decide) (fun c19 => absurd c19 (by omega)) (fun c19 => ?_)
  refine g_iconst (x := 0) dX6_tick_22 (by decide) ?_
  exact g_iret dX6_tick_23 (Or.inl rfl) ⟨rfl, rfl⟩
set_option maxHeartbeats 1000000 in
theorem cX6_pulse (l : Launch) {L : Nat} {S : sT} {M : Nat → Nat → Int} {M0 : Nat → Nat → Int} (hM0 : M0 = up M 74 0 0) {n : Int} (h1 : 0 ≤ n) (h2 : n ≤ 600) : gMi (gπ l) mX6_pulse yX6_pulse [gR (some 74), gI n] (hS L S M) ((xPulse M n).2) (hS L S ((xPulse M n).1)) := by
  refine gMet_of pnX6 rfl rfl rfl (Nat.le_of_ble_eq_true rfl) (gAr (gAi gAn)) ?_
  show G (gπ l) mX6_pulse 0 [gR (some 74), gI n, gU, gU] [] (hS L S M) 0 0 _
  have outer : ∀ (f : Nat) (M : Nat → Nat → Int) (v : Int) (Q : Option (Option gV) → gH → Prop), 0 ≤ v → v ≤ n → n - v ≤ f → ∀ e3 : gV, (∀ e : gV, G (gπ l) mX6_pulse 91 [gR (some 74), gI n, gI (xRun n f M v).2, e] [] (hS L S (xRun n f M v).1) 0 0 Q) → G (gπ l) mX6_pulse 31 [gR (some 74), gI n, gI v, e3] [] (hS L S M) 0 0 Q := by
    intro f
    induction f with
    | zero =>
      intro M v Q v1 v2 v3 e3 hk
      refine g_iload_n dX6_pulse_31 rfl rfl ?_
      refine g_iload_n dX6_pulse_32 rfl rfl ?_
      refine g_icmp_ge (tgt := 91) dX6_pulse_33 (by decide) (fun c33 => ?_) (fun c33 => absurd c33 (by omega))
      exact hk _
    | succ f ih =>
      intro M v Q v1 v2 v3 e3 hk
      have inner : ∀ (m k : Nat), k + m = 60 → G (gπ l) mX6_pulse 81 [gR (some 74), gI n, gI v, gI ((60 : Nat) : Int)] [] (hS L S (xAdv M 60)) 0 0 Q → G (gπ l) mX6_pulse 45 [gR (some 74), gI n, gI v, gI (k : Int)] [] (hS L S (xAdv M k)) 0 0 Q := by
        intro m
        induction m with
        | zero =>
          intro k hk hq
          obtain rfl : k = 60 := by omega
          refine g_iload_n dX6_pulse_45 rfl rfl ?_
          refine g_bipush (x := 60) dX6_pulse_46 (by decide) ?_
          refine g_icmp_ge (tgt := 81) dX6_pulse_48 (by decide) (fun c48 => ?_) (fun c48 => absurd c48 (by omega))
          exact hq
        | succ m ih2 =>
          intro k hk hq
          refine g_iload_n dX6_pulse_45 rfl rfl ?_
          refine g_bipush (x := 60) dX6_pulse_46 (by decide) ?_
          refine g_icmp_ge (tgt := 81) dX6_pulse_48 (by decide) (fun c48 => absurd c48 (by omega)) (fun c48 => ?_)
          refine g_aload_n dX6_pulse_51 rfl rfl ?_
          refine p_getR (o := some 76) dX6_pulse_52 (fX6_13 l) (by decide) rfl (by omega) rfl ?_
          refine g_iload_n dX6_pulse_55 rfl rfl ?_
          refine g_dup2 dX6_pulse_56 ?_
          refine m_iald (len := 60) (x := M 76 k) dX6_pulse_57 rfl ⟨by omega, by omega⟩ (by omega) (by omega) (by simp [xAdv]) ?_
          refine g_aload_n dX6_pulse_58 rfl rfl ?_
          refine p_getR (o := some 75) dX6_pulse_59 (fX6_7 l) (by decide) rfl (by omega) rfl ?_
          refine g_iload_n dX6_pulse_62 rfl rfl ?_
          refine m_iald (len := 60) (x := M 75 k) dX6_pulse_63 rfl ⟨by omega, by omega⟩ (by omega) (by omega) (by simp [xAdv]) ?_
          refine g_iconst (x := 3) dX6_pulse_64 (by decide) ?_
          refine g_icmp_ne (tgt := 72) dX6_pulse_65 (by decide) (fun c65 => ?_) (fun c65 => ?_)
          · refine g_iconst (x := 0) dX6_pulse_72 (by decide) ?_
            refine e_iadd (v := gadd (M 76 k) 0) dX6_pulse_73 rfl ?_
            refine m_iast (len := 60) dX6_pulse_74 rfl ⟨by omega, by omega⟩ (by omega) (by omega) ?_
            refine e_iinc (v := ((k + 1 : Nat) : Int)) (loc' := [gR (some 74), gI n, gI v, gI (((k + 1 : Nat) : Int))]) dX6_pulse_75 (by decide) rfl (gadd_nat (by omega)) rfl ?_
            refine g_goto (tgt := 45) dX6_pulse_78 (by decide) ?_
            refine g_eq rfl (by rw [← xAdv_put, if_neg c65]; rfl) (ih2 (k + 1) (by omega) hq)
          · refine g_iconst (x := 1) dX6_pulse_68 (by decide) ?_
            refine g_goto (tgt := 73) dX6_pulse_69 (by decide) ?_
            refine e_iadd (v := gadd (M 76 k) 1) dX6_pulse_73 rfl ?_
            refine m_iast (len := 60) dX6_pulse_74 rfl ⟨by omega, by omega⟩ (by omega) (by omega) ?_
            refine e_iinc (v := ((k + 1 : Nat) : Int)) (loc' := [gR (some 74), gI n, gI v, gI (((k + 1 : Nat) : Int))]) dX6_pulse_75 (by decide) rfl (gadd_nat (by omega)) rfl ?_
            refine g_goto (tgt := 45) dX6_pulse_78 (by decide) ?_
            refine g_eq rfl (by rw [← xAdv_put, if_pos c65]; rfl) (ih2 (k + 1) (by omega) hq)
      refine g_iload_n dX6_pulse_31 rfl rfl ?_
      refine g_iload_n dX6_pulse_32 rfl rfl ?_
      refine g_icmp_ge (tgt := 91) dX6_pulse_33 (by decide) (fun c33 => ?_) (fun c33 => ?_)
      · have e9 : xRun n (f + 1) M v = (M, v) := by rw [xRun]; first | rw [if_pos c33] | (rw [if_neg (by omega)]; split at c40; (rename_i q; rw [if_pos q]); omega)
        rw [e9] at hk
        exact hk _
      · refine g_aload_n dX6_pulse_36 rfl rfl ?_
        refine g_Vi0 dX6_pulse_37 (sX6_pulse_37 l) rfl (by show 74 < 87; omega) (Nat.le_of_ble_eq_true rfl) (cX6_isOver l) ?_
        refine g_if_ne (tgt := 91) dX6_pulse_40 (by decide) (fun c40 => ?_) (fun c40 => ?_)
        · have e9 : xRun n (f + 1) M v = (M, v) := by rw [xRun]; first | rw [if_pos c33] | (rw [if_neg (by omega)]; split at c40; (rename_i q; rw [if_pos q]); omega)
          rw [e9] at hk
          exact hk _
        · refine g_iconst (x := 0) dX6_pulse_43 (by decide) ?_
          refine e_istore_n (loc' := [gR (some 74), gI n, gI v, gI 0]) dX6_pulse_44 rfl (by decide) rfl ?_
          refine g_eq rfl (by rw [xAdv_0]) (inner 60 0 (by omega) ?_)
          refine e_iinc (v := v + 1) (loc' := [gR (some 74), gI n, gI (v + 1), gI ((60 : Nat) : Int)]) dX6_pulse_81 (by decide) rfl (gadd_eq (by omega) (by omega)) rfl ?_
          refine g_aload_n dX6_pulse_84 rfl rfl ?_
          refine g_Vv0 dX6_pulse_85 (sX6_pulse_85 l) rfl (by show 74 < 87; omega) (Nat.le_of_ble_eq_true rfl) (cX6_letGo l) ?_
          refine g_goto (tgt := 31) dX6_pulse_88 (by decide) ?_
          have e9 : xRun n (f + 1) M v = xRun n f (xGo (xAdv M 60)) (v + 1) := by rw [xRun, if_neg (by omega), if_neg (fun q => by rw [q] at c40; simp at c40)]
          rw [e9] at hk
          exact ih (xGo (xAdv M 60)) (v + 1) Q (by omega) (by omega) (by omega) _ hk
  refine g_aload_n dX6_pulse_0 rfl rfl ?_
  refine g_iload_n dX6_pulse_1 rfl rfl ?_
  refine g_iconst (x := 0) dX6_pulse_2 (by decide) ?_
  refine g_sipush (x := 600) dX6_pulse_3 (by decide) ?_
  refine g_Si3 dX6_pulse_6 (sX6_pulse_6 l) (Nat.le_of_ble_eq_true rfl) (gMi_to 1 (cX6_isIn l) (by rw [if_pos ⟨by omega, by omega⟩])) ?_
  refine g_if_ne (tgt := 16) dX6_pulse_9 (by decide) (fun c9 => ?_) (fun c9 => absurd c9 (by omega))
  refine g_iconst (x := 0) dX6_pulse_16 (by decide) ?_
  refine g_Vi1 dX6_pulse_17 (sX6_pulse_17 l) rfl (by show 74 < 87; omega) (Nat.le_of_ble_eq_true rfl) (cX6_fails0 l hM0) ?_
  refine g_if_eq (tgt := 25) dX6_pulse_20 (by decide) (fun c20 => ?_) (fun c20 => absurd c20 (by omega))
  refine g_aload_n dX6_pulse_25 rfl rfl ?_
  refine g_Vv0 dX6_pulse_26 (sX6_pulse_26 l) rfl (by show 74 < 87; omega) (Nat.le_of_ble_eq_true rfl) (cX6_letGo l) ?_
  refine g_iconst (x := 0) dX6_pulse_29 (by decide) ?_
  refine e_istore_n (loc' := [gR (some 74), gI n, gI 0, gU]) dX6_pulse_30 rfl (by decide) rfl ?_
  refine outer n.toNat (xGo M0) 0 _ (by omega) (by omega) (by omega) gU ?_
  intro e
  unfold xPulse
  rw [← hM0]
  generalize xRun n n.toNat (xGo M0) 0 = X
  dsimp only
  refine g_iload_n dX6_pulse_91 rfl rfl ?_
  refine g_iload_n dX6_pulse_92 rfl rfl ?_
  refine g_icmp_ge (tgt := 107) dX6_pulse_93 (by decide) (fun c93 => ?_) (fun c93 => ?_)
  · refine g_aload_n dX6_pulse_107 rfl rfl ?_
    refine g_dupR dX6_pulse_108 ?_
    refine m_getI (x := X.1 74 19) dX6_pulse_109 (fX6_76 l) rfl rfl ⟨by omega, by omega⟩ rfl ?_
    refine g_iload_n dX6_pulse_112 rfl rfl ?_
    refine e_iadd (v := gadd (X.1 74 19) X.2) dX6_pulse_113 rfl ?_
    refine m_putI dX6_pulse_114 (fX6_76 l) gTX6 ⟨rfl, rfl⟩ rfl rfl ⟨by omega, by omega⟩ ?_
    refine g_iload_n dX6_pulse_117 rfl rfl ?_
    exact g_iret dX6_pulse_118 (Or.inl rfl) ⟨rfl, congrArg (hS L S) (by rw [if_neg (by omega)])⟩
  · refine g_aload_n dX6_pulse_96 rfl rfl ?_
    refine g_aload_n dX6_pulse_97 rfl rfl ?_
    refine m_getI (x := X.1 74 14) dX6_pulse_98 (fX6_73 l) rfl rfl ⟨by omega, by omega⟩ rfl ?_
    refine g_bipush (x := 8) dX6_pulse_101 (by decide) ?_
    refine e_ior (v := gor (X.1 74 14) 8) dX6_pulse_103 rfl ?_
    refine m_putI dX6_pulse_104 (fX6_73 l) gTX6 ⟨rfl, rfl⟩ rfl rfl ⟨by omega, by omega⟩ ?_
    refine g_aload_n dX6_pulse_107 rfl rfl ?_
    refine g_dupR dX6_pulse_108 ?_
    refine m_getI (x := X.1 74 19) dX6_pulse_109 (fX6_76 l) rfl rfl ⟨by omega, by omega⟩ (up_slot (by omega)) ?_
    refine g_iload_n dX6_pulse_112 rfl rfl ?_
    refine e_iadd (v := gadd (X.1 74 19) X.2) dX6_pulse_113 rfl ?_
    refine m_putI dX6_pulse_114 (fX6_76 l) gTX6 ⟨rfl, rfl⟩ rfl rfl ⟨by omega, by omega⟩ ?_
    refine g_iload_n dX6_pulse_117 rfl rfl ?_
    exact g_iret dX6_pulse_118 (Or.inl rfl) ⟨rfl, congrArg (hS L S) (by rw [if_pos (by omega)])⟩
set_option maxHeartbeats 1000000 in
theorem cX6_pulse_x (l : Launch) {L : Nat} {S : sT} {M : Nat → Nat → Int} {M1 : Nat → Nat → Int} (hM1 : M1 = up M 74 0 1) {v : Int} (h1 : ¬ (0 ≤ v ∧ v ≤ 600)) : gMi (gπ l) mX6_pulse yX6_pulse [gR (some 74), gI v] (hS L S M) (0) (hS L S M1) := by
  refine gMet_of pnX6 rfl rfl rfl (Nat.le_of_ble_eq_true rfl) (gAr (gAi gAn)) ?_
  show G (gπ l) mX6_pulse 0 [gR (some 74), gI v, gU, gU] [] (hS L S M) 0 0 _
  refine g_aload_n dX6_pulse_0 rfl rfl ?_
  refine g_iload_n dX6_pulse_1 rfl rfl ?_
  refine g_iconst (x := 0) dX6_pulse_2 (by decide) ?_
  refine g_sipush (x := 600) dX6_pulse_3 (by decide) ?_
  refine g_Si3 dX6_pulse_6 (sX6_pulse_6 l) (Nat.le_of_ble_eq_true rfl) (gMi_to 0 (cX6_isIn l) (by rw [if_neg h1])) ?_
  refine g_if_ne (tgt := 16) dX6_pulse_9 (by decide) (fun c9 => absurd c9 (by omega)) (fun c9 => ?_)
  refine g_iconst (x := 1) dX6_pulse_12 (by decide) ?_
  refine g_goto (tgt := 17) dX6_pulse_13 (by decide) ?_
  refine g_Vi1 dX6_pulse_17 (sX6_pulse_17 l) rfl (by show 74 < 87; omega) (Nat.le_of_ble_eq_true rfl) (cX6_fails1 l hM1) ?_
  refine g_if_eq (tgt := 25) dX6_pulse_20 (by decide) (fun c20 => absurd c20 (by omega)) (fun c20 => ?_)
  refine g_iconst (x := 0) dX6_pulse_23 (by decide) ?_
  exact g_iret dX6_pulse_24 (Or.inl rfl) ⟨rfl, rfl⟩
def xGauge (M : Nat → Nat → Int) (s : Int) (a b : Int) : (Nat → Nat → Int) × Int := if xIn M s 12 < 0 then (M, 0) else if M 79 (xIn M s 12).toNat < 0 then (M, 0) else (up (up M 80 (xIn M s 12).toNat a) 81 (xIn M s 12).toNat b, 1)
set_option maxHeartbeats 1000000 in
theorem cX6_gauge (l : Launch) {L : Nat} {S : sT} {M : Nat → Nat → Int} {M0 : Nat → Nat → Int} (hM0 : M0 = up M 74 0 0) {s a b : Int} (hs : 0 ≤ s ∧ s ≤ 1) (ha : 0 ≤ a ∧ a ≤ 20000) (hb : 0 ≤ b ∧ b ≤ 20000) : gMi (gπ l) mX6_gauge yX6_gauge [gR (some 74), gI s, gI a, gI b] (hS L S M) ((xGauge M0 s a b).2) (hS L S ((xGauge M0 s a b).1)) := by
  refine gMet_of pnX6 rfl rfl rfl (Nat.le_of_ble_eq_true rfl) (gAr (gAi (gAi (gAi gAn)))) ?_
  show G (gπ l) mX6_gauge 0 [gR (some 74), gI s, gI a, gI b, gU] [] (hS L S M) 0 0 _
  refine g_aload_n dX6_gauge_0 rfl rfl ?_
  refine g_iload_n dX6_gauge_1 rfl rfl ?_
  refine g_Si1 dX6_gauge_2 (sX6_gauge_2 l) (Nat.le_of_ble_eq_true rfl) (gMi_to 1 (cX6_isStation l) (by rw [if_pos hs])) ?_
  refine g_if_eq (tgt := 30) dX6_gauge_5 (by decide) (fun c5 => absurd c5 (by omega)) (fun c5 => ?_)
  refine g_iload_n dX6_gauge_8 rfl rfl ?_
  refine g_iconst (x := 0) dX6_gauge_9 (by decide) ?_
  refine g_sipush (x := 20000) dX6_gauge_10 (by decide) ?_
  refine g_Si3 dX6_gauge_13 (sX6_gauge_13 l) (Nat.le_of_ble_eq_true rfl) (gMi_to 1 (cX6_isIn l) (by rw [if_pos ha])) ?_
  refine g_if_eq (tgt := 30) dX6_gauge_16 (by decide) (fun c16 => absurd c16 (by omega)) (fun c16 => ?_)
  refine g_iload_n dX6_gauge_19 rfl rfl ?_
  refine g_iconst (x := 0) dX6_gauge_20 (by decide) ?_
  refine g_sipush (x := 20000) dX6_gauge_21 (by decide) ?_
  refine g_Si3 dX6_gauge_24 (sX6_gauge_24 l) (Nat.le_of_ble_eq_true rfl) (gMi_to 1 (cX6_isIn l) (by rw [if_pos hb])) ?_
  refine g_if_ne (tgt := 34) dX6_gauge_27 (by decide) (fun c27 => ?_) (fun c27 => absurd c27 (by omega))
  refine g_iconst (x := 0) dX6_gauge_34 (by decide) ?_
  refine g_Vi1 dX6_gauge_35 (sX6_gauge_35 l) rfl (by show 74 < 87; omega) (Nat.le_of_ble_eq_true rfl) (cX6_fails0 l hM0) ?_
  refine g_if_eq (tgt := 43) dX6_gauge_38 (by decide) (fun c38 => ?_) (fun c38 => absurd c38 (by omega))
  refine g_aload_n dX6_gauge_43 rfl rfl ?_
  refine g_iload_n dX6_gauge_44 rfl rfl ?_
  refine g_bipush (x := 12) dX6_gauge_45 (by decide) ?_
  refine g_Vi2 dX6_gauge_47 (sX6_gauge_47 l) rfl (by show 74 < 87; omega) (Nat.le_of_ble_eq_true rfl) (cX6_in l) ?_
  refine e_istore (loc' := [gR (some 74), gI s, gI a, gI b, gI (xIn M0 s 12)]) dX6_gauge_50 (by decide) rfl ?_
  refine g_iload dX6_gauge_52 rfl ?_
  refine g_if_lt (tgt := 67) dX6_gauge_54 (by decide) (fun c54 => ?_) (fun c54 => ?_)
  · refine g_iconst (x := 0) dX6_gauge_67 (by decide) ?_
    exact g_iret dX6_gauge_68 (Or.inr ⟨rfl, Or.inl rfl⟩) ⟨congrArg gK1 (by rw [xGauge, if_pos c54]), congrArg (hS L S) (by rw [xGauge, if_pos c54])⟩
  · have hr := xIn_rng (M := M0) (s := s) (z := 12)
    obtain ⟨c, hc⟩ : ∃ c : Nat, xIn M0 s 12 = (c : Int) := ⟨(xIn M0 s 12).toNat, by omega⟩
    have e0 : (xIn M0 s 12).toNat = c := by omega
    have hc60 : c < 60 := by omega
    rw [hc]
    refine g_aload_n dX6_gauge_57 rfl rfl ?_
    refine p_getR (o := some 79) dX6_gauge_58 (fX6_22 l) (by decide) rfl (by omega) rfl ?_
    refine g_iload dX6_gauge_61 rfl ?_
    refine m_iald (len := 60) (x := M0 79 c) dX6_gauge_63 rfl ⟨by omega, by omega⟩ (by omega) (by omega) rfl ?_
    refine g_if_ge (tgt := 69) dX6_gauge_64 (by decide) (fun c64 => ?_) (fun c64 => ?_)
    · refine g_aload_n dX6_gauge_69 rfl rfl ?_
      refine p_getR (o := some 80) dX6_gauge_70 (fX6_25 l) (by decide) rfl (by omega) rfl ?_
      refine g_iload dX6_gauge_73 rfl ?_
      refine g_iload_n dX6_gauge_75 rfl rfl ?_
      refine m_iast (len := 60) dX6_gauge_76 rfl ⟨by omega, by omega⟩ (by omega) (by omega) ?_
      refine g_aload_n dX6_gauge_77 rfl rfl ?_
      refine p_getR (o := some 81) dX6_gauge_78 (fX6_28 l) (by decide) rfl (by omega) rfl ?_
      refine g_iload dX6_gauge_81 rfl ?_
      refine g_iload_n dX6_gauge_83 rfl rfl ?_
      refine m_iast (len := 60) dX6_gauge_84 rfl ⟨by omega, by omega⟩ (by omega) (by omega) ?_
      refine g_iconst (x := 1) dX6_gauge_85 (by decide) ?_
      exact g_iret dX6_gauge_86 (Or.inr ⟨rfl, Or.inr rfl⟩) ⟨congrArg gK1 (by rw [xGauge, if_neg (by omega), e0, if_neg (by omega)]), congrArg (hS L S) (by rw [xGauge, if_neg (by omega), e0, if_neg (by omega)]; first | done | rfl)⟩
    · refine g_iconst (x := 0) dX6_gauge_67 (by decide) ?_
      exact g_iret dX6_gauge_68 (Or.inr ⟨rfl, Or.inl rfl⟩) ⟨congrArg gK1 (by rw [xGauge, if_neg (by omega), e0, if_pos c64]), congrArg (hS L S) (by rw [xGauge, if_neg (by omega), e0, if_pos c64])⟩
set_option maxHeartbeats 1000000 in
theorem cX6_gauge_x (l : Launch) {L : Nat} {S : sT} {M : Nat → Nat → Int} {M1 : Nat → Nat → Int} (hM1 : M1 = up M 74 0 1) {s a b : Int} (hn : ¬ ((0 ≤ s ∧ s ≤ 1) ∧ (0 ≤ a ∧ a ≤ 20000) ∧ 0 ≤ b ∧ b ≤ 20000)) : gMi (gπ l) mX6_gauge yX6_gauge [gR (some 74), gI s, gI a, gI b] (hS L S M) (0) (hS L S M1) := by
  refine gMet_of pnX6 rfl rfl rfl (Nat.le_of_ble_eq_true rfl) (gAr (gAi (gAi (gAi gAn)))) ?_
  show G (gπ l) mX6_gauge 0 [gR (some 74), gI s, gI a, gI b, gU] [] (hS L S M) 0 0 _
  refine g_aload_n dX6_gauge_0 rfl rfl ?_
  refine g_iload_n dX6_gauge_1 rfl rfl ?_
  refine g_Si1 dX6_gauge_2 (sX6_gauge_2 l) (Nat.le_of_ble_eq_true rfl) (cX6_isStation l) ?_
  refine g_if_eq (tgt := 30) dX6_gauge_5 (by decide) (fun c5 => ?_) (fun c5 => ?_)
  · refine g_iconst (x := 1) dX6_gauge_30 (by decide) ?_
    refine g_goto (tgt := 35) dX6_gauge_31 (by decide) ?_
    refine g_Vi1 dX6_gauge_35 (sX6_gauge_35 l) rfl (by show 74 < 87; omega) (Nat.le_of_ble_eq_true rfl) (cX6_fails1 l hM1) ?_
    refine g_if_eq (tgt := 43) dX6_gauge_38 (by decide) (fun c38 => absurd c38 (by omega)) (fun c38 => ?_)
    refine g_iconst (x := 0) dX6_gauge_41 (by decide) ?_
    exact g_iret dX6_gauge_42 (Or.inr ⟨rfl, Or.inl rfl⟩) ⟨rfl, rfl⟩
  · refine g_iload_n dX6_gauge_8 rfl rfl ?_
    refine g_iconst (x := 0) dX6_gauge_9 (by decide) ?_
    refine g_sipush (x := 20000) dX6_gauge_10 (by decide) ?_
    refine g_Si3 dX6_gauge_13 (sX6_gauge_13 l) (Nat.le_of_ble_eq_true rfl) (cX6_isIn l) ?_
    refine g_if_eq (tgt := 30) dX6_gauge_16 (by decide) (fun c16 => ?_) (fun c16 => ?_)
    · refine g_iconst (x := 1) dX6_gauge_30 (by decide) ?_
      refine g_goto (tgt := 35) dX6_gauge_31 (by decide) ?_
      refine g_Vi1 dX6_gauge_35 (sX6_gauge_35 l) rfl (by show 74 < 87; omega) (Nat.le_of_ble_eq_true rfl) (cX6_fails1 l hM1) ?_
      refine g_if_eq (tgt := 43) dX6_gauge_38 (by decide) (fun c38 => absurd c38 (by omega)) (fun c38 => ?_)
      refine g_iconst (x := 0) dX6_gauge_41 (by decide) ?_
      exact g_iret dX6_gauge_42 (Or.inr ⟨rfl, Or.inl rfl⟩) ⟨rfl, rfl⟩
    · refine g_iload_n dX6_gauge_19 rfl rfl ?_
      refine g_iconst (x := 0) dX6_gauge_20 (by decide) ?_
      refine g_sipush (x := 20000) dX6_gauge_21 (by decide) ?_
      refine g_Si3 dX6_gauge_24 (sX6_gauge_24 l) (Nat.le_of_ble_eq_true rfl) (cX6_isIn l) ?_
      refine g_if_ne (tgt := 34) dX6_gauge_27 (by decide) (fun c27 => ?_) (fun c27 => ?_)
      · exfalso
        (split at c5) <;> (split at c16) <;> (split at c27) <;> omega
      · refine g_iconst (x := 1) dX6_gauge_30 (by decide) ?_
        refine g_goto (tgt := 35) dX6_gauge_31 (by decide) ?_
        refine g_Vi1 dX6_gauge_35 (sX6_gauge_35 l) rfl (by show 74 < 87; omega) (Nat.le_of_ble_eq_true rfl) (cX6_fails1 l hM1) ?_
        refine g_if_eq (tgt := 43) dX6_gauge_38 (by decide) (fun c38 => absurd c38 (by omega)) (fun c38 => ?_)
        refine g_iconst (x := 0) dX6_gauge_41 (by decide) ?_
        exact g_iret dX6_gauge_42 (Or.inr ⟨rfl, Or.inl rfl⟩) ⟨rfl, rfl⟩
set_option maxHeartbeats 1000000 in
theorem cX6_wind_x (l : Launch) {L : Nat} {S : sT} {M : Nat → Nat → Int} {M1 : Nat → Nat → Int} (hM1 : M1 = up M 74 0 1) {v : Int} (h1 : ¬ (0 ≤ v ∧ v ≤ 1000)) : gMv (gπ l) mX6_wind yX6_wind [gR (some 74), gI v] (hS L S M) (hS L S M1) := by
  refine gMet_of pnX6 rfl rfl rfl (Nat.le_of_ble_eq_true rfl) (gAr (gAi gAn)) ?_
  show G (gπ l) mX6_wind 0 [gR (some 74), gI v] [] (hS L S M) 0 0 _
  refine g_aload_n dX6_wind_0 rfl rfl ?_
  refine g_iload_n dX6_wind_1 rfl rfl ?_
  refine g_iconst (x := 0) dX6_wind_2 (by decide) ?_
  refine g_sipush (x := 1000) dX6_wind_3 (by decide) ?_
  refine g_Si3 dX6_wind_6 (sX6_wind_6 l) (Nat.le_of_ble_eq_true rfl) (gMi_to 0 (cX6_isIn l) (by rw [if_neg h1])) ?_
  refine g_if_ne (tgt := 16) dX6_wind_9 (by decide) (fun c9 => absurd c9 (by omega)) (fun c9 => ?_)
  refine g_iconst (x := 1) dX6_wind_12 (by decide) ?_
  refine g_goto (tgt := 17) dX6_wind_13 (by decide) ?_
  refine g_Vi1 dX6_wind_17 (sX6_wind_17 l) rfl (by show 74 < 87; omega) (Nat.le_of_ble_eq_true rfl) (cX6_fails1 l hM1) ?_
  refine g_if_eq (tgt := 24) dX6_wind_20 (by decide) (fun c20 => absurd c20 (by omega)) (fun c20 => ?_)
  exact g_vret dX6_wind_23 rfl ⟨rfl, rfl⟩
set_option maxHeartbeats 1000000 in
theorem cX6_wind (l : Launch) {L : Nat} {S : sT} {M : Nat → Nat → Int} {M0 : Nat → Nat → Int} (hM0 : M0 = up M 74 0 0) {v : Int} (h1 : 0 ≤ v ∧ v ≤ 1000) {rp : Nat} (hrp : M0 74 12 = (rp : Int)) (hr2 : rp < 2147483647) : gMv (gπ l) mX6_wind yX6_wind [gR (some 74), gI v] (hS L S M) (hS L S (up (up M0 85 (rp % 5) v) 74 12 ((rp + 1 : Nat) : Int))) := by
  refine gMet_of pnX6 rfl rfl rfl (Nat.le_of_ble_eq_true rfl) (gAr (gAi gAn)) ?_
  show G (gπ l) mX6_wind 0 [gR (some 74), gI v] [] (hS L S M) 0 0 _
  refine g_aload_n dX6_wind_0 rfl rfl ?_
  refine g_iload_n dX6_wind_1 rfl rfl ?_
  refine g_iconst (x := 0) dX6_wind_2 (by decide) ?_
  refine g_sipush (x := 1000) dX6_wind_3 (by decide) ?_
  refine g_Si3 dX6_wind_6 (sX6_wind_6 l) (Nat.le_of_ble_eq_true rfl) (gMi_to 1 (cX6_isIn l) (by rw [if_pos h1])) ?_
  refine g_if_ne (tgt := 16) dX6_wind_9 (by decide) (fun c9 => ?_) (fun c9 => absurd c9 (by omega))
  refine g_iconst (x := 0) dX6_wind_16 (by decide) ?_
  refine g_Vi1 dX6_wind_17 (sX6_wind_17 l) rfl (by show 74 < 87; omega) (Nat.le_of_ble_eq_true rfl) (cX6_fails0 l hM0) ?_
  refine g_if_eq (tgt := 24) dX6_wind_20 (by decide) (fun c20 => ?_) (fun c20 => absurd c20 (by omega))
  refine g_aload_n dX6_wind_24 rfl rfl ?_
  refine p_getR (o := some 85) dX6_wind_25 (fX6_40 l) (by decide) rfl (by omega) rfl ?_
  refine g_aload_n dX6_wind_28 rfl rfl ?_
  refine m_getI (x := (rp : Int)) dX6_wind_29 (fX6_82 l) rfl rfl ⟨by omega, by omega⟩ hrp ?_
  refine g_iconst (x := 5) dX6_wind_32 (by decide) ?_
  refine e_irem (v := ((rp % 5 : Nat) : Int)) dX6_wind_33 (by decide) (by rw [grem_eq (by omega) (by omega) (by omega) (by omega)]; omega) ?_
  refine g_iload_n dX6_wind_34 rfl rfl ?_
  refine m_iast (len := 5) dX6_wind_35 rfl ⟨by omega, by omega⟩ (by omega) (by omega) ?_
  refine g_aload_n dX6_wind_36 rfl rfl ?_
  refine g_dupR dX6_wind_37 ?_
  refine m_getI (x := (rp : Int)) dX6_wind_38 (fX6_82 l) rfl rfl ⟨by omega, by omega⟩ (by rw [up_cell (by omega)]; exact hrp) ?_
  refine g_iconst (x := 1) dX6_wind_41 (by decide) ?_
  refine e_iadd (v := ((rp + 1 : Nat) : Int)) dX6_wind_42 (gadd_nat (by omega)) ?_
  refine m_putI dX6_wind_43 (fX6_82 l) gTX6 ⟨rfl, rfl⟩ rfl rfl ⟨by omega, by omega⟩ ?_
  exact g_vret dX6_wind_46 rfl ⟨rfl, rfl⟩
set_option maxHeartbeats 1000000 in
theorem cX6_drive_x (l : Launch) {L : Nat} {S : sT} {M : Nat → Nat → Int} {M1 : Nat → Nat → Int} (hM1 : M1 = up M 74 0 1) {v : Int} (h1 : ¬ (0 ≤ v ∧ v ≤ 5)) : gMi (gπ l) mX6_drive yX6_drive [gR (some 74), gI v] (hS L S M) (0) (hS L S M1) := by
  refine gMet_of pnX6 rfl rfl rfl (Nat.le_of_ble_eq_true rfl) (gAr (gAi gAn)) ?_
  show G (gπ l) mX6_drive 0 [gR (some 74), gI v] [] (hS L S M) 0 0 _
  refine g_aload_n dX6_drive_0 rfl rfl ?_
  refine g_iload_n dX6_drive_1 rfl rfl ?_
  refine g_iconst (x := 0) dX6_drive_2 (by decide) ?_
  refine g_iconst (x := 5) dX6_drive_3 (by decide) ?_
  refine g_Si3 dX6_drive_4 (sX6_drive_4 l) (Nat.le_of_ble_eq_true rfl) (gMi_to 0 (cX6_isIn l) (by rw [if_neg h1])) ?_
  refine g_if_ne (tgt := 14) dX6_drive_7 (by decide) (fun c7 => absurd c7 (by omega)) (fun c7 => ?_)
  refine g_iconst (x := 1) dX6_drive_10 (by decide) ?_
  refine g_goto (tgt := 15) dX6_drive_11 (by decide) ?_
  refine g_Vi1 dX6_drive_15 (sX6_drive_15 l) rfl (by show 74 < 87; omega) (Nat.le_of_ble_eq_true rfl) (cX6_fails1 l hM1) ?_
  refine g_if_ne (tgt := 28) dX6_drive_18 (by decide) (fun c18 => ?_) (fun c18 => absurd c18 (by omega))
  refine g_iconst (x := 0) dX6_drive_28 (by decide) ?_
  exact g_iret dX6_drive_29 (Or.inr ⟨rfl, Or.inl rfl⟩) ⟨rfl, rfl⟩
set_option maxHeartbeats 1000000 in
theorem cX6_drive_1 (l : Launch) {L : Nat} {S : sT} {M : Nat → Nat → Int} {M0 : Nat → Nat → Int} (hM0 : M0 = up M 74 0 0) {v : Int} (h1 : 0 ≤ v ∧ v ≤ 5) (hl : M0 74 14 = 0) : gMi (gπ l) mX6_drive yX6_drive [gR (some 74), gI v] (hS L S M) (1) (hS L S (up M0 74 16 v)) := by
  refine gMet_of pnX6 rfl rfl rfl (Nat.le_of_ble_eq_true rfl) (gAr (gAi gAn)) ?_
  show G (gπ l) mX6_drive 0 [gR (some 74), gI v] [] (hS L S M) 0 0 _
  refine g_aload_n dX6_drive_0 rfl rfl ?_
  refine g_iload_n dX6_drive_1 rfl rfl ?_
  refine g_iconst (x := 0) dX6_drive_2 (by decide) ?_
  refine g_iconst (x := 5) dX6_drive_3 (by decide) ?_
  refine g_Si3 dX6_drive_4 (sX6_drive_4 l) (Nat.le_of_ble_eq_true rfl) (gMi_to 1 (cX6_isIn l) (by rw [if_pos h1])) ?_
  refine g_if_ne (tgt := 14) dX6_drive_7 (by decide) (fun c7 => ?_) (fun c7 => absurd c7 (by omega))
  refine g_iconst (x := 0) dX6_drive_14 (by decide) ?_
  refine g_Vi1 dX6_drive_15 (sX6_drive_15 l) rfl (by show 74 < 87; omega) (Nat.le_of_ble_eq_true rfl) (cX6_fails0 l hM0) ?_
  refine g_if_ne (tgt := 28) dX6_drive_18 (by decide) (fun c18 => absurd c18 (by omega)) (fun c18 => ?_)
  refine g_aload_n dX6_drive_21 rfl rfl ?_
  refine m_getI (x := M0 74 14) dX6_drive_22 (fX6_73 l) rfl rfl ⟨by omega, by omega⟩ rfl ?_
  refine g_if_eq (tgt := 30) dX6_drive_25 (by decide) (fun c25 => ?_) (fun c25 => absurd c25 (by omega))
  refine g_aload_n dX6_drive_30 rfl rfl ?_
  refine g_iload_n dX6_drive_31 rfl rfl ?_
  refine m_putI dX6_drive_32 (fX6_111 l) gTX6 ⟨rfl, rfl⟩ rfl rfl ⟨by omega, by omega⟩ ?_
  refine g_iconst (x := 1) dX6_drive_35 (by decide) ?_
  exact g_iret dX6_drive_36 (Or.inr ⟨rfl, Or.inr rfl⟩) ⟨rfl, rfl⟩
set_option maxHeartbeats 1000000 in
theorem cX6_drive_0 (l : Launch) {L : Nat} {S : sT} {M : Nat → Nat → Int} {M0 : Nat → Nat → Int} (hM0 : M0 = up M 74 0 0) {v : Int} (h1 : 0 ≤ v ∧ v ≤ 5) (hl : M0 74 14 ≠ 0) : gMi (gπ l) mX6_drive yX6_drive [gR (some 74), gI v] (hS L S M) (0) (hS L S M0) := by
  refine gMet_of pnX6 rfl rfl rfl (Nat.le_of_ble_eq_true rfl) (gAr (gAi gAn)) ?_
  show G (gπ l) mX6_drive 0 [gR (some 74), gI v] [] (hS L S M) 0 0 _
  refine g_aload_n dX6_drive_0 rfl rfl ?_
  refine g_iload_n dX6_drive_1 rfl rfl ?_
  refine g_iconst (x := 0) dX6_drive_2 (by decide) ?_
  refine g_iconst (x := 5) dX6_drive_3 (by decide) ?_
  refine g_Si3 dX6_drive_4 (sX6_drive_4 l) (Nat.le_of_ble_eq_true rfl) (gMi_to 1 (cX6_isIn l) (by rw [if_pos h1])) ?_
  refine g_if_ne (tgt := 14) dX6_drive_7 (by decide) (fun c7 => ?_) (fun c7 => absurd c7 (by omega))
  refine g_iconst (x := 0) dX6_drive_14 (by decide) ?_
  refine g_Vi1 dX6_drive_15 (sX6_drive_15 l) rfl (by show 74 < 87; omega) (Nat.le_of_ble_eq_true rfl) (cX6_fails0 l hM0) ?_
  refine g_if_ne (tgt := 28) dX6_drive_18 (by decide) (fun c18 => absurd c18 (by omega)) (fun c18 => ?_)
  refine g_aload_n dX6_drive_21 rfl rfl ?_
  refine m_getI (x := M0 74 14) dX6_drive_22 (fX6_73 l) rfl rfl ⟨by omega, by omega⟩ rfl ?_
  refine g_if_eq (tgt := 30) dX6_drive_25 (by decide) (fun c25 => absurd c25 (by omega)) (fun c25 => ?_)
  refine g_iconst (x := 0) dX6_drive_28 (by decide) ?_
  exact g_iret dX6_drive_29 (Or.inr ⟨rfl, Or.inl rfl⟩) ⟨rfl, rfl⟩
set_option maxHeartbeats 1000000 in
theorem cX6_bring_x (l : Launch) {L : Nat} {S : sT} {M : Nat → Nat → Int} {M1 : Nat → Nat → Int} (hM1 : M1 = up M 74 0 1) {c : Int} (h1 : ¬ (0 ≤ c ∧ c ≤ 59)) : gMi (gπ l) mX6_bring yX6_bring [gR (some 74), gI c] (hS L S M) (0) (hS L S M1) := by
  refine gMet_of pnX6 rfl rfl rfl (Nat.le_of_ble_eq_true rfl) (gAr (gAi gAn)) ?_
  show G (gπ l) mX6_bring 0 [gR (some 74), gI c] [] (hS L S M) 0 0 _
  refine g_aload_n dX6_bring_0 rfl rfl ?_
  refine g_iload_n dX6_bring_1 rfl rfl ?_
  refine g_Si1 dX6_bring_2 (sX6_bring_2 l) (Nat.le_of_ble_eq_true rfl) (gMi_to 0 (cX6_isCabin l) (by rw [if_neg h1])) ?_
  refine g_if_ne (tgt := 12) dX6_bring_5 (by decide) (fun c5 => absurd c5 (by omega)) (fun c5 => ?_)
  refine g_iconst (x := 1) dX6_bring_8 (by decide) ?_
  refine g_goto (tgt := 13) dX6_bring_9 (by decide) ?_
  refine g_Vi1 dX6_bring_13 (sX6_bring_13 l) rfl (by show 74 < 87; omega) (Nat.le_of_ble_eq_true rfl) (cX6_fails1 l hM1) ?_
  refine g_if_ne (tgt := 37) dX6_bring_16 (by decide) (fun c16 => ?_) (fun c16 => absurd c16 (by omega))
  refine g_iconst (x := 0) dX6_bring_37 (by decide) ?_
  exact g_iret dX6_bring_38 (Or.inr ⟨rfl, Or.inl rfl⟩) ⟨rfl, rfl⟩
set_option maxHeartbeats 1000000 in
theorem cX6_bring_1 (l : Launch) {L : Nat} {S : sT} {M : Nat → Nat → Int} {M0 : Nat → Nat → Int} (hM0 : M0 = up M 74 0 0) (hm : Wm M0) {c : Nat} (hc : c < 60) (g1 : M0 75 c = 0) (g2 : M0 74 10 < 20) : gMi (gπ l) mX6_bring yX6_bring [gR (some 74), gI (c : Int)] (hS L S M) (1) (hS L S (xSide M0 c)) := by
  refine gMet_of pnX6 rfl rfl rfl (Nat.le_of_ble_eq_true rfl) (gAr (gAi gAn)) ?_
  show G (gπ l) mX6_bring 0 [gR (some 74), gI (c : Int)] [] (hS L S M) 0 0 _
  refine g_aload_n dX6_bring_0 rfl rfl ?_
  refine g_iload_n dX6_bring_1 rfl rfl ?_
  refine g_Si1 dX6_bring_2 (sX6_bring_2 l) (Nat.le_of_ble_eq_true rfl) (gMi_to 1 (cX6_isCabin l) (by rw [if_pos ⟨by omega, by omega⟩])) ?_
  refine g_if_ne (tgt := 12) dX6_bring_5 (by decide) (fun c5 => ?_) (fun c5 => absurd c5 (by omega))
  refine g_iconst (x := 0) dX6_bring_12 (by decide) ?_
  refine g_Vi1 dX6_bring_13 (sX6_bring_13 l) rfl (by show 74 < 87; omega) (Nat.le_of_ble_eq_true rfl) (cX6_fails0 l hM0) ?_
  refine g_if_ne (tgt := 37) dX6_bring_16 (by decide) (fun c16 => absurd c16 (by omega)) (fun c16 => ?_)
  refine g_aload_n dX6_bring_19 rfl rfl ?_
  refine p_getR (o := some 75) dX6_bring_20 (fX6_7 l) (by decide) rfl (by omega) rfl ?_
  refine g_iload_n dX6_bring_23 rfl rfl ?_
  refine m_iald (len := 60) (x := M0 75 c) dX6_bring_24 rfl ⟨by omega, by omega⟩ (by omega) (by omega) rfl ?_
  refine g_if_ne (tgt := 37) dX6_bring_25 (by decide) (fun c25 => absurd c25 (by omega)) (fun c25 => ?_)
  refine g_aload_n dX6_bring_28 rfl rfl ?_
  refine m_getI (x := M0 74 10) dX6_bring_29 (fX6_79 l) rfl rfl ⟨by omega, by omega⟩ rfl ?_
  refine g_bipush (x := 20) dX6_bring_32 (by decide) ?_
  refine g_icmp_ne (tgt := 39) dX6_bring_34 (by decide) (fun c34 => ?_) (fun c34 => absurd c34 (by omega))
  refine g_aload_n dX6_bring_39 rfl rfl ?_
  refine g_iload_n dX6_bring_40 rfl rfl ?_
  refine g_Vv1 dX6_bring_41 (sX6_bring_41 l) rfl (by show 74 < 87; omega) (Nat.le_of_ble_eq_true rfl) (cX6_toSiding l hc hm.1.1 g2) ?_
  refine g_iconst (x := 1) dX6_bring_44 (by decide) ?_
  exact g_iret dX6_bring_45 (Or.inr ⟨rfl, Or.inr rfl⟩) ⟨rfl, rfl⟩
set_option maxHeartbeats 1000000 in
theorem cX6_bring_0 (l : Launch) {L : Nat} {S : sT} {M : Nat → Nat → Int} {M0 : Nat → Nat → Int} (hM0 : M0 = up M 74 0 0) {c : Nat} (hc : c < 60) (hn : ¬ (M0 75 c = 0 ∧ M0 74 10 ≠ 20)) : gMi (gπ l) mX6_bring yX6_bring [gR (some 74), gI (c : Int)] (hS L S M) (0) (hS L S M0) := by
  refine gMet_of pnX6 rfl rfl rfl (Nat.le_of_ble_eq_true rfl) (gAr (gAi gAn)) ?_
  show G (gπ l) mX6_bring 0 [gR (some 74), gI (c : Int)] [] (hS L S M) 0 0 _
  refine g_aload_n dX6_bring_0 rfl rfl ?_
  refine g_iload_n dX6_bring_1 rfl rfl ?_
  refine g_Si1 dX6_bring_2 (sX6_bring_2 l) (Nat.le_of_ble_eq_true rfl) (gMi_to 1 (cX6_isCabin l) (by rw [if_pos ⟨by omega, by omega⟩])) ?_
  refine g_if_ne (tgt := 12) dX6_bring_5 (by decide) (fun c5 => ?_) (fun c5 => absurd c5 (by omega))
  refine g_iconst (x := 0) dX6_bring_12 (by decide) ?_
  refine g_Vi1 dX6_bring_13 (sX6_bring_13 l) rfl (by show 74 < 87; omega) (Nat.le_of_ble_eq_true rfl) (cX6_fails0 l hM0) ?_
  refine g_if_ne (tgt := 37) dX6_bring_16 (by decide) (fun c16 => absurd c16 (by omega)) (fun c16 => ?_)
  refine g_aload_n dX6_bring_19 rfl rfl ?_
  refine p_getR (o := some 75) dX6_bring_20 (fX6_7 l) (by decide) rfl (by omega) rfl ?_
  refine g_iload_n dX6_bring_23 rfl rfl ?_
  refine m_iald (len := 60) (x := M0 75 c) dX6_bring_24 rfl ⟨by omega, by omega⟩ (by omega) (by omega) rfl ?_
  refine g_if_ne (tgt := 37) dX6_bring_25 (by decide) (fun c25 => ?_) (fun c25 => ?_)
  · refine g_iconst (x := 0) dX6_bring_37 (by decide) ?_
    exact g_iret dX6_bring_38 (Or.inr ⟨rfl, Or.inl rfl⟩) ⟨rfl, rfl⟩
  · refine g_aload_n dX6_bring_28 rfl rfl ?_
    refine m_getI (x := M0 74 10) dX6_bring_29 (fX6_79 l) rfl rfl ⟨by omega, by omega⟩ rfl ?_
    refine g_bipush (x := 20) dX6_bring_32 (by decide) ?_
    refine g_icmp_ne (tgt := 39) dX6_bring_34 (by decide) (fun c34 => absurd c34 (by omega)) (fun c34 => ?_)
    refine g_iconst (x := 0) dX6_bring_37 (by decide) ?_
    exact g_iret dX6_bring_38 (Or.inr ⟨rfl, Or.inl rfl⟩) ⟨rfl, rfl⟩
set_option maxHeartbeats 1000000 in
theorem cX6_takeOff_x (l : Launch) {L : Nat} {S : sT} {M : Nat → Nat → Int} {M1 : Nat → Nat → Int} (hM1 : M1 = up M 74 0 1) {s c : Int} (hn : ¬ ((0 ≤ s ∧ s ≤ 1) ∧ 0 ≤ c ∧ c ≤ 59)) : gMi (gπ l) mX6_takeOff yX6_takeOff [gR (some 74), gI s, gI c] (hS L S M) (0) (hS L S M1) := by
  refine gMet_of pnX6 rfl rfl rfl (Nat.le_of_ble_eq_true rfl) (gAr (gAi (gAi gAn))) ?_
  show G (gπ l) mX6_takeOff 0 [gR (some 74), gI s, gI c] [] (hS L S M) 0 0 _
  refine g_aload_n dX6_takeOff_0 rfl rfl ?_
  refine g_iload_n dX6_takeOff_1 rfl rfl ?_
  refine g_Si1 dX6_takeOff_2 (sX6_takeOff_2 l) (Nat.le_of_ble_eq_true rfl) (cX6_isStation l) ?_
  refine g_if_eq (tgt := 15) dX6_takeOff_5 (by decide) (fun c5 => ?_) (fun c5 => ?_)
  · refine g_iconst (x := 1) dX6_takeOff_15 (by decide) ?_
    refine g_goto (tgt := 20) dX6_takeOff_16 (by decide) ?_
    refine g_Vi1 dX6_takeOff_20 (sX6_takeOff_20 l) rfl (by show 74 < 87; omega) (Nat.le_of_ble_eq_true rfl) (cX6_fails1 l hM1) ?_
    refine g_if_ne (tgt := 70) dX6_takeOff_23 (by decide) (fun c23 => ?_) (fun c23 => absurd c23 (by omega))
    refine g_iconst (x := 0) dX6_takeOff_70 (by decide) ?_
    exact g_iret dX6_takeOff_71 (Or.inr ⟨rfl, Or.inl rfl⟩) ⟨rfl, rfl⟩
  · refine g_iload_n dX6_takeOff_8 rfl rfl ?_
    refine g_Si1 dX6_takeOff_9 (sX6_takeOff_9 l) (Nat.le_of_ble_eq_true rfl) (cX6_isCabin l) ?_
    refine g_if_ne (tgt := 19) dX6_takeOff_12 (by decide) (fun c12 => ?_) (fun c12 => ?_)
    · exfalso
      (split at c5) <;> (split at c12) <;> omega
    · refine g_iconst (x := 1) dX6_takeOff_15 (by decide) ?_
      refine g_goto (tgt := 20) dX6_takeOff_16 (by decide) ?_
      refine g_Vi1 dX6_takeOff_20 (sX6_takeOff_20 l) rfl (by show 74 < 87; omega) (Nat.le_of_ble_eq_true rfl) (cX6_fails1 l hM1) ?_
      refine g_if_ne (tgt := 70) dX6_takeOff_23 (by decide) (fun c23 => ?_) (fun c23 => absurd c23 (by omega))
      refine g_iconst (x := 0) dX6_takeOff_70 (by decide) ?_
      exact g_iret dX6_takeOff_71 (Or.inr ⟨rfl, Or.inl rfl⟩) ⟨rfl, rfl⟩
set_option maxHeartbeats 1000000 in
theorem cX6_takeOff_0 (l : Launch) {L : Nat} {S : sT} {M : Nat → Nat → Int} {M0 : Nat → Nat → Int} (hM0 : M0 = up M 74 0 0) {s : Int} (hs : 0 ≤ s ∧ s ≤ 1) {c : Nat} (hc : c < 60) (hn : ¬ (M0 75 c = 2 ∧ M0 77 c = s ∧ 5 ≤ M0 76 c ∧ M0 76 c ≤ 8 ∧ M0 74 10 ≠ 20)) : gMi (gπ l) mX6_takeOff yX6_takeOff [gR (some 74), gI s, gI (c : Int)] (hS L S M) (0) (hS L S M0) := by
  refine gMet_of pnX6 rfl rfl rfl (Nat.le_of_ble_eq_true rfl) (gAr (gAi (gAi gAn))) ?_
  show G (gπ l) mX6_takeOff 0 [gR (some 74), gI s, gI (c : Int)] [] (hS L S M) 0 0 _
  refine g_aload_n dX6_takeOff_0 rfl rfl ?_
  refine g_iload_n dX6_takeOff_1 rfl rfl ?_
  refine g_Si1 dX6_takeOff_2 (sX6_takeOff_2 l) (Nat.le_of_ble_eq_true rfl) (gMi_to 1 (cX6_isStation l) (by rw [if_pos hs])) ?_
  refine g_if_eq (tgt := 15) dX6_takeOff_5 (by decide) (fun c5 => absurd c5 (by omega)) (fun c5 => ?_)
  refine g_iload_n dX6_takeOff_8 rfl rfl ?_
  refine g_Si1 dX6_takeOff_9 (sX6_takeOff_9 l) (Nat.le_of_ble_eq_true rfl) (gMi_to 1 (cX6_isCabin l) (by rw [if_pos ⟨by omega, by omega⟩])) ?_
  refine g_if_ne (tgt := 19) dX6_takeOff_12 (by decide) (fun c12 => ?_) (fun c12 => absurd c12 (by omega))
  refine g_iconst (x := 0) dX6_takeOff_19 (by decide) ?_
  refine g_Vi1 dX6_takeOff_20 (sX6_takeOff_20 l) rfl (by show 74 < 87; omega) (Nat.le_of_ble_eq_true rfl) (cX6_fails0 l hM0) ?_
  refine g_if_ne (tgt := 70) dX6_takeOff_23 (by decide) (fun c23 => absurd c23 (by omega)) (fun c23 => ?_)
  refine g_aload_n dX6_takeOff_26 rfl rfl ?_
  refine p_getR (o := some 75) dX6_takeOff_27 (fX6_7 l) (by decide) rfl (by omega) rfl ?_
  refine g_iload_n dX6_takeOff_30 rfl rfl ?_
  refine m_iald (len := 60) (x := M0 75 c) dX6_takeOff_31 rfl ⟨by omega, by omega⟩ (by omega) (by omega) rfl ?_
  refine g_iconst (x := 2) dX6_takeOff_32 (by decide) ?_
  refine g_icmp_ne (tgt := 70) dX6_takeOff_33 (by decide) (fun c33 => ?_) (fun c33 => ?_)
  · refine g_iconst (x := 0) dX6_takeOff_70 (by decide) ?_
    exact g_iret dX6_takeOff_71 (Or.inr ⟨rfl, Or.inl rfl⟩) ⟨rfl, rfl⟩
  · refine g_aload_n dX6_takeOff_36 rfl rfl ?_
    refine p_getR (o := some 77) dX6_takeOff_37 (fX6_16 l) (by decide) rfl (by omega) rfl ?_
    refine g_iload_n dX6_takeOff_40 rfl rfl ?_
    refine m_iald (len := 60) (x := M0 77 c) dX6_takeOff_41 rfl ⟨by omega, by omega⟩ (by omega) (by omega) rfl ?_
    refine g_iload_n dX6_takeOff_42 rfl rfl ?_
    refine g_icmp_ne (tgt := 70) dX6_takeOff_43 (by decide) (fun c43 => ?_) (fun c43 => ?_)
    · refine g_iconst (x := 0) dX6_takeOff_70 (by decide) ?_
      exact g_iret dX6_takeOff_71 (Or.inr ⟨rfl, Or.inl rfl⟩) ⟨rfl, rfl⟩
    · refine g_aload_n dX6_takeOff_46 rfl rfl ?_
      refine p_getR (o := some 76) dX6_takeOff_47 (fX6_13 l) (by decide) rfl (by omega) rfl ?_
      refine g_iload_n dX6_takeOff_50 rfl rfl ?_
      refine m_iald (len := 60) (x := M0 76 c) dX6_takeOff_51 rfl ⟨by omega, by omega⟩ (by omega) (by omega) rfl ?_
      refine g_iconst (x := 5) dX6_takeOff_52 (by decide) ?_
      refine g_bipush (x := 8) dX6_takeOff_53 (by decide) ?_
      refine g_Si3 dX6_takeOff_55 (sX6_takeOff_55 l) (Nat.le_of_ble_eq_true rfl) (cX6_isIn l) ?_
      refine g_if_eq (tgt := 70) dX6_takeOff_58 (by decide) (fun c58 => ?_) (fun c58 => ?_)
      · refine g_iconst (x := 0) dX6_takeOff_70 (by decide) ?_
        exact g_iret dX6_takeOff_71 (Or.inr ⟨rfl, Or.inl rfl⟩) ⟨rfl, rfl⟩
      · refine g_aload_n dX6_takeOff_61 rfl rfl ?_
        refine m_getI (x := M0 74 10) dX6_takeOff_62 (fX6_79 l) rfl rfl ⟨by omega, by omega⟩ rfl ?_
        refine g_bipush (x := 20) dX6_takeOff_65 (by decide) ?_
        refine g_icmp_ne (tgt := 72) dX6_takeOff_67 (by decide) (fun c67 => ?_) (fun c67 => ?_)
        · exact absurd ⟨c33, c43, by split at c58 <;> omega, by split at c58 <;> omega, c67⟩ hn
        · refine g_iconst (x := 0) dX6_takeOff_70 (by decide) ?_
          exact g_iret dX6_takeOff_71 (Or.inr ⟨rfl, Or.inl rfl⟩) ⟨rfl, rfl⟩
set_option maxHeartbeats 1000000 in
theorem cX6_takeOff_1 (l : Launch) {L : Nat} {S : sT} {M : Nat → Nat → Int} {M0 : Nat → Nat → Int} (hM0 : M0 = up M 74 0 0) (hm : Wm M0) {s : Int} (hs : 0 ≤ s ∧ s ≤ 1) {c : Nat} (hc : c < 60) (g1 : M0 75 c = 2) (g2 : M0 77 c = s) (g3 : 5 ≤ M0 76 c ∧ M0 76 c ≤ 8) (g4 : M0 74 10 < 20) : gMi (gπ l) mX6_takeOff yX6_takeOff [gR (some 74), gI s, gI (c : Int)] (hS L S M) (1) (hS L S (xSide M0 c)) := by
  refine gMet_of pnX6 rfl rfl rfl (Nat.le_of_ble_eq_true rfl) (gAr (gAi (gAi gAn))) ?_
  show G (gπ l) mX6_takeOff 0 [gR (some 74), gI s, gI (c : Int)] [] (hS L S M) 0 0 _
  refine g_aload_n dX6_takeOff_0 rfl rfl ?_
  refine g_iload_n dX6_takeOff_1 rfl rfl ?_
  refine g_Si1 dX6_takeOff_2 (sX6_takeOff_2 l) (Nat.le_of_ble_eq_true rfl) (gMi_to 1 (cX6_isStation l) (by rw [if_pos hs])) ?_
  refine g_if_eq (tgt := 15) dX6_takeOff_5 (by decide) (fun c5 => absurd c5 (by omega)) (fun c5 => ?_)
  refine g_iload_n dX6_takeOff_8 rfl rfl ?_
  refine g_Si1 dX6_takeOff_9 (sX6_takeOff_9 l) (Nat.le_of_ble_eq_true rfl) (gMi_to 1 (cX6_isCabin l) (by rw [if_pos ⟨by omega, by omega⟩])) ?_
  refine g_if_ne (tgt := 19) dX6_takeOff_12 (by decide) (fun c12 => ?_) (fun c12 => absurd c12 (by omega))
  refine g_iconst (x := 0) dX6_takeOff_19 (by decide) ?_
  refine g_Vi1 dX6_takeOff_20 (sX6_takeOff_20 l) rfl (by show 74 < 87; omega) (Nat.le_of_ble_eq_true rfl) (cX6_fails0 l hM0) ?_
  refine g_if_ne (tgt := 70) dX6_takeOff_23 (by decide) (fun c23 => absurd c23 (by omega)) (fun c23 => ?_)
  refine g_aload_n dX6_takeOff_26 rfl rfl ?_
  refine p_getR (o := some 75) dX6_takeOff_27 (fX6_7 l) (by decide) rfl (by omega) rfl ?_
  refine g_iload_n dX6_takeOff_30 rfl rfl ?_
  refine m_iald (len := 60) (x := M0 75 c) dX6_takeOff_31 rfl ⟨by omega, by omega⟩ (by omega) (by omega) rfl ?_
  refine g_iconst (x := 2) dX6_takeOff_32 (by decide) ?_
  refine g_icmp_ne (tgt := 70) dX6_takeOff_33 (by decide) (fun c33 => absurd c33 (by omega)) (fun c33 => ?_)
  refine g_aload_n dX6_takeOff_36 rfl rfl ?_
  refine p_getR (o := some 77) dX6_takeOff_37 (fX6_16 l) (by decide) rfl (by omega) rfl ?_
  refine g_iload_n dX6_takeOff_40 rfl rfl ?_
  refine m_iald (len := 60) (x := M0 77 c) dX6_takeOff_41 rfl ⟨by omega, by omega⟩ (by omega) (by omega) rfl ?_
  refine g_iload_n dX6_takeOff_42 rfl rfl ?_
  refine g_icmp_ne (tgt := 70) dX6_takeOff_43 (by decide) (fun c43 => absurd c43 (by omega)) (fun c43 => ?_)
  refine g_aload_n dX6_takeOff_46 rfl rfl ?_
  refine p_getR (o := some 76) dX6_takeOff_47 (fX6_13 l) (by decide) rfl (by omega) rfl ?_
  refine g_iload_n dX6_takeOff_50 rfl rfl ?_
  refine m_iald (len := 60) (x := M0 76 c) dX6_takeOff_51 rfl ⟨by omega, by omega⟩ (by omega) (by omega) rfl ?_
  refine g_iconst (x := 5) dX6_takeOff_52 (by decide) ?_
  refine g_bipush (x := 8) dX6_takeOff_53 (by decide) ?_
  refine g_Si3 dX6_takeOff_55 (sX6_takeOff_55 l) (Nat.le_of_ble_eq_true rfl) (gMi_to 1 (cX6_isIn l) (by rw [if_pos g3])) ?_
  refine g_if_eq (tgt := 70) dX6_takeOff_58 (by decide) (fun c58 => absurd c58 (by omega)) (fun c58 => ?_)
  refine g_aload_n dX6_takeOff_61 rfl rfl ?_
  refine m_getI (x := M0 74 10) dX6_takeOff_62 (fX6_79 l) rfl rfl ⟨by omega, by omega⟩ rfl ?_
  refine g_bipush (x := 20) dX6_takeOff_65 (by decide) ?_
  refine g_icmp_ne (tgt := 72) dX6_takeOff_67 (by decide) (fun c67 => ?_) (fun c67 => absurd c67 (by omega))
  refine g_aload_n dX6_takeOff_72 rfl rfl ?_
  refine g_iload_n dX6_takeOff_73 rfl rfl ?_
  refine g_Vv1 dX6_takeOff_74 (sX6_takeOff_74 l) rfl (by show 74 < 87; omega) (Nat.le_of_ble_eq_true rfl) (cX6_toSiding l hc hm.1.1 g4) ?_
  refine g_iconst (x := 1) dX6_takeOff_77 (by decide) ?_
  exact g_iret dX6_takeOff_78 (Or.inr ⟨rfl, Or.inr rfl⟩) ⟨rfl, rfl⟩
