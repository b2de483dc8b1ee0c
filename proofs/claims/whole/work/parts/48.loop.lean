/-! the law's loop -/
set_option maxHeartbeats 4000000 in
theorem la_loop (l : Launch) {L : Nat} (hL : L < 100000) : ∀ (n i t : Nat) (S : sT) (M : Nat → Nat → Int) (e5 e6 : gV), Rel t S M → t + n ≤ 1000 → L < i + 4 * n + 4 → i < 200000 → G (gπ l) mL_law 23 [gR (some 0), gR (some 1), gR (some 74), gR (some 86), gI (i : Int), e5, e6] [] (hS L S M) n (6 * n) (fun r _ => r = some (some (gI 1))) := by
  intro n
  induction n with
  | zero =>
    intro i t S M e5 e6 h ht hi h2
    refine g_iload dL_law_23 rfl ?_
    refine g_aload_n dL_law_25 rfl rfl ?_
    refine p_alenS (by omega) dL_law_26 ?_
    refine g_iconst (x := 4) dL_law_27 (by decide) ?_
    refine e_isub (v := (L : Int) - 4) dL_law_28 (gsub_eq (by omega) (by omega)) ?_
    refine g_icmp_gt (tgt := 935) dL_law_29 (by decide) (fun c29 => ?_) (fun c29 => absurd c29 (by omega))
    refine g_iconst (x := 1) dL_law_935 (by decide) ?_
    exact g_iret dL_law_936 (Or.inr ⟨rfl, Or.inr rfl⟩) rfl
  | succ n ih =>
    intro i t S M e5 e6 h ht hi h2
    have kk : ∀ (S' : sT) (M' : Nat → Nat → Int) (e5 e6 : gV), K0 S.1 S'.1 → Rel (t + 1) S' M' → i + 4 ≤ L → G (gπ l) mL_law 929 [gR (some 0), gR (some 1), gR (some 74), gR (some 86), gI (i : Int), e5, e6] [] (hS L S' M') n (6 * n) (fun r _ => r = some (some (gI 1))) := by
      intro S' M' e5 e6 _ h' hi4
      refine e_iinc (v := ((i + 4 : Nat) : Int)) (loc' := [gR (some 0), gR (some 1), gR (some 74), gR (some 86), gI (((i + 4 : Nat) : Int)), e5, e6]) dL_law_929 (by decide) rfl (gadd_nat9 (k := 4) (by omega)) rfl ?_
      refine g_goto (tgt := 23) dL_law_932 (by decide) ?_
      exact ih (i + 4) (t + 1) S' M' e5 e6 h' (by omega) (by omega) (by omega)
    show G (gπ l) mL_law 23 [gR (some 0), gR (some 1), gR (some 74), gR (some 86), gI (i : Int), e5, e6] [] (hS L S M) (n + 1) (6 * n + 6) _
    refine g_iload dL_law_23 rfl ?_
    refine g_aload_n dL_law_25 rfl rfl ?_
    refine p_alenS (by omega) dL_law_26 ?_
    refine g_iconst (x := 4) dL_law_27 (by decide) ?_
    refine e_isub (v := (L : Int) - 4) dL_law_28 (gsub_eq (by omega) (by omega)) ?_
    refine g_icmp_gt (tgt := 935) dL_law_29 (by decide) (fun c29 => ?_) (fun c29 => ?_)
    · refine g_iconst (x := 1) dL_law_935 (by decide) ?_
      exact g_iret dL_law_936 (Or.inr ⟨rfl, Or.inr rfl⟩) rfl
    · refine g_aload_n dL_law_32 rfl rfl ?_
      refine g_iload dL_law_33 rfl ?_
      refine c_ialdS (x := S.1 0 i) dL_law_35 (by omega) (by omega) rfl ?_
      refine g_bipush (x := 15) dL_law_36 (by decide) ?_
      refine e_iand (v := gand (S.1 0 i) 15) dL_law_38 rfl ?_
      rcases (by omega : (gand (S.1 0 i) 15 < 0 ∨ 14 < gand (S.1 0 i) 15) ∨ gand (S.1 0 i) 15 = 0 ∨ gand (S.1 0 i) 15 = 1 ∨ gand (S.1 0 i) 15 = 2 ∨ gand (S.1 0 i) 15 = 3 ∨ gand (S.1 0 i) 15 = 4 ∨ gand (S.1 0 i) 15 = 5 ∨ gand (S.1 0 i) 15 = 6 ∨ gand (S.1 0 i) 15 = 7 ∨ gand (S.1 0 i) 15 = 8 ∨ gand (S.1 0 i) 15 = 9 ∨ gand (S.1 0 i) 15 = 10 ∨ gand (S.1 0 i) 15 = 11 ∨ gand (S.1 0 i) 15 = 12 ∨ gand (S.1 0 i) 15 = 13 ∨ gand (S.1 0 i) 15 = 14) with w39 | w39 | w39 | w39 | w39 | w39 | w39 | w39 | w39 | w39 | w39 | w39 | w39 | w39 | w39 | w39
      · refine g_tableOut (tgt := 929) dL_law_39 (by omega) (by decide) ?_
        refine g_more ?_
        exact kk S M _ _ K0.rfl h.mono (by omega)
      · refine g_tableIn (tgt := 112) (off := 73) dL_law_39 (by omega) (by omega) (by rw [w39]; rfl) (by decide) ?_
        exact la_pulse l h (by omega) (by omega) hL (fun S' M' e5 e6 k0 h' => kk S' M' e5 e6 k0 h' (by omega))
      · refine g_tableIn (tgt := 168) (off := 129) dL_law_39 (by omega) (by omega) (by rw [w39]; rfl) (by decide) ?_
        exact la_tick l h (by omega) (by omega) hL (fun S' M' e5 e6 k0 h' => kk S' M' e5 e6 k0 h' (by omega))
      · refine g_tableIn (tgt := 224) (off := 185) dL_law_39 (by omega) (by omega) (by rw [w39]; rfl) (by decide) ?_
        exact la_gauge l h (by omega) (by omega) hL (fun S' M' e5 e6 k0 h' => kk S' M' e5 e6 k0 h' (by omega))
      · refine g_tableIn (tgt := 311) (off := 272) dL_law_39 (by omega) (by omega) (by rw [w39]; rfl) (by decide) ?_
        exact la_wind l h (by omega) (by omega) hL (fun S' M' e5 e6 k0 h' => kk S' M' e5 e6 k0 h' (by omega))
      · refine g_tableIn (tgt := 347) (off := 308) dL_law_39 (by omega) (by omega) (by rw [w39]; rfl) (by decide) ?_
        exact la_drive l h (by omega) (by omega) hL (fun S' M' e5 e6 k0 h' => kk S' M' e5 e6 k0 h' (by omega))
      · refine g_tableIn (tgt := 410) (off := 371) dL_law_39 (by omega) (by omega) (by rw [w39]; rfl) (by decide) ?_
        exact la_bring l h (by omega) (by omega) hL (fun S' M' e5 e6 k0 h' => kk S' M' e5 e6 k0 h' (by omega))
      · refine g_tableIn (tgt := 473) (off := 434) dL_law_39 (by omega) (by omega) (by rw [w39]; rfl) (by decide) ?_
        exact la_putOn l h (by omega) (by omega) hL (fun S' M' e5 e6 k0 h' => kk S' M' e5 e6 k0 h' (by omega))
      · refine g_tableIn (tgt := 548) (off := 509) dL_law_39 (by omega) (by omega) (by rw [w39]; rfl) (by decide) ?_
        exact la_takeOff l h (by omega) (by omega) hL (fun S' M' e5 e6 k0 h' => kk S' M' e5 e6 k0 h' (by omega))
      · refine g_tableIn (tgt := 623) (off := 584) dL_law_39 (by omega) (by omega) (by rw [w39]; rfl) (by decide) ?_
        exact la_plan l h (by omega) (by omega) hL (fun S' M' e5 e6 k0 h' => kk S' M' e5 e6 k0 h' (by omega))
      · refine g_tableIn (tgt := 679) (off := 640) dL_law_39 (by omega) (by omega) (by rw [w39]; rfl) (by decide) ?_
        exact la_release l h (by omega) (by omega) hL (fun S' M' e5 e6 k0 h' => kk S' M' e5 e6 k0 h' (by omega))
      · refine g_tableIn (tgt := 742) (off := 703) dL_law_39 (by omega) (by omega) (by rw [w39]; rfl) (by decide) ?_
        exact la_locks l h (by omega) (by omega) hL (fun S' M' e5 e6 k0 h' => kk S' M' e5 e6 k0 h' (by omega))
      · refine g_tableIn (tgt := 755) (off := 716) dL_law_39 (by omega) (by omega) (by rw [w39]; rfl) (by decide) ?_
        exact la_where l h (by omega) (by omega) hL (fun S' M' e5 e6 k0 h' => kk S' M' e5 e6 k0 h' (by omega))
      · refine g_tableIn (tgt := 823) (off := 784) dL_law_39 (by omega) (by omega) (by rw [w39]; rfl) (by decide) ?_
        exact la_gap l h (by omega) (by omega) hL (fun S' M' e5 e6 k0 h' => kk S' M' e5 e6 k0 h' (by omega))
      · refine g_tableIn (tgt := 879) (off := 840) dL_law_39 (by omega) (by omega) (by rw [w39]; rfl) (by decide) ?_
        exact la_sided l h (by omega) (by omega) hL (fun S' M' e5 e6 k0 h' => kk S' M' e5 e6 k0 h' (by omega))
      · refine g_tableIn (tgt := 904) (off := 865) dL_law_39 (by omega) (by omega) (by rw [w39]; rfl) (by decide) ?_
        exact la_state l h (by omega) (by omega) hL (fun S' M' e5 e6 k0 h' => kk S' M' e5 e6 k0 h' (by omega))
