/-! contracts: the wind book; the way ahead -/
def sIns (C : Nat → Nat → Int) (v : Int) : Nat → Nat → Nat → Int
  | 0 => up C 69 0 v
  | a + 1 => if v < C 69 a then sIns (up C 69 (a + 1) (C 69 a)) v a else up C 69 (a + 1) v
set_option maxHeartbeats 1000000 in
theorem cX4_sortIn (l : Launch) {L : Nat} {C M : Nat → Nat → Int} {Z : Nat → Nat → Option Nat} {R : Nat → Option Nat} {v : Int} {t : Nat} (ht : t ≤ 4) : gMv (gπ l) mX4_sortIn yX4_sortIn [gR (some 67), gI v, gI (t : Int)] (hq L C M Z R) (hq L (sIns C v t) M Z R) := by
  refine gMet_of pnX4 rfl rfl rfl (Nat.le_of_ble_eq_true rfl) (gAr (gAi (gAi gAn))) ?_
  show G (gπ l) mX4_sortIn 0 [gR (some 67), gI v, gI (t : Int), gU] [] (hq L C M Z R) 0 0 _
  have loop : ∀ (a : Nat) (C : Nat → Nat → Int), a ≤ 4 → G (gπ l) mX4_sortIn 2 [gR (some 67), gI v, gI (t : Int), gI (a : Int)] [] (hq L C M Z R) 0 0 (fun r k => r = some none ∧ k = hq L (sIns C v a) M Z R) := by
    intro a
    induction a with
    | zero =>
      intro C ha
      refine g_iload_n dX4_sortIn_2 rfl rfl ?_
      refine g_if_le (tgt := 38) dX4_sortIn_3 (by decide) (fun c3 => ?_) (fun c3 => absurd c3 (by omega))
      refine g_aload_n dX4_sortIn_38 rfl rfl ?_
      refine p_getR (o := some 69) dX4_sortIn_39 (fX4_13 l) (by decide) rfl (by omega) rfl ?_
      refine g_iload_n dX4_sortIn_42 rfl rfl ?_
      refine g_iload_n dX4_sortIn_43 rfl rfl ?_
      refine c_iast (len := 5) dX4_sortIn_44 rfl (by omega) (by omega) (by omega) (by omega) ?_
      exact g_vret dX4_sortIn_45 rfl ⟨rfl, rfl⟩
    | succ a ih =>
      intro C ha
      refine g_iload_n dX4_sortIn_2 rfl rfl ?_
      refine g_if_le (tgt := 38) dX4_sortIn_3 (by decide) (fun c3 => absurd c3 (by omega)) (fun c3 => ?_)
      refine g_aload_n dX4_sortIn_6 rfl rfl ?_
      refine p_getR (o := some 69) dX4_sortIn_7 (fX4_13 l) (by decide) rfl (by omega) rfl ?_
      refine g_iload_n dX4_sortIn_10 rfl rfl ?_
      refine g_iconst (x := 1) dX4_sortIn_11 (by decide) ?_
      refine e_isub (v := (a : Int)) dX4_sortIn_12 (by rw [gsub_eq (by omega) (by omega)]; omega) ?_
      refine c_iald (len := 5) (x := C 69 a) dX4_sortIn_13 rfl (by omega) (by omega) (by omega) rfl ?_
      refine g_iload_n dX4_sortIn_14 rfl rfl ?_
      refine g_icmp_le (tgt := 38) dX4_sortIn_15 (by decide) (fun c15 => ?_) (fun c15 => ?_)
      · refine g_aload_n dX4_sortIn_38 rfl rfl ?_
        refine p_getR (o := some 69) dX4_sortIn_39 (fX4_13 l) (by decide) rfl (by omega) rfl ?_
        refine g_iload_n dX4_sortIn_42 rfl rfl ?_
        refine g_iload_n dX4_sortIn_43 rfl rfl ?_
        refine c_iast (len := 5) dX4_sortIn_44 rfl (by omega) (by omega) (by omega) (by omega) ?_
        exact g_vret dX4_sortIn_45 rfl ⟨rfl, by rw [sIns, if_neg (by omega)]; rfl⟩
      · refine g_aload_n dX4_sortIn_18 rfl rfl ?_
        refine p_getR (o := some 69) dX4_sortIn_19 (fX4_13 l) (by decide) rfl (by omega) rfl ?_
        refine g_iload_n dX4_sortIn_22 rfl rfl ?_
        refine g_aload_n dX4_sortIn_23 rfl rfl ?_
        refine p_getR (o := some 69) dX4_sortIn_24 (fX4_13 l) (by decide) rfl (by omega) rfl ?_
        refine g_iload_n dX4_sortIn_27 rfl rfl ?_
        refine g_iconst (x := 1) dX4_sortIn_28 (by decide) ?_
        refine e_isub (v := (a : Int)) dX4_sortIn_29 (by rw [gsub_eq (by omega) (by omega)]; omega) ?_
        refine c_iald (len := 5) (x := C 69 a) dX4_sortIn_30 rfl (by omega) (by omega) (by omega) rfl ?_
        refine c_iast (len := 5) dX4_sortIn_31 rfl (by omega) (by omega) (by omega) (by omega) ?_
        refine e_iinc (v := (a : Int)) (loc' := [gR (some 67), gI v, gI (t : Int), gI ((a : Int))]) dX4_sortIn_32 (by decide) rfl (by rw [gadd_eq (by omega) (by omega)]; omega) rfl ?_
        refine g_goto (tgt := 2) dX4_sortIn_35 (by decide) ?_
        rw [show sIns C v (a + 1) = sIns (up C 69 (a + 1) (C 69 a)) v a from by rw [sIns, if_pos c15]]
        exact ih (up C 69 (a + 1) (C 69 a)) (by omega)
  refine g_iload_n dX4_sortIn_0 rfl rfl ?_
  refine e_istore_n (loc' := [gR (some 67), gI v, gI (t : Int), gI (t : Int)]) dX4_sortIn_1 rfl (by decide) rfl ?_
  exact loop t C ht
theorem sIns_ne {v : Int} {a b : Nat} (h : a ≠ 69) : ∀ (t : Nat) (C : Nat → Nat → Int), sIns C v t a b = C a b
  | 0, C => by rw [sIns, up_cell h]
  | t + 1, C => by
    rw [sIns]
    split
    · rw [sIns_ne h t, up_cell h]
    · rw [up_cell h]
def sSort (C : Nat → Nat → Int) : Nat → Nat → Nat → Int
  | 0 => C
  | k + 1 => sIns (sSort C k) (sSort C k 68 k) k
theorem sSort_ne {C : Nat → Nat → Int} {a b : Nat} (h : a ≠ 69) : ∀ k, sSort C k a b = C a b
  | 0 => rfl
  | k + 1 => by rw [sSort, sIns_ne h, sSort_ne h k]
set_option maxHeartbeats 1000000 in
theorem lX4_report (l : Launch) {L : Nat} {C M : Nat → Nat → Int} {Z : Nat → Nat → Option Nat} {R : Nat → Option Nat} {n : Nat} (hn : C 67 2 = (n : Int)) (h5 : n ≤ 5) {v : Int} : ∀ (m k : Nat), k + m = n → G (gπ l) mX4_report 55 [gR (some 67), gI v, gI (k : Int)] [] (hq L (sSort C k) M Z R) 0 0 (fun r k => r = some none ∧ k = (hq L (up (sSort C n) 67 4 (sSort C n 69 (n / 2))) M Z R)) := by
  intro m
  induction m with
  | zero =>
    intro k hk
    obtain rfl : k = n := by omega
    refine g_iload_n dX4_report_55 rfl rfl ?_
    refine g_aload_n dX4_report_56 rfl rfl ?_
    refine c_getI (x := (k : Int)) dX4_report_57 (fX4_16 l) rfl rfl (by omega) (by rw [sSort_ne (by omega)]; exact hn) ?_
    refine g_icmp_ge (tgt := 80) dX4_report_60 (by decide) (fun c60 => ?_) (fun c60 => absurd c60 (by omega))
    refine g_aload_n dX4_report_80 rfl rfl ?_
    refine g_aload_n dX4_report_81 rfl rfl ?_
    refine p_getR (o := some 69) dX4_report_82 (fX4_13 l) (by decide) rfl (by omega) rfl ?_
    refine g_aload_n dX4_report_85 rfl rfl ?_
    refine c_getI (x := (k : Int)) dX4_report_86 (fX4_16 l) rfl rfl (by omega) (by rw [sSort_ne (by omega)]; exact hn) ?_
    refine g_iconst (x := 2) dX4_report_89 (by decide) ?_
    refine e_idiv (v := ((k / 2 : Nat) : Int)) dX4_report_90 (by decide) (by rw [gdiv_eq (by omega) (by omega) (by omega) (by omega)]; omega) ?_
    refine c_iald (len := 5) (x := (sSort C k) 69 (k / 2)) dX4_report_91 rfl (by omega) (by omega) (by omega) rfl ?_
    refine c_putI dX4_report_92 (fX4_23 l) gTX4 ⟨rfl, rfl⟩ rfl rfl (by omega) (by omega) ?_
    exact g_vret dX4_report_95 rfl ⟨rfl, rfl⟩
  | succ m ih =>
    intro k hk
    refine g_iload_n dX4_report_55 rfl rfl ?_
    refine g_aload_n dX4_report_56 rfl rfl ?_
    refine c_getI (x := (n : Int)) dX4_report_57 (fX4_16 l) rfl rfl (by omega) (by rw [sSort_ne (by omega)]; exact hn) ?_
    refine g_icmp_ge (tgt := 80) dX4_report_60 (by decide) (fun c60 => absurd c60 (by omega)) (fun c60 => ?_)
    refine g_aload_n dX4_report_63 rfl rfl ?_
    refine g_aload_n dX4_report_64 rfl rfl ?_
    refine p_getR (o := some 68) dX4_report_65 (fX4_9 l) (by decide) rfl (by omega) rfl ?_
    refine g_iload_n dX4_report_68 rfl rfl ?_
    refine c_iald (len := 5) (x := sSort C k 68 k) dX4_report_69 rfl (by omega) (by omega) (by omega) rfl ?_
    refine g_iload_n dX4_report_70 rfl rfl ?_
    refine g_Vv2 dX4_report_71 (sX4_report_71 l) rfl (by show 67 < 87; omega) (Nat.le_of_ble_eq_true rfl) (cX4_sortIn l (by omega)) ?_
    refine e_iinc (v := ((k + 1 : Nat) : Int)) (loc' := [gR (some 67), gI v, gI (((k + 1 : Nat) : Int))]) dX4_report_74 (by decide) rfl (gadd_nat (by omega)) rfl ?_
    refine g_goto (tgt := 55) dX4_report_77 (by decide) ?_
    exact ih (k + 1) (by omega)
set_option maxHeartbeats 1000000 in
theorem cX4_report_a (l : Launch) {L : Nat} {C M : Nat → Nat → Int} {Z : Nat → Nat → Option Nat} {R : Nat → Option Nat} {kp od : Nat} (hk : C 67 2 = (kp : Int)) (ho : C 67 3 = (od : Int)) {v : Int} (hk5 : kp < 5) : gMv (gπ l) mX4_report yX4_report [gR (some 67), gI v] (hq L C M Z R) (hq L (up (sSort (up (up C 68 kp v) 67 2 ((kp + 1 : Nat) : Int)) (kp + 1)) 67 4 (sSort (up (up C 68 kp v) 67 2 ((kp + 1 : Nat) : Int)) (kp + 1) 69 ((kp + 1) / 2))) M Z R) := by
  refine gMet_of pnX4 rfl rfl rfl (Nat.le_of_ble_eq_true rfl) (gAr (gAi gAn)) ?_
  show G (gπ l) mX4_report 0 [gR (some 67), gI v, gU] [] (hq L C M Z R) 0 0 _
  refine g_aload_n dX4_report_0 rfl rfl ?_
  refine c_getI (x := (kp : Int)) dX4_report_1 (fX4_16 l) rfl rfl (by omega) hk ?_
  refine g_iconst (x := 5) dX4_report_4 (by decide) ?_
  refine g_icmp_ge (tgt := 31) dX4_report_5 (by decide) (fun c5 => absurd c5 (by omega)) (fun c5 => ?_)
  refine g_aload_n dX4_report_8 rfl rfl ?_
  refine p_getR (o := some 68) dX4_report_9 (fX4_9 l) (by decide) rfl (by omega) rfl ?_
  refine g_aload_n dX4_report_12 rfl rfl ?_
  refine c_getI (x := (kp : Int)) dX4_report_13 (fX4_16 l) rfl rfl (by omega) hk ?_
  refine g_iload_n dX4_report_16 rfl rfl ?_
  refine c_iast (len := 5) dX4_report_17 rfl (by omega) (by omega) (by omega) (by omega) ?_
  refine g_aload_n dX4_report_18 rfl rfl ?_
  refine g_dupR dX4_report_19 ?_
  refine c_getI (x := (kp : Int)) dX4_report_20 (fX4_16 l) rfl rfl (by omega) (by rw [up_cell (by omega)]; exact hk) ?_
  refine g_iconst (x := 1) dX4_report_23 (by decide) ?_
  refine e_iadd (v := ((kp + 1 : Nat) : Int)) dX4_report_24 (gadd_nat (by omega)) ?_
  refine c_putI dX4_report_25 (fX4_16 l) gTX4 ⟨rfl, rfl⟩ rfl rfl (by omega) (by omega) ?_
  refine g_goto (tgt := 53) dX4_report_28 (by decide) ?_
  refine g_iconst (x := 0) dX4_report_53 (by decide) ?_
  refine e_istore_n (loc' := [gR (some 67), gI v, gI 0]) dX4_report_54 rfl (by decide) rfl ?_
  exact lX4_report l (C := up (up C 68 kp v) 67 2 ((kp + 1 : Nat) : Int)) (n := kp + 1) up_same (by omega) (kp + 1) 0 (by omega)
set_option maxHeartbeats 1000000 in
theorem cX4_report_b (l : Launch) {L : Nat} {C M : Nat → Nat → Int} {Z : Nat → Nat → Option Nat} {R : Nat → Option Nat} {kp od : Nat} (hk : C 67 2 = (kp : Int)) (ho : C 67 3 = (od : Int)) {v : Int} (hk5 : kp = 5) (ho5 : od < 5) : gMv (gπ l) mX4_report yX4_report [gR (some 67), gI v] (hq L C M Z R) (hq L (up (sSort (up (up C 68 od v) 67 3 (((od + 1) % 5 : Nat) : Int)) 5) 67 4 (sSort (up (up C 68 od v) 67 3 (((od + 1) % 5 : Nat) : Int)) 5 69 (5 / 2))) M Z R) := by
  refine gMet_of pnX4 rfl rfl rfl (Nat.le_of_ble_eq_true rfl) (gAr (gAi gAn)) ?_
  show G (gπ l) mX4_report 0 [gR (some 67), gI v, gU] [] (hq L C M Z R) 0 0 _
  refine g_aload_n dX4_report_0 rfl rfl ?_
  refine c_getI (x := (kp : Int)) dX4_report_1 (fX4_16 l) rfl rfl (by omega) hk ?_
  refine g_iconst (x := 5) dX4_report_4 (by decide) ?_
  refine g_icmp_ge (tgt := 31) dX4_report_5 (by decide) (fun c5 => ?_) (fun c5 => absurd c5 (by omega))
  refine g_aload_n dX4_report_31 rfl rfl ?_
  refine p_getR (o := some 68) dX4_report_32 (fX4_9 l) (by decide) rfl (by omega) rfl ?_
  refine g_aload_n dX4_report_35 rfl rfl ?_
  refine c_getI (x := (od : Int)) dX4_report_36 (fX4_20 l) rfl rfl (by omega) ho ?_
  refine g_iload_n dX4_report_39 rfl rfl ?_
  refine c_iast (len := 5) dX4_report_40 rfl (by omega) (by omega) (by omega) (by omega) ?_
  refine g_aload_n dX4_report_41 rfl rfl ?_
  refine g_aload_n dX4_report_42 rfl rfl ?_
  refine c_getI (x := (od : Int)) dX4_report_43 (fX4_20 l) rfl rfl (by omega) (by rw [up_cell (by omega)]; exact ho) ?_
  refine g_iconst (x := 1) dX4_report_46 (by decide) ?_
  refine e_iadd (v := ((od + 1 : Nat) : Int)) dX4_report_47 (gadd_nat (by omega)) ?_
  refine g_iconst (x := 5) dX4_report_48 (by decide) ?_
  refine e_irem (v := (((od + 1) % 5 : Nat) : Int)) dX4_report_49 (by decide) (by rw [grem_eq (by omega) (by omega) (by omega) (by omega)]; omega) ?_
  refine c_putI dX4_report_50 (fX4_20 l) gTX4 ⟨rfl, rfl⟩ rfl rfl (by omega) (by omega) ?_
  refine g_iconst (x := 0) dX4_report_53 (by decide) ?_
  refine e_istore_n (loc' := [gR (some 67), gI v, gI 0]) dX4_report_54 rfl (by decide) rfl ?_
  exact lX4_report l (C := up (up C 68 od v) 67 3 (((od + 1) % 5 : Nat) : Int)) (n := 5) (by rw [up_slot (by omega), up_cell (by omega), hk, hk5]) (by omega) 5 0 (by omega)
theorem vx_ofF {l : Launch} {y : MethodName} {ws ws' : List Cond} {rm : Room} {Pc : Array Value → State → Prop} {Qc : Array Value → State → Outcome → State → Prop} {XC : String → State → State → Prop} {mc ms : Nat} {free : Addr → Prop} {cc : ByteArray} {maxL : Nat} {ret : Option FieldType}
    (hy : plainFor y = true) (hw : ws = Cond.code y cc maxL ret :: ws')
    (body : ∀ p e s m args below meth c s₁, BodyLoose p l y (headSpec ws rm) cc maxL ret e s m args below meth c s₁ → c.maxLocals = maxL → (∀ x ∈ c.exceptionTable.toList, False) → Pc args s →
      W p l e (headSpec ws rm).room s m args below meth c s.heap [] 0 0 (vx_MQ below Qc XC args s mc ms free) (entryFrame m args maxL)) : vx_Met l y ws rm Pc Qc XC mc ms free := by
  refine MetFree.of_bodySF (code := cc) (maxLocals := maxL) (ret := ret) hy ?_ ?_
  · intro args s m h hn
    obtain ⟨meth, c, h1, h2, h3, h4, h5, h6, -, -⟩ := Cond.code_spec hn (atoms_spec (ws := ws) h _ (by rw [hw]; exact List.mem_cons_self))
    exact ⟨meth, c, h1, h2, h3, h4, h5, h6⟩
  · intro p e s m args below meth c s₁ B hml hP _
    have hh0 : s₁.heap = s.heap := by rw [B.state]; rfl
    have ht : ∀ x ∈ c.exceptionTable.toList, False := by
      obtain ⟨meth9, c9, h1, h2, -, -, -, -, h7, -⟩ := Cond.code_spec B.named (atoms_spec (ws := ws) B.pre _ (by rw [hw]; exact List.mem_cons_self))
      cases Option.some.inj (h1.symm.trans B.method)
      cases Option.some.inj (h2.symm.trans (Stand.of_body B).code)
      intro x hx
      rw [Array.isEmpty_iff.mp h7] at hx
      cases hx
    obtain ⟨t, a1, o, b1, b2, b3⟩ := body p e s m args below meth c s₁ B hml ht hP s₁ hh0 (Stand.of_body B)
    exact ⟨t, o, a1, b1, b2, b3⟩
theorem gMet_ofF {π : gP} {mi : gM} {h : gH} {mc ms : Nat} {Q : Option (Option gV) → gH → Prop} {y : MethodName} {as : List gV} (hy : plainFor y = true) (hc : y.cls = mi.1) (hnm : y.name = mi.2.2.2.2.2.1) (hh : mi.2.2.2.2.2.2.2 = []) (hlen : as.length ≤ mi.2.2.1) (has : ∀ v ∈ as, (∃ x, v = gI x) ∨ ∃ o, v = gR o)
    (k : G π mi 0 (as ++ List.replicate (mi.2.2.1 - as.length) gU) [] h mc ms Q) : gMet π mi y as h mc ms Q := by
  intro hst Γ
  have hcw : gcw mi y = Cond.code y mi.2.1 mi.2.2.1 mi.2.2.2.2.2.2.1 := by unfold gcw; rw [hh]
  refine vx_ofF (cc := mi.2.1) (maxL := mi.2.2.1) (ret := mi.2.2.2.2.2.2.1) hy (by rw [hcw]) ?_
  intro p e s m args below meth c s₁ B hml htab hP
  obtain ⟨vs, rfl, hs, hK, hZ, hH⟩ := hP
  obtain ⟨a1, a2, a3⟩ := g_args 0 hs has
  have hts := atoms_spec (ws := gcw mi y :: π.2.1) B.pre
  have hC : gC π Γ mi p (headSpec (gcw mi y :: π.2.1) { frames := mi.2.2.2.1, cells := mc, slots := ms, locals := mi.2.2.2.2.1 }).room s m vs.toArray meth c :=
    ⟨B.exec, B.bytes, hml, by rw [← hc]; exact findClass_of_methodNamed B.named, fun w hw => hts w (List.mem_cons_of_mem _ hw), B.notSynchronized, Nat.le_refl _, Nat.le_refl _, by rw [← hnm]; exact (name_of_methodNamed B.named B.method).1, B.returns, by
      rw [hh]
      cases ht : c.exceptionTable.toList with
      | nil => rfl
      | cons z zs => exact (htab z (by rw [ht]; exact List.mem_cons_self)).elim, hK, hZ, hst⟩
  rw [lg_entry_eq]
  refine k Γ p e _ s m vs.toArray below meth c _ s.heap [] 0 0 _ [] hC (gEnd_of hC) hH ?_ trivial va_S.rf (by show 0 + mc ≤ mc; omega) (by show 0 + ms ≤ ms; omega)
  refine ⟨lv_args 0 vs, lv_entry vs (by omega), fun j x hj => ?_, fun j o hj => ?_⟩
  · have h9 := a1 j x (g_pad hj (by intro z; cases z))
    rwa [Nat.zero_add] at h9
  · have h9 := a2 j o (g_pad hj (by intro z; cases z))
    rwa [Nat.zero_add] at h9
theorem grem_small {a b : Int} (h0 : 0 < b) (hb : b < 2147483648) (h1 : -b < a) (h2 : a < b) : grem a b = a := by
  have ea := g32 (x := a) (by omega) (by omega)
  have eb := g32 (x := b) (by omega) hb
  have hd : (Int32.ofInt a / Int32.ofInt b).toInt = 0 := by
    rw [Int32.toInt_div_of_ne_right _ _ (fun z => by rw [z] at eb; have h9 : (-1 : Int32).toInt = -1 := rfl; omega), ea, eb]
    by_cases c : 0 ≤ a
    · exact Int.tdiv_eq_zero_of_lt c h2
    · have e : a = -(-a) := by omega
      rw [e, Int.neg_tdiv, Int.tdiv_eq_zero_of_lt (by omega) (by omega)]
      rfl
  have hz : Int32.ofInt a / Int32.ofInt b = 0 := Int32.toInt_inj.mp (hd.trans rfl)
  unfold grem
  rw [hz, Int32.zero_mul, Int32.sub_zero]
  exact ea
theorem gxor_neg {a b : Int} (hb0 : 0 ≤ b) (hb : b < 2147483648) (ha1 : -2147483648 ≤ a) (ha2 : a < 2147483648) : gxor a b < 0 ↔ a < 0 := by
  unfold gxor
  have e1 : (Int32.ofInt a).toInt = a := g32 ha1 ha2
  have e2 : (Int32.ofInt b).toInt = b := g32 (by omega) hb
  generalize Int32.ofInt a = x at *
  generalize Int32.ofInt b = y at *
  have h : (x ^^^ y).toBitVec.msb = (x.toBitVec.msb ^^ y.toBitVec.msb) := by rw [Int32.toBitVec_xor, BitVec.msb_xor]
  rw [BitVec.msb_eq_toInt, BitVec.msb_eq_toInt, BitVec.msb_eq_toInt] at h
  have hx : x.toBitVec.toInt = a := e1
  have hy : y.toBitVec.toInt = b := e2
  rw [hx, hy] at h
  show (x ^^^ y).toBitVec.toInt < 0 ↔ a < 0
  rw [show decide (b < 0) = false from decide_eq_false (by omega), Bool.xor_false] at h
  exact decide_eq_decide.mp h
def sFm (x : Int) : Int := if x < 0 then x + 12000 else x
set_option maxHeartbeats 1000000 in
theorem cJ_floorMod (l : Launch) {L : Nat} {C M : Nat → Nat → Int} {Z : Nat → Nat → Option Nat} {R : Nat → Option Nat} {x : Int} (h1 : -12000 < x) (h2 : x < 12000) : gMi (gπ l) mJ_floorMod yJ_floorMod [gI x, gI 12000] (hq L C M Z R) (sFm x) (hq L C M Z R) := by
  refine gMet_ofF (by decide +kernel) rfl rfl rfl (Nat.le_of_ble_eq_true rfl) (gAi (gAi gAn)) ?_
  show G (gπ l) mJ_floorMod 0 [gI x, gI 12000, gU] [] (hq L C M Z R) 0 0 _
  refine g_iload_n dJ_floorMod_0 rfl rfl ?_
  refine g_iload_n dJ_floorMod_1 rfl rfl ?_
  refine e_irem (v := x) dJ_floorMod_2 (by decide) (grem_small (by omega) (by omega) h1 h2) ?_
  refine e_istore_n (loc' := [gI x, gI 12000, gI (x)]) dJ_floorMod_3 rfl (by decide) rfl ?_
  refine g_iload_n dJ_floorMod_4 rfl rfl ?_
  refine g_iload_n dJ_floorMod_5 rfl rfl ?_
  refine e_ixor (v := gxor x 12000) dJ_floorMod_6 rfl ?_
  refine g_if_ge (tgt := 18) dJ_floorMod_7 (by decide) (fun c7 => ?_) (fun c7 => ?_)
  · refine g_iload_n dJ_floorMod_18 rfl rfl ?_
    exact g_iret dJ_floorMod_19 (Or.inl rfl) ⟨congrArg gK1 (by unfold sFm; have q := gxor_neg (a := x) (b := 12000) (by omega) (by omega) (by omega) (by omega); first | (rw [if_neg (by omega)]; done) | (rw [if_neg (fun z => by have := q.mpr z; omega)])), rfl⟩
  · refine g_iload_n dJ_floorMod_10 rfl rfl ?_
    refine g_if_eq (tgt := 18) dJ_floorMod_11 (by decide) (fun c11 => ?_) (fun c11 => ?_)
    · refine g_iload_n dJ_floorMod_18 rfl rfl ?_
      exact g_iret dJ_floorMod_19 (Or.inl rfl) ⟨congrArg gK1 (by unfold sFm; have q := gxor_neg (a := x) (b := 12000) (by omega) (by omega) (by omega) (by omega); first | (rw [if_neg (by omega)]; done) | (rw [if_neg (fun z => by have := q.mpr z; omega)])), rfl⟩
    · refine g_iload_n dJ_floorMod_14 rfl rfl ?_
      refine g_iload_n dJ_floorMod_15 rfl rfl ?_
      refine e_iadd (v := x + 12000) dJ_floorMod_16 (gadd_eq (by omega) (by omega)) ?_
      exact g_iret dJ_floorMod_17 (Or.inl rfl) ⟨congrArg gK1 (by unfold sFm; rw [if_pos ((gxor_neg (by omega) (by omega) (by omega) (by omega)).mp c7)]), rfl⟩
def sSpot (C : Nat → Nat → Int) (n : Nat) : Int := gadd (gmul 6000 (C n 2)) (C n 4)
def sWay (C : Nat → Nat → Int) (n : Nat) : Nat → Int
  | 0 => 12000
  | k + 1 => if 4 + k ≠ n ∧ C (4 + k) 1 = 3 then min (sWay C n k) (sFm (gsub (sSpot C (4 + k)) (sSpot C n))) else sWay C n k
set_option maxHeartbeats 1000000 in
theorem cX1_wayAhead (l : Launch) {L : Nat} {C M : Nat → Nat → Int} {Z : Nat → Nat → Option Nat} {R : Nat → Option Nat} {n : Nat} (h1 : 4 ≤ n) (h2 : n < 64) (hsp : ∀ j, j < 60 → C (4 + j) 1 = 3 → -12000 < gsub (sSpot C (4 + j)) (sSpot C n) ∧ gsub (sSpot C (4 + j)) (sSpot C n) < 12000) : gMi (gπ l) mX1_wayAhead yX1_wayAhead [gR (some 2), gR (some n)] (hq L C M Z R) (sWay C n 60) (hq L C M Z R) := by
  refine gMet_of pnX1 rfl rfl rfl (Nat.le_of_ble_eq_true rfl) (gAr (gAr gAn)) ?_
  show G (gπ l) mX1_wayAhead 0 [gR (some 2), gR (some n), gU, gU, gU] [] (hq L C M Z R) 0 0 _
  have loop : ∀ (m k : Nat), k + m = 60 → ∀ e9 : gV, G (gπ l) mX1_wayAhead 6 [gR (some 2), gR (some n), gI (sWay C n k), gI (k : Int), e9] [] (hq L C M Z R) 0 0 (fun r k => r = some (some (gI (sWay C n 60))) ∧ k = (hq L C M Z R)) := by
    intro m
    induction m with
    | zero =>
      intro k hk e9
      refine g_iload_n dX1_wayAhead_6 rfl rfl ?_
      refine g_bipush (x := 60) dX1_wayAhead_7 (by decide) ?_
      refine g_icmp_ge (tgt := 62) dX1_wayAhead_9 (by decide) (fun c9 => ?_) (fun c9 => absurd c9 (by omega))
      refine g_iload_n dX1_wayAhead_62 rfl rfl ?_
      exact g_iret dX1_wayAhead_63 (Or.inl rfl) ⟨by rw [show k = 60 by omega], rfl⟩
    | succ m ih =>
      intro k hk e9
      refine g_iload_n dX1_wayAhead_6 rfl rfl ?_
      refine g_bipush (x := 60) dX1_wayAhead_7 (by decide) ?_
      refine g_icmp_ge (tgt := 62) dX1_wayAhead_9 (by decide) (fun c9 => absurd c9 (by omega)) (fun c9 => ?_)
      refine g_aload_n dX1_wayAhead_12 rfl rfl ?_
      refine p_getR (o := some 3) dX1_wayAhead_13 (fX1_11 l) (by decide) rfl (by omega) rfl ?_
      refine g_iload_n dX1_wayAhead_16 rfl rfl ?_
      refine p_aald (ci := 0) (len := 60) (o := some (4 + k)) (kc0 l) dX1_wayAhead_17 rfl (by omega) (by omega) (by omega) (rr_cab (by omega)) ?_
      refine e_astore (loc' := [gR (some 2), gR (some n), gI (sWay C n k), gI (k : Int), gR (some (4 + k))]) dX1_wayAhead_18 (by decide) rfl ?_
      refine g_aload dX1_wayAhead_20 rfl ?_
      refine g_aload_n dX1_wayAhead_22 rfl rfl ?_
      refine g_acmp_eq (tgt := 56) dX1_wayAhead_23 (by decide) (fun c23 => ?_) (fun c23 => ?_)
      · refine e_iinc (v := ((k + 1 : Nat) : Int)) (loc' := [gR (some 2), gR (some n), gI (sWay C n k), gI (((k + 1 : Nat) : Int)), gR (some (4 + k))]) dX1_wayAhead_56 (by decide) rfl (gadd_nat (by omega)) rfl ?_
        refine g_goto (tgt := 6) dX1_wayAhead_59 (by decide) ?_
        refine g_eq (loc' := [gR (some 2), gR (some n), gI (sWay C n (k + 1)), gI ((k + 1 : Nat) : Int), gR (some (4 + k))]) ?_ rfl (ih (k + 1) (by omega) _)
        first | simp [sWay, c32] | simp [sWay, Option.some.inj c23]
      · refine g_aload dX1_wayAhead_26 rfl ?_
        refine c_getI (x := C (4 + k) 1) dX1_wayAhead_28 (fX1_20 l) rfl (T0_cab (by omega) (by omega)) (by omega) rfl ?_
        refine g_iconst (x := 3) dX1_wayAhead_31 (by decide) ?_
        refine g_icmp_ne (tgt := 56) dX1_wayAhead_32 (by decide) (fun c32 => ?_) (fun c32 => ?_)
        · refine e_iinc (v := ((k + 1 : Nat) : Int)) (loc' := [gR (some 2), gR (some n), gI (sWay C n k), gI (((k + 1 : Nat) : Int)), gR (some (4 + k))]) dX1_wayAhead_56 (by decide) rfl (gadd_nat (by omega)) rfl ?_
          refine g_goto (tgt := 6) dX1_wayAhead_59 (by decide) ?_
          refine g_eq (loc' := [gR (some 2), gR (some n), gI (sWay C n (k + 1)), gI ((k + 1 : Nat) : Int), gR (some (4 + k))]) ?_ rfl (ih (k + 1) (by omega) _)
          first | simp [sWay, c32] | simp [sWay, Option.some.inj c23]
        · refine g_iload_n dX1_wayAhead_35 rfl rfl ?_
          refine g_aload dX1_wayAhead_36 rfl ?_
          refine g_Si1 dX1_wayAhead_38 (sX1_wayAhead_38 l) (Nat.le_of_ble_eq_true rfl) (cX1_spot l (by omega) (by omega)) ?_
          refine g_aload_n dX1_wayAhead_41 rfl rfl ?_
          refine g_Si1 dX1_wayAhead_42 (sX1_wayAhead_42 l) (Nat.le_of_ble_eq_true rfl) (cX1_spot l h1 h2) ?_
          refine e_isub (v := gsub (sSpot C (4 + k)) (sSpot C n)) dX1_wayAhead_45 rfl ?_
          refine g_sipush (x := 12000) dX1_wayAhead_46 (by decide) ?_
          refine g_Si2 dX1_wayAhead_49 (sX1_wayAhead_49 l) (Nat.le_of_ble_eq_true rfl) (cJ_floorMod l (hsp k (by omega) c32).1 (hsp k (by omega) c32).2) ?_
          refine g_min dX1_wayAhead_52 aX1_47 ⟨by decide, Nat.le_of_ble_eq_true rfl⟩ ?_
          refine e_istore_n (loc' := [gR (some 2), gR (some n), gI (min (sWay C n k) (sFm (gsub (sSpot C (4 + k)) (sSpot C n)))), gI (k : Int), gR (some (4 + k))]) dX1_wayAhead_55 rfl (by decide) rfl ?_
          refine e_iinc (v := ((k + 1 : Nat) : Int)) (loc' := [gR (some 2), gR (some n), gI (min (sWay C n k) (sFm (gsub (sSpot C (4 + k)) (sSpot C n)))), gI (((k + 1 : Nat) : Int)), gR (some (4 + k))]) dX1_wayAhead_56 (by decide) rfl (gadd_nat (by omega)) rfl ?_
          refine g_goto (tgt := 6) dX1_wayAhead_59 (by decide) ?_
          refine g_eq (loc' := [gR (some 2), gR (some n), gI (sWay C n (k + 1)), gI ((k + 1 : Nat) : Int), gR (some (4 + k))]) ?_ rfl (ih (k + 1) (by omega) _)
          simp [sWay, c32, show 4 + k ≠ n from fun e => c23 (by rw [e])]
  refine g_sipush (x := 12000) dX1_wayAhead_0 (by decide) ?_
  refine e_istore_n (loc' := [gR (some 2), gR (some n), gI 12000, gU, gU]) dX1_wayAhead_3 rfl (by decide) rfl ?_
  refine g_iconst (x := 0) dX1_wayAhead_4 (by decide) ?_
  refine e_istore_n (loc' := [gR (some 2), gR (some n), gI 12000, gI 0, gU]) dX1_wayAhead_5 rfl (by decide) rfl ?_
  exact loop 60 0 (by omega) gU
