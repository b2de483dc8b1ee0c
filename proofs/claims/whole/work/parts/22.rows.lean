/-! rows with the new value named; arguments; names -/
section GE
variable {π : gP} {mi : gM} {pc : Nat} {loc loc' stk : List gV} {h : gH} {mc ms : Nat} {Q : Option (Option gV) → gH → Prop}
theorem e_iadd {a b v : Int} (hd : decode mi.2.1 pc = .ok (.iadd, 1)) (hv : gadd a b = v) (k : G π mi (pc + 1) loc (gI v :: stk) h mc ms Q) : G π mi pc loc (gI b :: gI a :: stk) h mc ms Q := g_iadd hd (by rw [hv]; exact k)
theorem e_isub {a b v : Int} (hd : decode mi.2.1 pc = .ok (.isub, 1)) (hv : gsub a b = v) (k : G π mi (pc + 1) loc (gI v :: stk) h mc ms Q) : G π mi pc loc (gI b :: gI a :: stk) h mc ms Q := g_isub hd (by rw [hv]; exact k)
theorem e_imul {a b v : Int} (hd : decode mi.2.1 pc = .ok (.imul, 1)) (hv : gmul a b = v) (k : G π mi (pc + 1) loc (gI v :: stk) h mc ms Q) : G π mi pc loc (gI b :: gI a :: stk) h mc ms Q := g_imul hd (by rw [hv]; exact k)
theorem e_iand {a b v : Int} (hd : decode mi.2.1 pc = .ok (.iand, 1)) (hv : gand a b = v) (k : G π mi (pc + 1) loc (gI v :: stk) h mc ms Q) : G π mi pc loc (gI b :: gI a :: stk) h mc ms Q := g_iand hd (by rw [hv]; exact k)
theorem e_ior {a b v : Int} (hd : decode mi.2.1 pc = .ok (.ior, 1)) (hv : gor a b = v) (k : G π mi (pc + 1) loc (gI v :: stk) h mc ms Q) : G π mi pc loc (gI b :: gI a :: stk) h mc ms Q := g_ior hd (by rw [hv]; exact k)
theorem e_ixor {a b v : Int} (hd : decode mi.2.1 pc = .ok (.ixor, 1)) (hv : gxor a b = v) (k : G π mi (pc + 1) loc (gI v :: stk) h mc ms Q) : G π mi pc loc (gI b :: gI a :: stk) h mc ms Q := g_ixor hd (by rw [hv]; exact k)
theorem e_ishl {a b v : Int} (hd : decode mi.2.1 pc = .ok (.ishl, 1)) (hv : gshl a b = v) (k : G π mi (pc + 1) loc (gI v :: stk) h mc ms Q) : G π mi pc loc (gI b :: gI a :: stk) h mc ms Q := g_ishl hd (by rw [hv]; exact k)
theorem e_ishr {a b v : Int} (hd : decode mi.2.1 pc = .ok (.ishr, 1)) (hv : gshr a b = v) (k : G π mi (pc + 1) loc (gI v :: stk) h mc ms Q) : G π mi pc loc (gI b :: gI a :: stk) h mc ms Q := g_ishr hd (by rw [hv]; exact k)
theorem e_idiv {a b v : Int} (hd : decode mi.2.1 pc = .ok (.idiv, 1)) (hne : b ≠ 0) (hv : gdiv a b = v) (k : G π mi (pc + 1) loc (gI v :: stk) h mc ms Q) : G π mi pc loc (gI b :: gI a :: stk) h mc ms Q := g_idiv hd hne (by rw [hv]; exact k)
theorem e_irem {a b v : Int} (hd : decode mi.2.1 pc = .ok (.irem, 1)) (hne : b ≠ 0) (hv : grem a b = v) (k : G π mi (pc + 1) loc (gI v :: stk) h mc ms Q) : G π mi pc loc (gI b :: gI a :: stk) h mc ms Q := g_irem hd hne (by rw [hv]; exact k)
theorem e_iinc {i : Nat} {n x v : Int} (hd : decode mi.2.1 pc = .ok (.iinc i n, 3)) (hn : i < mi.2.2.1) (hx : loc[i]? = some (gI x)) (hv : gadd x n = v) (hl : loc.set i (gI v) = loc') (kk : G π mi (pc + 3) loc' stk h mc ms Q) : G π mi pc loc stk h mc ms Q := g_iinc hd hn hx (by rw [hv, hl]; exact kk)
theorem e_istore_n {k : Fin 4} {i : Nat} {x : Int} (hd : decode mi.2.1 pc = .ok (.istore_n k, 1)) (hi : (k : Nat) = i) (hn : i < mi.2.2.1) (hl : loc.set i (gI x) = loc') (kk : G π mi (pc + 1) loc' stk h mc ms Q) : G π mi pc loc (gI x :: stk) h mc ms Q := g_istore_n hd hi hn (by rw [hl]; exact kk)
theorem e_istore {i : Nat} {x : Int} (hd : decode mi.2.1 pc = .ok (.istore i, 2)) (hn : i < mi.2.2.1) (hl : loc.set i (gI x) = loc') (kk : G π mi (pc + 2) loc' stk h mc ms Q) : G π mi pc loc (gI x :: stk) h mc ms Q := g_istore hd hn (by rw [hl]; exact kk)
theorem e_astore_n {k : Fin 4} {i : Nat} {o : Option Nat} (hd : decode mi.2.1 pc = .ok (.astore_n k, 1)) (hi : (k : Nat) = i) (hn : i < mi.2.2.1) (hl : loc.set i (gR o) = loc') (kk : G π mi (pc + 1) loc' stk h mc ms Q) : G π mi pc loc (gR o :: stk) h mc ms Q := g_astore_n hd hi hn (by rw [hl]; exact kk)
theorem e_astore {i : Nat} {o : Option Nat} (hd : decode mi.2.1 pc = .ok (.astore i, 2)) (hn : i < mi.2.2.1) (hl : loc.set i (gR o) = loc') (kk : G π mi (pc + 2) loc' stk h mc ms Q) : G π mi pc loc (gR o :: stk) h mc ms Q := g_astore hd hn (by rw [hl]; exact kk)
theorem g_dupR {o : Option Nat} (hd : decode mi.2.1 pc = .ok (.dup, 1)) (k : G π mi (pc + 1) loc (gR o :: gR o :: stk) h mc ms Q) : G π mi pc loc (gR o :: stk) h mc ms Q := g_dup (Or.inr ⟨o, rfl⟩) hd k
/-- the same heap, the same places -/
theorem g_eq {h' : gH} (e1 : loc = loc') (e2 : h = h') (k : G π mi pc loc' stk h' mc ms Q) : G π mi pc loc stk h mc ms Q := by
  subst e1; subst e2; exact k
def sAbs (x : Int) : Int := if 0 ≤ x then x else gsub 0 x
theorem e_abs {idx : Nat} {a v : Int} (hd : decode mi.2.1 pc = .ok (.invokestatic idx, 3)) (hw : Cond.methodLink mi.1 idx Lib.Math.abs.name ∈ π.2.1 ∧ Cond.static Lib.Math.abs.name ∈ π.2.1 ∧ Cond.initialized "java/lang/Math" ∈ π.2.1 ∧ Cond.code Lib.Math.abs.name Lib.Math.abs.code 1 (some .int) ∈ π.2.1) (hR : 1 ≤ mi.2.2.2.1 ∧ gcs stk + 13 ≤ mi.2.2.2.2.1) (hv : sAbs a = v) (k : G π mi (pc + 3) loc (gI v :: stk) h mc ms Q) : G π mi pc loc (gI a :: stk) h mc ms Q := g_abs hd hw hR (by rw [← hv] at k; exact k)
theorem gAn : ∀ v ∈ ([] : List gV), (∃ x, v = gI x) ∨ ∃ o, v = gR o := fun v hv => nomatch hv
theorem gAi {as : List gV} {x : Int} (h : ∀ v ∈ as, (∃ x, v = gI x) ∨ ∃ o, v = gR o) : ∀ v ∈ (gI x :: as), (∃ x, v = gI x) ∨ ∃ o, v = gR o := fun v hv => (List.mem_cons.mp hv).elim (fun e => Or.inl ⟨x, e⟩) (h v)
theorem gAr {as : List gV} {o : Option Nat} (h : ∀ v ∈ as, (∃ x, v = gI x) ∨ ∃ o, v = gR o) : ∀ v ∈ (gR o :: as), (∃ x, v = gI x) ∨ ∃ o, v = gR o := fun v hv => (List.mem_cons.mp hv).elim (fun e => Or.inr ⟨o, e⟩) (h v)
theorem pnX0 : Jvm.plainName "RopewayDesk$Cabin" = true := by decide +kernel
theorem pnX1 : Jvm.plainName "RopewayDesk$Fleet" = true := by decide +kernel
theorem pnX2 : Jvm.plainName "RopewayDesk$Siding" = true := by decide +kernel
theorem pnX3 : Jvm.plainName "RopewayDesk$Station" = true := by decide +kernel
theorem pnX4 : Jvm.plainName "RopewayDesk$WindBook" = true := by decide +kernel
theorem pnX5 : Jvm.plainName "RopewayDesk" = true := by decide +kernel
theorem pnX6 : Jvm.plainName "RopewayDeskModel" = true := by decide +kernel
theorem pnL : Jvm.plainName "RopewayDeskLaw" = true := by decide +kernel
theorem kc0 (l : Launch) : (gπ l).2.2.1[0]? = some KX0 ∧ 0 ∈ (gπ l).2.2.2.1 := ⟨rfl, List.mem_cons_self⟩
theorem kc3 (l : Launch) : (gπ l).2.2.1[3]? = some KX3 ∧ 3 ∈ (gπ l).2.2.2.1 := ⟨rfl, List.mem_cons_of_mem _ List.mem_cons_self⟩
end GE
