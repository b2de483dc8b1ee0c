/-! new objects: heaps that grow -/
section GNEW
def Zr (n : Nat) (i : Nat → Nat → Int) (r : Nat → Nat → Option Nat) : Prop := ∀ a b, n ≤ a → i a b = 0 ∧ r a b = none
abbrev hn (L : Nat) (i : Nat → Nat → Int) (r : Nat → Nat → Option Nat) (n : Nat) : gH := (T0 L, i, r, n, true)
variable {π : gP} {mi mj : gM} {pc : Nat} {loc stk : List gV} {L n N : Nat} {i : Nat → Nat → Int} {r : Nat → Nat → Option Nat} {mc ms mc' ms' : Nat} {Q : Option (Option gV) → gH → Prop}
theorem Zr.mono {m : Nat} (h : Zr n i r) (hm : n ≤ m) : Zr m i r := fun a b ha => h a b (by omega)
theorem Zr.upI {a b : Nat} {x : Int} (h : Zr n i r) (ha : a < n) : Zr n (up i a b x) r := fun a' b' h' => ⟨by rw [up_cell (by omega)]; exact (h a' b' h').1, (h a' b' h').2⟩
theorem Zr.upR {a b : Nat} {x : Option Nat} (h : Zr n i r) (ha : a < n) : Zr n i (up r a b x) := fun a' b' h' => ⟨(h a' b' h').1, by rw [up_cell (by omega)]; exact (h a' b' h').2⟩
theorem hn_new {t : Nat ⊕ (Nat × Nat)} (ht : T0 L n = t) (hz : Zr n i r) : gnew (hn L i r n) t = hn L i r (n + 1) := by
  subst ht
  have e1 : (fun a => if a = n then T0 L n else T0 L a) = T0 L := by
    funext a
    split
    · rename_i e; rw [e]
    · rfl
  have e2 : (fun a b => if a = n then (0 : Int) else i a b) = i := by
    funext a b
    split
    · rename_i e; rw [e]; exact (hz n b (Nat.le_refl n)).1.symm
    · rfl
  have e3 : (fun a b => if a = n then none else r a b) = r := by
    funext a b
    split
    · rename_i e; rw [e]; exact (hz n b (Nat.le_refl n)).2.symm
    · rfl
  show ((fun a => if a = n then T0 L n else T0 L a), (fun a b => if a = n then (0 : Int) else i a b), (fun a b => if a = n then none else r a b), n + 1, true) = _
  rw [e1, e2, e3]
theorem n_new {ci idx : Nat} {k : vw_C} {ty : Nat → FieldType} (hd : decode mi.2.1 pc = .ok (.new idx, 3)) (hr : π.2.2.1[ci]? = some k ∧ (∀ w ∈ u_ws k.1 k.2.1 k.2.2, w ∈ π.2.1)) (hT : gT k ty) (hw : Cond.classLink mi.1 idx k.1 ∈ π.2.1 ∧ Cond.instantiable k.1 N ∈ π.2.1 ∧ Cond.initialized k.1 ∈ π.2.1)
    (hty : ∀ j, j < k.2.2 → ((k.2.1 j).2.2.1 = "I" ∧ ty j = .int) ∨ ((k.2.1 j).2.2.1 ≠ "I" ∧ ((∃ C, ty j = .object C) ∨ ∃ t, ty j = .array t))) (ht : T0 L n = .inl ci) (h0 : n ≠ 0) (hz : Zr n i r) (kk : G π mi (pc + 3) loc (gR (some n) :: stk) (hn L i r (n + 1)) mc ms Q) : G π mi pc loc stk (hn L i r n) (mc + 1) (ms + N) Q :=
  g_new hd hr hT hw hty h0 rfl (by rw [hn_new ht hz]; exact kk)
theorem n_newI {x : Int} (hd : decode mi.2.1 pc = .ok (.newarray .int, 2)) (hw : Cond.arrayClass .int ∈ π.2.1) (hN : x = (N : Int)) (hb : N ≤ 100000) (ht : T0 L n = .inr (0, N)) (h0 : n ≠ 0) (hz : Zr n i r) (kk : G π mi (pc + 2) loc (gR (some n) :: stk) (hn L i r (n + 1)) mc ms Q) : G π mi pc loc (gI x :: stk) (hn L i r n) (mc + 1) (ms + N) Q :=
  g_newI hd hw hN hb h0 rfl (by rw [hn_new ht hz]; exact kk)
theorem n_newL {x : Int} (hd : decode mi.2.1 pc = .ok (.newarray .long, 2)) (hw : Cond.arrayClass .long ∈ π.2.1) (hN : x = (N : Int)) (hb : N ≤ 100000) (ht : T0 L n = .inr (1, N)) (h0 : n ≠ 0) (hz : Zr n i r) (kk : G π mi (pc + 2) loc (gR (some n) :: stk) (hn L i r (n + 1)) mc ms Q) : G π mi pc loc (gI x :: stk) (hn L i r n) (mc + 1) (ms + N) Q :=
  g_newL hd hw hN hb h0 rfl (by rw [hn_new ht hz]; exact kk)
theorem n_newA {x : Int} {ci idx : Nat} {k : vw_C} (hr : π.2.2.1[ci]? = some k ∧ ci ∈ π.2.2.2.1) (hd : decode mi.2.1 pc = .ok (.anewarray idx, 3)) (hw : Cond.classLink mi.1 idx k.1 ∈ π.2.1) (hN : x = (N : Int)) (hb : N ≤ 100000) (ht : T0 L n = .inr (ci + 3, N)) (h0 : n ≠ 0) (hz : Zr n i r) (kk : G π mi (pc + 3) loc (gR (some n) :: stk) (hn L i r (n + 1)) mc ms Q) : G π mi pc loc (gI x :: stk) (hn L i r n) (mc + 1) (ms + N) Q :=
  g_newA hr hd hw hN hb h0 rfl (by rw [hn_new ht hz]; exact kk)
theorem n_putI {ci k idx a : Nat} {q : vw_C} {ty : Nat → FieldType} {x : Int} (hd : decode mi.2.1 pc = .ok (.putfield idx, 3)) (hF : gF π mi.1 idx ci k q) (hT : gT q ty) (hi : (q.2.1 k).2.2.1 = "I" ∧ ty k = .int) (hfin : (q.2.1 k).2.2.2 = false ∨ ((q.2.1 k).2.2.2 = true ∧ mi.2.2.2.2.2.1 = "<init>" ∧ (q.2.1 k).1 = mi.1)) (ht : T0 L a = .inl ci) (ha : a < n) (h0 : a ≠ 0) (kk : G π mi (pc + 3) loc stk (hn L (up i a k x) r n) mc ms Q) : G π mi pc loc (gI x :: gR (some a) :: stk) (hn L i r n) mc ms Q := g_putI hd hF hT hi hfin ht ha h0 kk
theorem n_putR {ci k idx a : Nat} {q : vw_C} {ty : Nat → FieldType} {o : Option Nat} (hd : decode mi.2.1 pc = .ok (.putfield idx, 3)) (hF : gF π mi.1 idx ci k q) (hT : gT q ty) (hi : (q.2.1 k).2.2.1 ≠ "I" ∧ ((∃ C, ty k = .object C) ∨ ∃ t, ty k = .array t)) (hfin : (q.2.1 k).2.2.2 = false ∨ ((q.2.1 k).2.2.2 = true ∧ mi.2.2.2.2.2.1 = "<init>" ∧ (q.2.1 k).1 = mi.1)) (ht : T0 L a = .inl ci) (ha : a < n) (h0 : a ≠ 0) (kk : G π mi (pc + 3) loc stk (hn L i (up r a k o) n) mc ms Q) : G π mi pc loc (gR o :: gR (some a) :: stk) (hn L i r n) mc ms Q := g_putR hd hF hT hi hfin ht ha h0 kk
theorem n_getR {ci k idx a : Nat} {q : vw_C} {o : Option Nat} (hd : decode mi.2.1 pc = .ok (.getfield idx, 3)) (hF : gF π mi.1 idx ci k q) (hi : (q.2.1 k).2.2.1 ≠ "I") (ht : T0 L a = .inl ci) (ha : a < n) (hv : r a k = o) (kk : G π mi (pc + 3) loc (gR o :: stk) (hn L i r n) mc ms Q) : G π mi pc loc (gR (some a) :: stk) (hn L i r n) mc ms Q := g_getR hd hF hi ht ha hv kk
theorem n_iast {a len : Nat} {j x : Int} (hd : decode mi.2.1 pc = .ok (.iastore, 1)) (ht : T0 L a = .inr (0, len)) (ha : a < n) (h0 : a ≠ 0) (c1 : 0 ≤ j) (c2 : j < len) (kk : G π mi (pc + 1) loc stk (hn L (up i a j.toNat x) r n) mc ms Q) : G π mi pc loc (gI x :: gI j :: gR (some a) :: stk) (hn L i r n) mc ms Q := g_iast hd ht ha h0 c1 c2 kk
theorem n_aast {a len ci : Nat} {j : Int} {k : vw_C} {o : Option Nat} (hr : π.2.2.1[ci]? = some k ∧ ci ∈ π.2.2.2.1) (hd : decode mi.2.1 pc = .ok (.aastore, 1)) (ht : T0 L a = .inr (ci + 3, len)) (ha : a < n) (h0 : a ≠ 0) (c1 : 0 ≤ j) (c2 : j < len) (ho : ∀ v, o = some v → T0 L v = .inl ci ∧ v < n) (kk : G π mi (pc + 1) loc stk (hn L i (up r a j.toNat o) n) mc ms Q) : G π mi pc loc (gR o :: gI j :: gR (some a) :: stk) (hn L i r n) mc ms Q := g_aast hr hd ht ha h0 c1 c2 ho kk
theorem n_ctor {h h' : gH} {idx a : Nat} {y : MethodName} {as : List gV} (hd : decode mi.2.1 pc = .ok (.invokespecial idx, 3)) (hw : gW π mi.1 mj idx y as.length) (hh : mj.2.2.2.2.2.2.2 = [] ∧ mj.2.2.2.2.2.2.1 = none) (hR : mj.2.2.2.1 + 1 ≤ mi.2.2.2.1 ∧ 8 + (mj.2.2.1 + 11) + mj.2.2.2.2.1 ≤ mi.2.2.2.2.1) (hv : y.name = "<init>" ∧ Cond.instanceMethod y ∈ π.2.1)
    (h8 : gcs stk ≤ 8) (hM : gMet π mj y (gR (some a) :: as) h mc' ms' (fun r k => r = some none ∧ k = h')) (kk : G π mi (pc + 3) loc stk h' mc ms Q) : G π mi pc loc (as.reverse ++ gR (some a) :: stk) h (mc + mc') (ms + ms') Q :=
  g_callI hd hw hh hR hv h8 hM (fun k z => by cases z.1) (fun _ _ z => by obtain ⟨z1, z2⟩ := z; cases z1; subst z2; exact kk)
theorem n_ctorN {h h' : gH} {idx a : Nat} {y : MethodName} {as : List gV} {host : String} (hd : decode mi.2.1 pc = .ok (.invokespecial idx, 3)) (hw : gcw mj y ∈ π.2.1 ∧ Cond.initialized y.cls ∈ π.2.1 ∧ (mi.1, idx, y, host) ∈ π.2.2.2.2.2 ∧ (y.cls ≠ "java/lang/invoke/MethodHandle" ∧ y.cls ≠ "java/lang/invoke/VarHandle") ∧ (parseMethodDescriptor y.desc).map (fun d => d.parameters.length) = some as.length ∧ π.2.1.all goodWord = true) (hh : mj.2.2.2.2.2.2.2 = [] ∧ mj.2.2.2.2.2.2.1 = none) (hR : mj.2.2.2.1 + 1 ≤ mi.2.2.2.1 ∧ 8 + (mj.2.2.1 + 11) + mj.2.2.2.2.1 ≤ mi.2.2.2.2.1) (hv : y.name = "<init>" ∧ Cond.instanceMethod y ∈ π.2.1)
    (h8 : gcs stk ≤ 8) (hM : gMet π mj y (gR (some a) :: as) h mc' ms' (fun r k => r = some none ∧ k = h')) (kk : G π mi (pc + 3) loc stk h' mc ms Q) : G π mi pc loc (as.reverse ++ gR (some a) :: stk) h (mc + mc') (ms + ms') Q :=
  g_callIN hd hw hh hR hv h8 hM (fun k z => by cases z.1) (fun _ _ z => by obtain ⟨z1, z2⟩ := z; cases z1; subst z2; exact kk)
/-- what the constructors leave -/
def cabI (i : Nat → Nat → Int) (n : Nat) (c : Int) : Nat → Nat → Int := up (up (up (up (up (up (up (up (up (up (up i n 1 0) n 2 (-1)) n 3 (-1)) n 4 0) n 5 (-1)) n 6 (-1)) n 7 (-1)) n 8 (-1)) n 9 0) n 10 0) n 0 c
def cab0 (c : Nat) (b : Nat) : Int := match b with
  | 0 => (c : Int)
  | 2 => -1
  | 3 => -1
  | 5 => -1
  | 6 => -1
  | 7 => -1
  | 8 => -1
  | _ => 0
def fleetI (i : Nat → Nat → Int) (k : Nat) : Nat → Nat → Int := fun a b => if 4 ≤ a ∧ a < 4 + k then cab0 (a - 4) b else i a b
def fleetR (r : Nat → Nat → Option Nat) (k : Nat) : Nat → Nat → Option Nat := fun a b => if a = 3 ∧ b < k then some (4 + b) else up r 2 0 (some 3) a b
theorem fleetI_0 : fleetI i 0 = i := by
  funext a b
  unfold fleetI
  rw [if_neg (by omega)]
theorem fleetR_0 : fleetR r 0 = up r 2 0 (some 3) := by
  funext a b
  unfold fleetR
  rw [if_neg (by omega)]
theorem cabI_ne {c : Int} {a b : Nat} (h : a ≠ n) : cabI i n c a b = i a b := by
  unfold cabI
  rw [up_cell h, up_cell h, up_cell h, up_cell h, up_cell h, up_cell h, up_cell h, up_cell h, up_cell h, up_cell h, up_cell h]
theorem cabI_at {c b : Nat} (h : ∀ b, i n b = 0) : cabI i n (c : Int) n b = cab0 c b := by
  by_cases e : b < 11
  · rcases (by omega : b = 0 ∨ b = 1 ∨ b = 2 ∨ b = 3 ∨ b = 4 ∨ b = 5 ∨ b = 6 ∨ b = 7 ∨ b = 8 ∨ b = 9 ∨ b = 10) with rfl | rfl | rfl | rfl | rfl | rfl | rfl | rfl | rfl | rfl | rfl <;> simp [cabI, up, cab0]
  · unfold cabI
    rw [up_slot (by omega), up_slot (by omega), up_slot (by omega), up_slot (by omega), up_slot (by omega), up_slot (by omega), up_slot (by omega), up_slot (by omega), up_slot (by omega), up_slot (by omega), up_slot (by omega), h b]
    unfold cab0
    split <;> omega
theorem fleetI_s {k : Nat} (h : ∀ b, i (4 + k) b = 0) : cabI (fleetI i k) (4 + k) (k : Int) = fleetI i (k + 1) := by
  funext a b
  by_cases e : a = 4 + k
  · subst e
    rw [cabI_at (fun b => by unfold fleetI; rw [if_neg (by omega)]; exact h b)]
    unfold fleetI
    rw [if_pos (by omega), show 4 + k - 4 = k by omega]
  · rw [cabI_ne e]
    unfold fleetI
    by_cases q : 4 ≤ a ∧ a < 4 + k
    · rw [if_pos q, if_pos (by omega)]
    · rw [if_neg q, if_neg (by omega)]
theorem fleetR_s {k : Nat} : up (fleetR r k) 3 k (some (4 + k)) = fleetR r (k + 1) := by
  funext a b
  unfold up
  by_cases e : a = 3 ∧ b = k
  · obtain ⟨rfl, rfl⟩ := e
    rw [if_pos ⟨rfl, rfl⟩]
    unfold fleetR
    rw [if_pos (by omega)]
  · rw [if_neg e]
    unfold fleetR
    by_cases q : a = 3 ∧ b < k
    · rw [if_pos q, if_pos (by omega)]
    · rw [if_neg q, if_neg (by omega)]
theorem Zr.fleet {k : Nat} (h : Zr 4 i r) : Zr (4 + k) (fleetI i k) (fleetR r k) := fun a b ha => by
  unfold fleetI fleetR
  rw [if_neg (by omega), if_neg (by omega), up_cell (by omega)]
  exact h a b (by omega)
def sidI (i : Nat → Nat → Int) : Nat → Nat → Int := up i 65 1 0
def sidR (r : Nat → Nat → Option Nat) : Nat → Nat → Option Nat := up r 65 0 (some 66)
theorem Zr.sid (h : Zr 67 i r) : Zr 67 (sidI i) (sidR r) := (h.upI (by omega)).upR (by omega)
def wbI (i : Nat → Nat → Int) : Nat → Nat → Int := up (up (up i 67 2 0) 67 3 0) 67 4 0
def wbR (r : Nat → Nat → Option Nat) : Nat → Nat → Option Nat := up (up r 67 0 (some 68)) 67 1 (some 69)
theorem Zr.wb (h : Zr 70 i r) : Zr 70 (wbI i) (wbR r) := ((((h.upI (by omega)).upI (by omega)).upI (by omega)).upR (by omega)).upR (by omega)
def stI (i : Nat → Nat → Int) (n : Nat) (c : Int) : Nat → Nat → Int := up i n 0 c
def stR (r : Nat → Nat → Option Nat) (n : Nat) : Nat → Nat → Option Nat := up r n 1 (some (n + 1))
theorem Zr.st {c : Int} (h : Zr (n + 2) i r) : Zr (n + 2) (stI i n c) (stR r n) := (h.upI (by omega)).upR (by omega)
def dskI (i : Nat → Nat → Int) : Nat → Nat → Int := stI (stI (up (up (up (up (up (up (wbI (sidI (fleetI i 60))) 1 4 0) 1 5 60) 1 6 0) 1 7 0) 1 8 0) 1 9 0) 70 0) 72 1
def dskR (r : Nat → Nat → Option Nat) : Nat → Nat → Option Nat := up (stR (up (stR (up (wbR (up (sidR (up (up (fleetR r 60) 1 0 (some 2)) 1 1 (some 64))) 1 2 (some 65))) 1 3 (some 67)) 70) 64 0 (some 70)) 72) 64 1 (some 72)
def modI0 (i : Nat → Nat → Int) (k : Nat) : Nat → Nat → Int := fun a b => if a = 79 ∧ b < k then -1 else up i 74 15 60 a b
def modR (r : Nat → Nat → Option Nat) : Nat → Nat → Option Nat := up (up (up (up (up (up (up (up (up (up (up r 74 1 (some 75)) 74 2 (some 76)) 74 3 (some 77)) 74 4 (some 78)) 74 5 (some 79)) 74 6 (some 80)) 74 7 (some 81)) 74 8 (some 82)) 74 9 (some 83)) 74 11 (some 84)) 74 13 (some 85)
theorem modI0_0 : modI0 i 0 = up i 74 15 60 := by
  funext a b
  unfold modI0
  rw [if_neg (by omega)]
theorem modI0_s {k : Nat} : up (modI0 i k) 79 k (-1) = modI0 i (k + 1) := by
  funext a b
  show (if a = 79 ∧ b = k then -1 else modI0 i k a b) = _
  by_cases e : a = 79 ∧ b = k
  · obtain ⟨rfl, rfl⟩ := e
    rw [if_pos ⟨rfl, rfl⟩]
    unfold modI0
    rw [if_pos (by omega)]
  · rw [if_neg e]
    unfold modI0
    by_cases q : a = 79 ∧ b < k
    · rw [if_pos q, if_pos (by omega)]
    · rw [if_neg q, if_neg (by omega)]
end GNEW
