/-! abstract values, heaps and the judgement G: a walk over numbers, cell numbers and an abstract heap; a row an instruction -/
section GDEFS
abbrev gV : Type := Int ⊕ (Option Nat ⊕ (Int ⊕ Unit))
abbrev gI (x : Int) : gV := .inl x
abbrev gR (o : Option Nat) : gV := .inr (.inl o)
abbrev gL (x : Int) : gV := .inr (.inr (.inl x))
abbrev gU : gV := .inr (.inr (.inr ()))
/-- numbers of kinds, of arrays, the script's place, the base of the new cells -/
abbrev gE : Type := va_G × (Nat → ClassId) × Nat × Nat
/-- tags, ints, references, how many cells, whether none but these was made -/
abbrev gH : Type := (Nat → Nat ⊕ (Nat × Nat)) × (Nat → Nat → Int) × (Nat → Nat → Option Nat) × Nat × Bool
/-- launch, words, kinds of objects, kinds with arrays, texts, calls among nest mates -/
abbrev gP : Type := Launch × List Cond × List vw_C × List Nat × List (String × Nat × String) × List (String × Nat × MethodName × String)
/-- a method: owner, code, how many places, frames and words of room, name, answer, handlers -/
abbrev gM : Type := String × ByteArray × Nat × Nat × Nat × String × Option FieldType × List (Nat × Nat × Nat × Nat)
abbrev gIAE : String := "java/lang/IllegalArgumentException"
def ga (Γ : gE) (n : Nat) : Nat := if n = 0 then Γ.2.2.1 else Γ.2.2.2 + n
def gr (Γ : gE) (v : gV) (w : Value) : Prop := match v with
  | .inl x => ∃ y : Int32, w = .int y ∧ y.toInt = x
  | .inr (.inl o) => w = va_rf (o.map (ga Γ))
  | .inr (.inr (.inl x)) => ∃ y : Int64, w = .long y ∧ y.toInt = x
  | .inr (.inr (.inr _)) => True
def gs (Γ : gE) : List gV → List Value → Prop
  | [], [] => True
  | v :: vs, w :: ws => gr Γ v w ∧ gs Γ vs ws
  | _, _ => False
def gl (Γ : gE) (nL : Nat) (loc : List gV) (ls : Array Slot) : Prop := ∃ lv : List (Nat × Value), lv_has ls nL lv ∧ (∀ (j : Nat) (x : Int), loc[j]? = some (gI x) → ∃ y : Int32, (j, Value.int y) ∈ lv ∧ y.toInt = x) ∧ ∀ (j : Nat) (o : Option Nat), loc[j]? = some (gR o) → (j, va_rf (o.map (ga Γ))) ∈ lv
def gfv (Γ : gE) (d : String) (x : Int) (o : Option Nat) (v : Value) : Prop := if d = "I" then ∃ y : Int32, v = .int y ∧ y.toInt = x else v = va_rf (o.map (ga Γ))
/-- the cell at a, by its tag -/
def gcl (π : gP) (Γ : gE) (s : State) (fi : Nat → Int) (fr : Nat → Option Nat) (H : Heap) (a : Nat) : Nat ⊕ (Nat × Nat) → Prop
  | .inl ci => ∃ r : vw_C, π.2.2.1[ci]? = some r ∧ ∃ V : Nat → Value, t_OB a (Γ.1.1 ci) r.2.2 (Γ.1.2 ci) H V ∧ ∀ k, k < r.2.2 → gfv Γ (r.2.1 k).2.2.1 (fi k) (fr k) (V k)
  | .inr (0, len) => ∃ f : Nat → Int32, H[a]? = some (arrV (Γ.2.1 0) len (fun j => .int (f j))) ∧ ∀ j, j < len → (f j).toInt = fi j
  | .inr (1, len) => ∃ f : Nat → Int64, H[a]? = some (arrV (Γ.2.1 1) len (fun j => .long (f j))) ∧ ∀ j, j < len → (f j).toInt = fi j
  | .inr (2, len) => ∃ xs : Nat → Int32, va_X a len xs s H ∧ ∀ j, j < len → (xs j).toInt = fi j
  | .inr (k + 3, len) => ∃ f : Nat → Option Nat, H[a]? = some (arrV (Γ.2.1 (k + 3)) len (fun j => va_rf (f j))) ∧ ∀ j, j < len → f j = (fr j).map (ga Γ)
theorem gcl.moved {π : gP} {Γ : gE} {s U : State} {fi : Nat → Int} {fr : Nat → Option Nat} {H : Heap} {a : Nat} (hv : s.vm.Alike U.vm) : ∀ {t : Nat ⊕ (Nat × Nat)}, gcl π Γ s fi fr H a t → gcl π Γ U fi fr H a t
  | .inl _, h => h
  | .inr (0, _), h => h
  | .inr (1, _), h => h
  | .inr (2, _), ⟨xs, h1, h2⟩ => ⟨xs, h1.moved hv, h2⟩
  | .inr (_ + 3, _), h => h
theorem gcl.kept {π : gP} {Γ : gE} {s : State} {fi : Nat → Int} {fr : Nat → Option Nat} {H H1 : Heap} {a : Nat} (hq : H1[a]? = H[a]?) : ∀ {t : Nat ⊕ (Nat × Nat)}, gcl π Γ s fi fr H a t → gcl π Γ s fi fr H1 a t
  | .inl _, ⟨r, hr, V, hV, hk⟩ => ⟨r, hr, V, hV.kept hq, hk⟩
  | .inr (0, _), ⟨f, h1, h2⟩ => ⟨f, by rw [hq]; exact h1, h2⟩
  | .inr (1, _), ⟨f, h1, h2⟩ => ⟨f, by rw [hq]; exact h1, h2⟩
  | .inr (2, _), ⟨xs, h1, h2⟩ => ⟨xs, h1.kept hq, h2⟩
  | .inr (_ + 3, _), ⟨f, h1, h2⟩ => ⟨f, by rw [hq]; exact h1, h2⟩
theorem gcl.lt {π : gP} {Γ : gE} {s : State} {fi : Nat → Int} {fr : Nat → Option Nat} {H : Heap} {a : Nat} : ∀ {t : Nat ⊕ (Nat × Nat)}, gcl π Γ s fi fr H a t → a < H.size
  | .inl _, ⟨r, hr, V, ⟨cl9, h1, h2⟩, hk⟩ => (Array.getElem?_eq_some_iff.mp h1).1
  | .inr (0, _), ⟨f, h1, h2⟩ => (Array.getElem?_eq_some_iff.mp h1).1
  | .inr (1, _), ⟨f, h1, h2⟩ => (Array.getElem?_eq_some_iff.mp h1).1
  | .inr (2, _), ⟨xs, ⟨scr, h1, _⟩, h2⟩ => (Array.getElem?_eq_some_iff.mp h1).1
  | .inr (_ + 3, _), ⟨f, h1, h2⟩ => (Array.getElem?_eq_some_iff.mp h1).1
/-- words of a throw that are moved one by one -/
def gNG : List Cond := [.declares (Bundle.initS "java/lang/RuntimeException"), .declares (Bundle.initS "java/lang/Exception"), .declares (Bundle.initS Bundle.tN), .castable gIAE gIAE]
theorem gNG_on : ∀ w ∈ gNG, w.onTables = true := by
  intro w hw
  simp only [gNG, List.mem_cons, List.not_mem_nil, or_false] at hw
  rcases hw with rfl | rfl | rfl | rfl <;> rfl
/-- what the tables say at a state -/
def gK (π : gP) (Γ : gE) (s : State) : Prop :=
  (∀ (ci : Nat) (r : vw_C), π.2.2.1[ci]? = some r → u_Kn s r.1 r.2.1 r.2.2 (Γ.1.1 ci) (Γ.1.2 ci)) ∧
  (ArrOfT s (Γ.2.1 0) .int ∧ s.vm.findClass ("[" ++ FieldType.int.toString) = some (Γ.2.1 0)) ∧
  (ArrOfT s (Γ.2.1 1) .long ∧ s.vm.findClass ("[" ++ FieldType.long.toString) = some (Γ.2.1 1)) ∧
  (∀ ci ∈ π.2.2.2.1, ∀ r : vw_C, π.2.2.1[ci]? = some r → ArrOfT s (Γ.2.1 (ci + 3)) (.object r.1) ∧ va_RA s (Γ.2.1 (ci + 3)) (.object r.1) ∧ va_AO r.1 s) ∧
  (∀ q ∈ π.2.2.2.2.1, ∃ sa, vk_R q.1 q.2.1 q.2.2 sa s) ∧ (∀ q ∈ π.2.2.2.2.2, va_Nw (.methodLinkNest q.1 q.2.1 q.2.2.1 q.2.2.2) s) ∧ ∀ w ∈ gNG, va_Nw w s
theorem gK.moved {π : gP} {Γ : gE} {s U : State} (hW : s.WarmedH U.vm) (h : gK π Γ s) : gK π Γ U := by
  obtain ⟨h1, ⟨h2, h3⟩, ⟨h4, h5⟩, h6, h7, h8, h9⟩ := h
  have hv := hW.alike
  refine ⟨fun ci r hr => u_Kn_moved hv (h1 ci r hr), ⟨arrOfT_moved hv h2, by rw [hv.findClass]; exact h3⟩, ⟨arrOfT_moved hv h4, by rw [hv.findClass]; exact h5⟩, fun ci hc r hr => ⟨arrOfT_moved hv (h6 ci hc r hr).1, (h6 ci hc r hr).2.1.moved hv, (h6 ci hc r hr).2.2.moved hv⟩, fun q hq => ?_, fun q hq => va_Nw.warmM hW (h8 q hq), fun w hw => ?_⟩
  · obtain ⟨sa, hs⟩ := h7 q hq
    exact ⟨sa, vk_R.warm hW hs⟩
  · have h10 := h9 w hw
    simp only [gNG, List.mem_cons, List.not_mem_nil, or_false] at hw
    rcases hw with rfl | rfl | rfl | rfl
    · exact va_Nw.warmD hW h10
    · exact va_Nw.warmD hW h10
    · exact va_Nw.warmD hW h10
    · exact va_Nw.warmC hW h10
abbrev gfree (Γ : gE) : Nat → Prop := fun q => Γ.2.2.2 < q
/-- the two statics of Throwable -/
def gZ (Γ : gE) (s : State) (H : Heap) : Prop := vx_Zq Bundle.tN "UNASSIGNED_STACK" Bundle.steD (gfree Γ) s H ∧ vx_Zq Bundle.tN "SUPPRESSED_SENTINEL" Bundle.listD (gfree Γ) s H
/-- the heap holds h -/
def gHR (π : gP) (Γ : gE) (s : State) (h : gH) (H : Heap) : Prop :=
  (∀ n, n < h.2.2.2.1 → gcl π Γ s (h.2.1 n) (h.2.2.1 n) H (ga Γ n) (h.1 n)) ∧ Γ.2.2.1 ≤ Γ.2.2.2 ∧ (h.2.2.2.2 = true → H.size = Γ.2.2.2 + h.2.2.2.1)
theorem gHR.moved {π : gP} {Γ : gE} {s U : State} {h : gH} {H : Heap} (hv : s.vm.Alike U.vm) (x : gHR π Γ s h H) : gHR π Γ U h H := ⟨fun n hn => (x.1 n hn).moved hv, x.2⟩
def gsetI (h : gH) (n k : Nat) (x : Int) : gH := (h.1, fun a b => if a = n ∧ b = k then x else h.2.1 a b, h.2.2)
def gsetR (h : gH) (n k : Nat) (x : Option Nat) : gH := (h.1, h.2.1, fun a b => if a = n ∧ b = k then x else h.2.2.1 a b, h.2.2.2)
def gnew (h : gH) (t : Nat ⊕ (Nat × Nat)) : gH := (fun a => if a = h.2.2.2.1 then t else h.1 a, fun a b => if a = h.2.2.2.1 then 0 else h.2.1 a b, fun a b => if a = h.2.2.2.1 then none else h.2.2.1 a b, h.2.2.2.1 + 1, h.2.2.2.2)
def gstale (h : gH) : gH := (h.1, h.2.1, h.2.2.1, h.2.2.2.1, false)
theorem ga_inj {Γ : gE} {a b : Nat} (h0 : Γ.2.2.1 ≤ Γ.2.2.2) (h : ga Γ a = ga Γ b) : a = b := by
  unfold ga at h
  split at h <;> split at h <;> omega
theorem ga_free {Γ : gE} {n : Nat} (hn : n ≠ 0) : gfree Γ (ga Γ n) := by
  show Γ.2.2.2 < ga Γ n
  unfold ga
  rw [if_neg hn]
  omega
/-- one cell changed -/
theorem gHR.upd {π : gP} {Γ : gE} {s : State} {h h' : gH} {H H' : Heap} (n : Nat) (x : gHR π Γ s h H) (e2 : H'.size = H.size) (e3 : ∀ q : Nat, q ≠ ga Γ n → H'[q]? = H[q]?) (t1 : h'.1 = h.1) (t2 : h'.2.2.2 = h.2.2.2)
    (t3 : ∀ a, a ≠ n → h'.2.1 a = h.2.1 a) (t4 : ∀ a, a ≠ n → h'.2.2.1 a = h.2.2.1 a) (k : gcl π Γ s (h'.2.1 n) (h'.2.2.1 n) H' (ga Γ n) (h.1 n)) : gHR π Γ s h' H' := by
  obtain ⟨x1, x2, x3⟩ := x
  refine ⟨fun a ha => ?_, x2, fun hf => ?_⟩
  · rw [t2] at ha
    rw [t1]
    by_cases e : a = n
    · subst e
      exact k
    · rw [t3 a e, t4 a e]
      exact (x1 a ha).kept (e3 _ fun z => e (ga_inj x2 z))
  · rw [t2] at hf ⊢
    rw [e2]
    exact x3 hf
/-- a new cell -/
theorem gHR.new {π : gP} {Γ : gE} {s : State} {h : gH} {H H' : Heap} {t : Nat ⊕ (Nat × Nat)} (x : gHR π Γ s h H) (hn : h.2.2.2.1 ≠ 0) (hf : h.2.2.2.2 = true) (e2 : H'.size = H.size + 1) (e3 : ∀ q : Nat, q < H.size → H'[q]? = H[q]?)
    (k : gcl π Γ s (fun _ => 0) (fun _ => none) H' H.size t) : gHR π Γ s (gnew h t) H' ∧ ga Γ h.2.2.2.1 = H.size := by
  obtain ⟨x1, x2, x3⟩ := x
  have hz := x3 hf
  have hg : ga Γ h.2.2.2.1 = H.size := by unfold ga; rw [if_neg hn]; omega
  refine ⟨⟨fun a ha => ?_, x2, fun _ => ?_⟩, hg⟩
  · have ha : a < h.2.2.2.1 + 1 := ha
    by_cases e : a = h.2.2.2.1
    · subst e
      simp only [gnew, if_true]
      rw [hg]
      exact k
    · simp only [gnew, e, if_false]
      have h9 := x1 a (by omega)
      exact h9.kept (e3 _ h9.lt)
  · show H'.size = Γ.2.2.2 + (h.2.2.2.1 + 1)
    omega
theorem gHR.stale {π : gP} {Γ : gE} {s : State} {h : gH} {H : Heap} (x : gHR π Γ s h H) : gHR π Γ s (gstale h) H := ⟨x.1, x.2.1, fun z => by cases z⟩
/-- behind writes elsewhere -/
theorem gHR.grown {π : gP} {Γ : gE} {s : State} {h : gH} {H H' : Heap} (x : gHR π Γ s h H) (e3 : ∀ q : Nat, q < H.size → H'[q]? = H[q]?) : gHR π Γ s (gstale h) H' := ⟨fun n hn => (x.1 n hn).kept (e3 _ (x.1 n hn).lt), x.2.1, fun z => by cases z⟩
/-- the frame of a method's walk -/
def gC (π : gP) (Γ : gE) (mi : gM) (p : Program) (R : Room) (s : State) (m : MethodId) (args : Array Value) (meth : Method) (c : Code) : Prop :=
  p.tables.exec = Jvm.exec ∧ c.code = mi.2.1 ∧ c.maxLocals = mi.2.2.1 ∧ s.vm.findClass mi.1 = some m.cls ∧ (∀ w ∈ π.2.1, w.before args s = true) ∧ meth.locks = false ∧ mi.2.2.2.1 ≤ R.frames ∧ mi.2.2.2.2.1 ≤ R.locals ∧
  meth.name = mi.2.2.2.2.2.1 ∧ meth.sig.returnType = mi.2.2.2.2.2.2.1 ∧ c.exceptionTable.toList = tableOf mi.2.2.2.2.2.2.2 ∧ gK π Γ s ∧ gZ Γ s s.heap ∧ π.1.stackTraces = false
def gro (Γ : gE) : Option gV → Option Value → Prop
  | none, none => True
  | some v, some w => gr Γ v w
  | _, _ => False
def gQc (π : gP) (Γ : gE) (Q : Option (Option gV) → gH → Prop) : Array Value → State → Outcome → State → Prop := fun _ st o t => ∃ (r : Option gV) (h : gH) (w : Option Value), Q (some r) h ∧ o = .returned w ∧ gro Γ r w ∧ gHR π Γ t h t.heap ∧ va_F (gfree Γ) st t
def gXC (π : gP) (Γ : gE) (Q : Option (Option gV) → gH → Prop) : String → State → State → Prop := fun E st t => E = gIAE ∧ ∃ h : gH, Q none h ∧ gHR π Γ t h t.heap ∧ va_F (gfree Γ) st t
/-- how the method's walk may end -/
def gEnd (π : gP) (Γ : gE) (mi : gM) (Q : Option (Option gV) → gH → Prop) (p : Program) (e : Env) (R : Room) (s : State) (m : MethodId) (args : Array Value) (below : List Frame) (meth : Method) (c : Code) (QE : State → Prop) : Prop :=
  (∀ (r : Option gV) (w : List Value) (h : gH) (H : Heap) (locs : List Loc) (cells slots pc : Nat) (ls : Array Slot), Q (some r) h → gs Γ r.toList w → gHR π Γ s h H → va_S (gfree Γ) s.heap H locs → cells ≤ R.cells → slots ≤ R.slots →
    ((decode mi.2.1 pc = .ok (.ireturn, 1) ∧ ∃ x : Int, r = some (gI x) ∧ (mi.2.2.2.2.2.2.1 = some .int ∨ (mi.2.2.2.2.2.2.1 = some .boolean ∧ (x = 0 ∨ x = 1)))) ∨
     (decode mi.2.1 pc = .ok (.areturn, 1) ∧ ∃ (o : Option Nat) (n : String), r = some (gR o) ∧ mi.2.2.2.2.2.2.1 = some (.object n)) ∨
     (decode mi.2.1 pc = .ok (.return_, 1) ∧ r = none ∧ mi.2.2.2.2.2.2.1 = none)) →
    W p π.1 e R s m args below meth c H locs cells slots QE (F0 m pc ls w)) ∧
  ∀ h, Q none h → QE = vx_MQ below (gQc π Γ Q) (gXC π Γ Q) args s R.cells R.slots (gfree Γ)
/-- THE JUDGEMENT: from pc, with these places, this stack, this heap, at most mc cells and ms slots more, the method ends with Q -/
def G (π : gP) (mi : gM) (pc : Nat) (loc stk : List gV) (h : gH) (mc ms : Nat) (Q : Option (Option gV) → gH → Prop) : Prop :=
  ∀ (Γ : gE) (p : Program) (e : Env) (R : Room) (s : State) (m : MethodId) (args : Array Value) (below : List Frame) (meth : Method) (c : Code) (QE : State → Prop) (H : Heap) (locs : List Loc) (cells slots : Nat) (ls : Array Slot) (st : List Value),
    gC π Γ mi p R s m args meth c → gEnd π Γ mi Q p e R s m args below meth c QE → gHR π Γ s h H → gl Γ mi.2.2.1 loc ls → gs Γ stk st → va_S (gfree Γ) s.heap H locs → cells + mc ≤ R.cells → slots + ms ≤ R.slots →
    W p π.1 e R s m args below meth c H locs cells slots QE (F0 m pc ls st)
/-- an exception stands over the frame at pc -/
def GX (π : gP) (mi : gM) (pc : Nat) (loc : List gV) (h : gH) (mc ms : Nat) (Q : Option (Option gV) → gH → Prop) : Prop :=
  ∀ (Γ : gE) (p : Program) (e : Env) (R : Room) (s : State) (m : MethodId) (args : Array Value) (below : List Frame) (meth : Method) (c : Code) (QE : State → Prop) (H : Heap) (locs : List Loc) (cells slots : Nat) (ls : Array Slot) (rest : List Value) (ce : Cell) (q : Addr),
    gC π Γ mi p R s m args meth c → gEnd π Γ mi Q p e R s m args below meth c QE → gHR π Γ s h H → gl Γ mi.2.2.1 loc ls → va_S (gfree Γ) s.heap H locs → cells + mc ≤ R.cells → slots + ms ≤ R.slots →
    H[q]? = some ce → ce.vm = .none → s.vm.findClass gIAE = some ce.cls →
    vx_W p π.1 e R s m args below meth c H locs cells slots QE (F0 m pc ls rest) q
def gPc (π : gP) (Γ : gE) (as : List gV) (h : gH) : Array Value → State → Prop := fun a U => ∃ vs : List Value, a = vs.toArray ∧ gs Γ as vs ∧ gK π Γ U ∧ gZ Γ U U.heap ∧ gHR π Γ U h U.heap
def gcw (mi : gM) (y : MethodName) : Cond := match mi.2.2.2.2.2.2.2 with
  | [] => .code y mi.2.1 mi.2.2.1 mi.2.2.2.2.2.2.1
  | hh => .codeWith y mi.2.1 mi.2.2.1 mi.2.2.2.2.2.2.1 hh
/-- A CONTRACT: y, called with these arguments over this heap, ends with Q -/
def gMet (π : gP) (mi : gM) (y : MethodName) (as : List gV) (h : gH) (mc ms : Nat) (Q : Option (Option gV) → gH → Prop) : Prop :=
  π.1.stackTraces = false → ∀ Γ : gE, vx_Met π.1 y (gcw mi y :: π.2.1) { frames := mi.2.2.2.1, cells := mc, slots := ms, locals := mi.2.2.2.2.1 } (gPc π Γ as h) (gQc π Γ Q) (gXC π Γ Q) mc ms (gfree Γ)
end GDEFS
section GLEM
theorem gs_int {Γ : gE} {a : Int} {vs : List gV} {st : List Value} (h : gs Γ (gI a :: vs) st) : ∃ (y : Int32) (r : List Value), st = .int y :: r ∧ y.toInt = a ∧ gs Γ vs r := by
  cases st with
  | nil => exact h.elim
  | cons w r => obtain ⟨⟨y, rfl, hy⟩, hr⟩ := h; exact ⟨y, r, rfl, hy, hr⟩
theorem gs_long {Γ : gE} {a : Int} {vs : List gV} {st : List Value} (h : gs Γ (gL a :: vs) st) : ∃ (y : Int64) (r : List Value), st = .long y :: r ∧ y.toInt = a ∧ gs Γ vs r := by
  cases st with
  | nil => exact h.elim
  | cons w r => obtain ⟨⟨y, rfl, hy⟩, hr⟩ := h; exact ⟨y, r, rfl, hy, hr⟩
theorem gs_ref {Γ : gE} {o : Option Nat} {vs : List gV} {st : List Value} (h : gs Γ (gR o :: vs) st) : ∃ r : List Value, st = va_rf (o.map (ga Γ)) :: r ∧ gs Γ vs r := by
  cases st with
  | nil => exact h.elim
  | cons w r => obtain ⟨h1, hr⟩ := h; exact ⟨r, by rw [← show w = va_rf (o.map (ga Γ)) from h1], hr⟩
theorem gs_nil {Γ : gE} {st : List Value} (h : gs Γ [] st) : st = [] := by
  cases st with
  | nil => rfl
  | cons w r => exact h.elim
theorem gs_app {Γ : gE} : ∀ {as bs : List gV} {st : List Value}, gs Γ (as ++ bs) st → ∃ s1 s2 : List Value, st = s1 ++ s2 ∧ gs Γ as s1 ∧ gs Γ bs s2
  | [], _, st, h => ⟨[], st, rfl, trivial, h⟩
  | _ :: _, _, [], h => h.elim
  | _ :: _, _, w :: _, h => by
    obtain ⟨s1, s2, rfl, h1, h2⟩ := gs_app h.2
    exact ⟨w :: s1, s2, rfl, ⟨h.1, h1⟩, h2⟩
theorem gs_cat {Γ : gE} : ∀ {as bs : List gV} {s1 s2 : List Value}, gs Γ as s1 → gs Γ bs s2 → gs Γ (as ++ bs) (s1 ++ s2)
  | [], _, [], _, _, h => h
  | [], _, _ :: _, _, h, _ => h.elim
  | _ :: _, _, [], _, h, _ => h.elim
  | _ :: _, _, _ :: _, _, h, h2 => ⟨h.1, gs_cat h.2 h2⟩
theorem gs_rev {Γ : gE} : ∀ {as : List gV} {st : List Value}, gs Γ as st → gs Γ as.reverse st.reverse
  | [], [], _ => trivial
  | [], _ :: _, h => h.elim
  | _ :: _, [], h => h.elim
  | _ :: _, _ :: _, h => by
    rw [List.reverse_cons, List.reverse_cons]
    exact gs_cat (gs_rev h.2) ⟨h.1, trivial⟩
theorem gs_len {Γ : gE} : ∀ {as : List gV} {st : List Value}, gs Γ as st → st.length = as.length
  | [], [], _ => rfl
  | [], _ :: _, h => h.elim
  | _ :: _, [], h => h.elim
  | _ :: _, _ :: _, h => by rw [List.length_cons, List.length_cons, gs_len h.2]
/-- room on the operand stack -/
def gcs : List gV → Nat
  | [] => 0
  | .inl _ :: r => gcs r + 1
  | .inr (.inl _) :: r => gcs r + 1
  | _ :: r => gcs r + 2
theorem gs_room {Γ : gE} : ∀ {as : List gV} {st : List Value}, gs Γ as st → (st.map fun v => v.category).sum ≤ gcs as
  | [], [], _ => Nat.le_refl _
  | [], _ :: _, h => h.elim
  | _ :: _, [], h => h.elim
  | .inl _ :: _, _ :: _, h => by
    obtain ⟨⟨y, rfl, -⟩, h2⟩ := h
    have := gs_room h2
    have hc : (Value.int y).category = 1 := rfl
    simp only [List.map_cons, List.sum_cons, hc, gcs]
    omega
  | .inr (.inl o) :: _, w :: _, h => by
    obtain ⟨h1, h2⟩ := h
    have := gs_room h2
    have hc : w.category = 1 := by
      have h1 : w = va_rf (o.map (ga Γ)) := h1
      rw [h1]
      cases o <;> rfl
    simp only [List.map_cons, List.sum_cons, hc, gcs]
    omega
  | .inr (.inr _) :: _, w :: _, h => by
    obtain ⟨h1, h2⟩ := h
    have := gs_room h2
    have hc := lv_cat w
    simp only [List.map_cons, List.sum_cons, gcs]
    omega
theorem gl_set {Γ : gE} {nL i : Nat} {loc : List gV} {ls' : Array Slot} {lv : List (Nat × Value)} {v : gV} {w : Value} (h : (∀ (j : Nat) (x : Int), loc[j]? = some (gI x) → ∃ y : Int32, (j, Value.int y) ∈ lv ∧ y.toInt = x) ∧ ∀ (j : Nat) (o : Option Nat), loc[j]? = some (gR o) → (j, va_rf (o.map (ga Γ))) ∈ lv)
    (h2 : lv_has ls' nL ((i, w) :: lv.filter (fun q => !(q.1 == i) && !(q.1 + 1 == i && q.2.category == 2)))) (hv : gr Γ v w) : gl Γ nL (loc.set i v) ls' := by
  refine ⟨_, h2, fun j x hj => ?_, fun j o hj => ?_⟩
  · rw [List.getElem?_set] at hj
    split at hj
    · rename_i e
      subst e
      split at hj
      · cases Option.some.inj hj
        obtain ⟨y, rfl, hy⟩ := hv
        exact ⟨y, List.mem_cons_self, hy⟩
      · cases hj
    · rename_i e
      obtain ⟨y, hm, hy⟩ := h.1 j x hj
      refine ⟨y, List.mem_cons_of_mem _ (List.mem_filter.mpr ⟨hm, ?_⟩), hy⟩
      simp [Value.category, Ne.symm e]
  · rw [List.getElem?_set] at hj
    split at hj
    · rename_i e
      subst e
      split at hj
      · cases Option.some.inj hj
        have hv : w = va_rf (o.map (ga Γ)) := hv
        rw [hv]
        exact List.mem_cons_self
      · cases hj
    · rename_i e
      refine List.mem_cons_of_mem _ (List.mem_filter.mpr ⟨h.2 j o hj, ?_⟩)
      cases o <;> simp [Value.category, va_rf, Ne.symm e]
end GLEM

section GROW
def gadd (a b : Int) : Int := (Int32.ofInt a + Int32.ofInt b).toInt
def gsub (a b : Int) : Int := (Int32.ofInt a - Int32.ofInt b).toInt
def gmul (a b : Int) : Int := (Int32.ofInt a * Int32.ofInt b).toInt
def gand (a b : Int) : Int := (Int32.ofInt a &&& Int32.ofInt b).toInt
def gor (a b : Int) : Int := (Int32.ofInt a ||| Int32.ofInt b).toInt
def gxor (a b : Int) : Int := (Int32.ofInt a ^^^ Int32.ofInt b).toInt
def gshl (a b : Int) : Int := (Int32.ofInt a <<< (Int32.ofInt b &&& 31)).toInt
def gshr (a b : Int) : Int := (Int32.ofInt a >>> (Int32.ofInt b &&& 31)).toInt
def gdiv (a b : Int) : Int := (Int32.ofInt a / Int32.ofInt b).toInt
def grem (a b : Int) : Int := (Int32.ofInt a - Int32.ofInt a / Int32.ofInt b * Int32.ofInt b).toInt
def gcmp (a b : Int) : Int := if b < a then 1 else if a = b then 0 else -1
variable {π : gP} {mi : gM} {pc : Nat} {loc stk : List gV} {h : gH} {mc ms : Nat} {Q : Option (Option gV) → gH → Prop}
theorem g_iadd {a b : Int} (hd : decode mi.2.1 pc = .ok (.iadd, 1)) (k : G π mi (pc + 1) loc (gI (gadd a b) :: stk) h mc ms Q) : G π mi pc loc (gI b :: gI a :: stk) h mc ms Q := by
  intro Γ p e R s m args below meth c QE H locs cells slots ls st hC hE hH hl hs hS h1 h2
  obtain ⟨y, st, e9, hy, hs9⟩ := gs_int hs; subst e9; clear hs; have hs := hs9; clear hs9
  obtain ⟨x, st, e9, hx, hs9⟩ := gs_int hs; subst e9; clear hs; have hs := hs9; clear hs9
  exact lv_iadd hC.1 hC.2.1 hd (k Γ p e R s m args below meth c QE H locs cells slots ls _ hC hE hH hl ⟨⟨_, rfl, by rw [← hx, ← hy]; simp only [gadd, Int32.ofInt_toInt]⟩, hs⟩ hS h1 h2)
theorem g_isub {a b : Int} (hd : decode mi.2.1 pc = .ok (.isub, 1)) (k : G π mi (pc + 1) loc (gI (gsub a b) :: stk) h mc ms Q) : G π mi pc loc (gI b :: gI a :: stk) h mc ms Q := by
  intro Γ p e R s m args below meth c QE H locs cells slots ls st hC hE hH hl hs hS h1 h2
  obtain ⟨y, st, e9, hy, hs9⟩ := gs_int hs; subst e9; clear hs; have hs := hs9; clear hs9
  obtain ⟨x, st, e9, hx, hs9⟩ := gs_int hs; subst e9; clear hs; have hs := hs9; clear hs9
  exact lv_isub hC.1 hC.2.1 hd (k Γ p e R s m args below meth c QE H locs cells slots ls _ hC hE hH hl ⟨⟨_, rfl, by rw [← hx, ← hy]; simp only [gsub, Int32.ofInt_toInt]⟩, hs⟩ hS h1 h2)
theorem g_imul {a b : Int} (hd : decode mi.2.1 pc = .ok (.imul, 1)) (k : G π mi (pc + 1) loc (gI (gmul a b) :: stk) h mc ms Q) : G π mi pc loc (gI b :: gI a :: stk) h mc ms Q := by
  intro Γ p e R s m args below meth c QE H locs cells slots ls st hC hE hH hl hs hS h1 h2
  obtain ⟨y, st, e9, hy, hs9⟩ := gs_int hs; subst e9; clear hs; have hs := hs9; clear hs9
  obtain ⟨x, st, e9, hx, hs9⟩ := gs_int hs; subst e9; clear hs; have hs := hs9; clear hs9
  exact lv_imul hC.1 hC.2.1 hd (k Γ p e R s m args below meth c QE H locs cells slots ls _ hC hE hH hl ⟨⟨_, rfl, by rw [← hx, ← hy]; simp only [gmul, Int32.ofInt_toInt]⟩, hs⟩ hS h1 h2)
theorem g_iand {a b : Int} (hd : decode mi.2.1 pc = .ok (.iand, 1)) (k : G π mi (pc + 1) loc (gI (gand a b) :: stk) h mc ms Q) : G π mi pc loc (gI b :: gI a :: stk) h mc ms Q := by
  intro Γ p e R s m args below meth c QE H locs cells slots ls st hC hE hH hl hs hS h1 h2
  obtain ⟨y, st, e9, hy, hs9⟩ := gs_int hs; subst e9; clear hs; have hs := hs9; clear hs9
  obtain ⟨x, st, e9, hx, hs9⟩ := gs_int hs; subst e9; clear hs; have hs := hs9; clear hs9
  exact lv_iand hC.1 hC.2.1 hd (k Γ p e R s m args below meth c QE H locs cells slots ls _ hC hE hH hl ⟨⟨_, rfl, by rw [← hx, ← hy]; simp only [gand, Int32.ofInt_toInt]⟩, hs⟩ hS h1 h2)
theorem g_ior {a b : Int} (hd : decode mi.2.1 pc = .ok (.ior, 1)) (k : G π mi (pc + 1) loc (gI (gor a b) :: stk) h mc ms Q) : G π mi pc loc (gI b :: gI a :: stk) h mc ms Q := by
  intro Γ p e R s m args below meth c QE H locs cells slots ls st hC hE hH hl hs hS h1 h2
  obtain ⟨y, st, e9, hy, hs9⟩ := gs_int hs; subst e9; clear hs; have hs := hs9; clear hs9
  obtain ⟨x, st, e9, hx, hs9⟩ := gs_int hs; subst e9; clear hs; have hs := hs9; clear hs9
  exact lv_ior hC.1 hC.2.1 hd (k Γ p e R s m args below meth c QE H locs cells slots ls _ hC hE hH hl ⟨⟨_, rfl, by rw [← hx, ← hy]; simp only [gor, Int32.ofInt_toInt]⟩, hs⟩ hS h1 h2)
theorem g_ixor {a b : Int} (hd : decode mi.2.1 pc = .ok (.ixor, 1)) (k : G π mi (pc + 1) loc (gI (gxor a b) :: stk) h mc ms Q) : G π mi pc loc (gI b :: gI a :: stk) h mc ms Q := by
  intro Γ p e R s m args below meth c QE H locs cells slots ls st hC hE hH hl hs hS h1 h2
  obtain ⟨y, st, e9, hy, hs9⟩ := gs_int hs; subst e9; clear hs; have hs := hs9; clear hs9
  obtain ⟨x, st, e9, hx, hs9⟩ := gs_int hs; subst e9; clear hs; have hs := hs9; clear hs9
  exact lv_ixor hC.1 hC.2.1 hd (k Γ p e R s m args below meth c QE H locs cells slots ls _ hC hE hH hl ⟨⟨_, rfl, by rw [← hx, ← hy]; simp only [gxor, Int32.ofInt_toInt]⟩, hs⟩ hS h1 h2)
theorem g_ishl {a b : Int} (hd : decode mi.2.1 pc = .ok (.ishl, 1)) (k : G π mi (pc + 1) loc (gI (gshl a b) :: stk) h mc ms Q) : G π mi pc loc (gI b :: gI a :: stk) h mc ms Q := by
  intro Γ p e R s m args below meth c QE H locs cells slots ls st hC hE hH hl hs hS h1 h2
  obtain ⟨y, st, e9, hy, hs9⟩ := gs_int hs; subst e9; clear hs; have hs := hs9; clear hs9
  obtain ⟨x, st, e9, hx, hs9⟩ := gs_int hs; subst e9; clear hs; have hs := hs9; clear hs9
  exact lv_ishl hC.1 hC.2.1 hd (k Γ p e R s m args below meth c QE H locs cells slots ls _ hC hE hH hl ⟨⟨_, rfl, by rw [← hx, ← hy]; simp only [gshl, Int32.ofInt_toInt]⟩, hs⟩ hS h1 h2)
theorem g_ishr {a b : Int} (hd : decode mi.2.1 pc = .ok (.ishr, 1)) (k : G π mi (pc + 1) loc (gI (gshr a b) :: stk) h mc ms Q) : G π mi pc loc (gI b :: gI a :: stk) h mc ms Q := by
  intro Γ p e R s m args below meth c QE H locs cells slots ls st hC hE hH hl hs hS h1 h2
  obtain ⟨y, st, e9, hy, hs9⟩ := gs_int hs; subst e9; clear hs; have hs := hs9; clear hs9
  obtain ⟨x, st, e9, hx, hs9⟩ := gs_int hs; subst e9; clear hs; have hs := hs9; clear hs9
  exact lv_ishr hC.1 hC.2.1 hd (k Γ p e R s m args below meth c QE H locs cells slots ls _ hC hE hH hl ⟨⟨_, rfl, by rw [← hx, ← hy]; simp only [gshr, Int32.ofInt_toInt]⟩, hs⟩ hS h1 h2)
theorem g_idiv {a b : Int} (hd : decode mi.2.1 pc = .ok (.idiv, 1)) (hne : b ≠ 0) (k : G π mi (pc + 1) loc (gI (gdiv a b) :: stk) h mc ms Q) : G π mi pc loc (gI b :: gI a :: stk) h mc ms Q := by
  intro Γ p e R s m args below meth c QE H locs cells slots ls st hC hE hH hl hs hS h1 h2
  obtain ⟨y, st, e9, hy, hs9⟩ := gs_int hs; subst e9; clear hs; have hs := hs9; clear hs9
  obtain ⟨x, st, e9, hx, hs9⟩ := gs_int hs; subst e9; clear hs; have hs := hs9; clear hs9
  exact lv_idiv hC.1 hC.2.1 hd (fun z => hne (by rw [← hy, z]; rfl)) (k Γ p e R s m args below meth c QE H locs cells slots ls _ hC hE hH hl ⟨⟨_, rfl, by rw [← hx, ← hy]; simp only [gdiv, Int32.ofInt_toInt]⟩, hs⟩ hS h1 h2)
theorem g_irem {a b : Int} (hd : decode mi.2.1 pc = .ok (.irem, 1)) (hne : b ≠ 0) (k : G π mi (pc + 1) loc (gI (grem a b) :: stk) h mc ms Q) : G π mi pc loc (gI b :: gI a :: stk) h mc ms Q := by
  intro Γ p e R s m args below meth c QE H locs cells slots ls st hC hE hH hl hs hS h1 h2
  obtain ⟨y, st, e9, hy, hs9⟩ := gs_int hs; subst e9; clear hs; have hs := hs9; clear hs9
  obtain ⟨x, st, e9, hx, hs9⟩ := gs_int hs; subst e9; clear hs; have hs := hs9; clear hs9
  exact lv_irem hC.1 hC.2.1 hd (fun z => hne (by rw [← hy, z]; rfl)) (k Γ p e R s m args below meth c QE H locs cells slots ls _ hC hE hH hl ⟨⟨_, rfl, by rw [← hx, ← hy]; simp only [grem, Int32.ofInt_toInt]⟩, hs⟩ hS h1 h2)
theorem g_iconst {n x : Int} (hd : decode mi.2.1 pc = .ok (.iconst n, 1)) (hv : (Int32.ofInt n).toInt = x) (k : G π mi (pc + 1) loc (gI x :: stk) h mc ms Q) : G π mi pc loc stk h mc ms Q := by
  intro Γ p e R s m args below meth c QE H locs cells slots ls st hC hE hH hl hs hS h1 h2
  exact lv_iconst hC.1 hC.2.1 hd rfl (k Γ p e R s m args below meth c QE H locs cells slots ls _ hC hE hH hl ⟨⟨_, rfl, hv⟩, hs⟩ hS h1 h2)
theorem g_bipush {n x : Int} (hd : decode mi.2.1 pc = .ok (.bipush n, 2)) (hv : ((Int8.ofInt n).toInt32).toInt = x) (k : G π mi (pc + 2) loc (gI x :: stk) h mc ms Q) : G π mi pc loc stk h mc ms Q := by
  intro Γ p e R s m args below meth c QE H locs cells slots ls st hC hE hH hl hs hS h1 h2
  exact lv_bipush hC.1 hC.2.1 hd rfl (k Γ p e R s m args below meth c QE H locs cells slots ls _ hC hE hH hl ⟨⟨_, rfl, hv⟩, hs⟩ hS h1 h2)
theorem g_sipush {n x : Int} (hd : decode mi.2.1 pc = .ok (.sipush n, 3)) (hv : ((Int16.ofInt n).toInt32).toInt = x) (k : G π mi (pc + 3) loc (gI x :: stk) h mc ms Q) : G π mi pc loc stk h mc ms Q := by
  intro Γ p e R s m args below meth c QE H locs cells slots ls st hC hE hH hl hs hS h1 h2
  exact lv_sipush hC.1 hC.2.1 hd rfl (k Γ p e R s m args below meth c QE H locs cells slots ls _ hC hE hH hl ⟨⟨_, rfl, hv⟩, hs⟩ hS h1 h2)
theorem g_null (hd : decode mi.2.1 pc = .ok (.aconst_null, 1)) (k : G π mi (pc + 1) loc (gR none :: stk) h mc ms Q) : G π mi pc loc stk h mc ms Q := by
  intro Γ p e R s m args below meth c QE H locs cells slots ls st hC hE hH hl hs hS h1 h2
  exact lv_null hC.1 hC.2.1 hd (k Γ p e R s m args below meth c QE H locs cells slots ls _ hC hE hH hl ⟨rfl, hs⟩ hS h1 h2)
theorem g_lconst {n : Fin 2} {x : Int} (hd : decode mi.2.1 pc = .ok (.lconst n, 1)) (hv : (Int64.ofNat (n : Nat)).toInt = x) (k : G π mi (pc + 1) loc (gL x :: stk) h mc ms Q) : G π mi pc loc stk h mc ms Q := by
  intro Γ p e R s m args below meth c QE H locs cells slots ls st hC hE hH hl hs hS h1 h2
  exact lv_lconst hC.1 hC.2.1 hd rfl (k Γ p e R s m args below meth c QE H locs cells slots ls _ hC hE hH hl ⟨⟨_, rfl, hv⟩, hs⟩ hS h1 h2)
theorem g_i2l {a : Int} (hd : decode mi.2.1 pc = .ok (.i2l, 1)) (k : G π mi (pc + 1) loc (gL a :: stk) h mc ms Q) : G π mi pc loc (gI a :: stk) h mc ms Q := by
  intro Γ p e R s m args below meth c QE H locs cells slots ls st hC hE hH hl hs hS h1 h2
  obtain ⟨y, st, e9, hy, hs9⟩ := gs_int hs; subst e9; clear hs; have hs := hs9; clear hs9
  exact lv_i2l hC.1 hC.2.1 hd rfl (k Γ p e R s m args below meth c QE H locs cells slots ls _ hC hE hH hl ⟨⟨_, rfl, by rw [Int32.toInt_toInt64]; exact hy⟩, hs⟩ hS h1 h2)
theorem g_lcmp {a b : Int} (hd : decode mi.2.1 pc = .ok (.lcmp, 1)) (k : G π mi (pc + 1) loc (gI (gcmp a b) :: stk) h mc ms Q) : G π mi pc loc (gL b :: gL a :: stk) h mc ms Q := by
  intro Γ p e R s m args below meth c QE H locs cells slots ls st hC hE hH hl hs hS h1 h2
  obtain ⟨y, st, e9, hy, hs9⟩ := gs_long hs; subst e9; clear hs; have hs := hs9; clear hs9
  obtain ⟨x, st, e9, hx, hs9⟩ := gs_long hs; subst e9; clear hs; have hs := hs9; clear hs9
  refine W.lcmp hC.1 hC.2.1 hd (k Γ p e R s m args below meth c QE H locs cells slots ls _ hC hE hH hl ⟨⟨_, rfl, ?_⟩, hs⟩ hS h1 h2)
  rw [← hx, ← hy]
  unfold lg_cmp gcmp
  simp only [gt_iff_lt, Int64.lt_iff_toInt_lt, ← Int64.toInt_inj]
  split
  · rfl
  · split <;> rfl
theorem g_iload_n {k : Fin 4} {i : Nat} {x : Int} (hd : decode mi.2.1 pc = .ok (.iload_n k, 1)) (hi : (k : Nat) = i) (hx : loc[i]? = some (gI x)) (kk : G π mi (pc + 1) loc (gI x :: stk) h mc ms Q) : G π mi pc loc stk h mc ms Q := by
  intro Γ p e R s m args below meth c QE H locs cells slots ls st hC hE hH hl hs hS h1 h2
  obtain ⟨lv, v1, v2, v3⟩ := id hl
  obtain ⟨y, hm, hy⟩ := v2 i x hx
  exact lv_iload_n hC.1 hC.2.1 hd hi (v1.2.2 _ hm) (kk Γ p e R s m args below meth c QE H locs cells slots ls _ hC hE hH hl ⟨⟨_, rfl, hy⟩, hs⟩ hS h1 h2)
theorem g_iload {i : Nat} {x : Int} (hd : decode mi.2.1 pc = .ok (.iload i, 2)) (hx : loc[i]? = some (gI x)) (kk : G π mi (pc + 2) loc (gI x :: stk) h mc ms Q) : G π mi pc loc stk h mc ms Q := by
  intro Γ p e R s m args below meth c QE H locs cells slots ls st hC hE hH hl hs hS h1 h2
  obtain ⟨lv, v1, v2, v3⟩ := id hl
  obtain ⟨y, hm, hy⟩ := v2 i x hx
  exact lv_iload hC.1 hC.2.1 hd (v1.2.2 _ hm) (kk Γ p e R s m args below meth c QE H locs cells slots ls _ hC hE hH hl ⟨⟨_, rfl, hy⟩, hs⟩ hS h1 h2)
theorem g_aload_n {k : Fin 4} {i : Nat} {o : Option Nat} (hd : decode mi.2.1 pc = .ok (.aload_n k, 1)) (hi : (k : Nat) = i) (hx : loc[i]? = some (gR o)) (kk : G π mi (pc + 1) loc (gR o :: stk) h mc ms Q) : G π mi pc loc stk h mc ms Q := by
  intro Γ p e R s m args below meth c QE H locs cells slots ls st hC hE hH hl hs hS h1 h2
  obtain ⟨lv, v1, v2, v3⟩ := id hl
  have hm := v1.2.2 _ (v3 i o hx)
  have k9 := kk Γ p e R s m args below meth c QE H locs cells slots ls (va_rf (o.map (ga Γ)) :: st) hC hE hH hl ⟨rfl, hs⟩ hS h1 h2
  cases o with
  | none => exact lv_aload_nN hC.1 hC.2.1 hd hi hm k9
  | some n => exact lv_aload_n hC.1 hC.2.1 hd hi hm k9
theorem g_aload {i : Nat} {o : Option Nat} (hd : decode mi.2.1 pc = .ok (.aload i, 2)) (hx : loc[i]? = some (gR o)) (kk : G π mi (pc + 2) loc (gR o :: stk) h mc ms Q) : G π mi pc loc stk h mc ms Q := by
  intro Γ p e R s m args below meth c QE H locs cells slots ls st hC hE hH hl hs hS h1 h2
  obtain ⟨lv, v1, v2, v3⟩ := id hl
  have hm := v1.2.2 _ (v3 i o hx)
  have k9 := kk Γ p e R s m args below meth c QE H locs cells slots ls (va_rf (o.map (ga Γ)) :: st) hC hE hH hl ⟨rfl, hs⟩ hS h1 h2
  cases o with
  | none => exact lv_aloadN hC.1 hC.2.1 hd hm k9
  | some n => exact lv_aload hC.1 hC.2.1 hd hm k9
theorem g_istore_n {k : Fin 4} {i : Nat} {x : Int} (hd : decode mi.2.1 pc = .ok (.istore_n k, 1)) (hi : (k : Nat) = i) (hn : i < mi.2.2.1) (kk : G π mi (pc + 1) (loc.set i (gI x)) stk h mc ms Q) : G π mi pc loc (gI x :: stk) h mc ms Q := by
  intro Γ p e R s m args below meth c QE H locs cells slots ls st hC hE hH hl hs hS h1 h2
  obtain ⟨y, st, e9, hy, hs9⟩ := gs_int hs; subst e9; clear hs; have hs := hs9; clear hs9
  obtain ⟨lv, v1, v2⟩ := hl
  exact lv_istore_n hC.1 hC.2.1 hd hi v1 hn rfl fun ls' h9 => kk Γ p e R s m args below meth c QE H locs cells slots ls' _ hC hE hH (gl_set v2 h9 ⟨_, rfl, hy⟩) hs hS h1 h2
theorem g_istore {i : Nat} {x : Int} (hd : decode mi.2.1 pc = .ok (.istore i, 2)) (hn : i < mi.2.2.1) (kk : G π mi (pc + 2) (loc.set i (gI x)) stk h mc ms Q) : G π mi pc loc (gI x :: stk) h mc ms Q := by
  intro Γ p e R s m args below meth c QE H locs cells slots ls st hC hE hH hl hs hS h1 h2
  obtain ⟨y, st, e9, hy, hs9⟩ := gs_int hs; subst e9; clear hs; have hs := hs9; clear hs9
  obtain ⟨lv, v1, v2⟩ := hl
  exact lv_istore hC.1 hC.2.1 hd v1 hn rfl fun ls' h9 => kk Γ p e R s m args below meth c QE H locs cells slots ls' _ hC hE hH (gl_set v2 h9 ⟨_, rfl, hy⟩) hs hS h1 h2
theorem g_astore_n {k : Fin 4} {i : Nat} {o : Option Nat} (hd : decode mi.2.1 pc = .ok (.astore_n k, 1)) (hi : (k : Nat) = i) (hn : i < mi.2.2.1) (kk : G π mi (pc + 1) (loc.set i (gR o)) stk h mc ms Q) : G π mi pc loc (gR o :: stk) h mc ms Q := by
  intro Γ p e R s m args below meth c QE H locs cells slots ls st hC hE hH hl hs hS h1 h2
  obtain ⟨st, e9, hs9⟩ := gs_ref hs; subst e9; clear hs; have hs := hs9; clear hs9
  obtain ⟨lv, v1, v2⟩ := hl
  cases o with
  | none => exact lv_astore_nN hC.1 hC.2.1 hd hi v1 hn rfl fun ls' h9 => kk Γ p e R s m args below meth c QE H locs cells slots ls' _ hC hE hH (gl_set v2 h9 rfl) hs hS h1 h2
  | some n => exact lv_astore_n hC.1 hC.2.1 hd hi v1 hn rfl fun ls' h9 => kk Γ p e R s m args below meth c QE H locs cells slots ls' _ hC hE hH (gl_set v2 h9 rfl) hs hS h1 h2
theorem g_astore {i : Nat} {o : Option Nat} (hd : decode mi.2.1 pc = .ok (.astore i, 2)) (hn : i < mi.2.2.1) (kk : G π mi (pc + 2) (loc.set i (gR o)) stk h mc ms Q) : G π mi pc loc (gR o :: stk) h mc ms Q := by
  intro Γ p e R s m args below meth c QE H locs cells slots ls st hC hE hH hl hs hS h1 h2
  obtain ⟨st, e9, hs9⟩ := gs_ref hs; subst e9; clear hs; have hs := hs9; clear hs9
  obtain ⟨lv, v1, v2⟩ := hl
  cases o with
  | none => exact lv_astoreN hC.1 hC.2.1 hd v1 hn rfl fun ls' h9 => kk Γ p e R s m args below meth c QE H locs cells slots ls' _ hC hE hH (gl_set v2 h9 rfl) hs hS h1 h2
  | some n => exact lv_astore hC.1 hC.2.1 hd v1 hn rfl fun ls' h9 => kk Γ p e R s m args below meth c QE H locs cells slots ls' _ hC hE hH (gl_set v2 h9 rfl) hs hS h1 h2
theorem g_iinc {i : Nat} {n x : Int} (hd : decode mi.2.1 pc = .ok (.iinc i n, 3)) (hn : i < mi.2.2.1) (hx : loc[i]? = some (gI x)) (kk : G π mi (pc + 3) (loc.set i (gI (gadd x n))) stk h mc ms Q) : G π mi pc loc stk h mc ms Q := by
  intro Γ p e R s m args below meth c QE H locs cells slots ls st hC hE hH hl hs hS h1 h2
  obtain ⟨lv, v1, v2⟩ := hl
  obtain ⟨y, hm, hy⟩ := v2.1 i x hx
  obtain ⟨j, hj⟩ := List.mem_iff_getElem?.mp hm
  exact lv_iinc hC.1 hC.2.1 hd v1 hj rfl hn rfl fun ls' h9 => kk Γ p e R s m args below meth c QE H locs cells slots ls' _ hC hE hH (gl_set v2 h9 ⟨_, rfl, by rw [← hy]; simp only [gadd, Int32.ofInt_toInt]⟩) hs hS h1 h2
theorem g_dup {v : gV} (hv : (∃ x, v = gI x) ∨ ∃ o, v = gR o) (hd : decode mi.2.1 pc = .ok (.dup, 1)) (k : G π mi (pc + 1) loc (v :: v :: stk) h mc ms Q) : G π mi pc loc (v :: stk) h mc ms Q := by
  intro Γ p e R s m args below meth c QE H locs cells slots ls st hC hE hH hl hs hS h1 h2
  rcases hv with ⟨x, rfl⟩ | ⟨o, rfl⟩
  · obtain ⟨y, st, e9, hy, hs9⟩ := gs_int hs; subst e9; clear hs; have hs := hs9; clear hs9
    exact lv_dup hC.1 hC.2.1 hd rfl (k Γ p e R s m args below meth c QE H locs cells slots ls _ hC hE hH hl ⟨⟨_, rfl, hy⟩, ⟨_, rfl, hy⟩, hs⟩ hS h1 h2)
  · obtain ⟨st, e9, hs9⟩ := gs_ref hs; subst e9; clear hs; have hs := hs9; clear hs9
    exact lv_dup hC.1 hC.2.1 hd (by cases o <;> rfl) (k Γ p e R s m args below meth c QE H locs cells slots ls _ hC hE hH hl ⟨rfl, rfl, hs⟩ hS h1 h2)
theorem g_dup2 {x : Int} {o : Option Nat} (hd : decode mi.2.1 pc = .ok (.dup2, 1)) (k : G π mi (pc + 1) loc (gI x :: gR o :: gI x :: gR o :: stk) h mc ms Q) : G π mi pc loc (gI x :: gR o :: stk) h mc ms Q := by
  intro Γ p e R s m args below meth c QE H locs cells slots ls st hC hE hH hl hs hS h1 h2
  obtain ⟨y, st, e9, hy, hs9⟩ := gs_int hs; subst e9; clear hs; have hs := hs9; clear hs9
  obtain ⟨st, e9, hs9⟩ := gs_ref hs; subst e9; clear hs; have hs := hs9; clear hs9
  exact lv_dup2_11 hC.1 hC.2.1 hd rfl (by cases o <;> rfl) (k Γ p e R s m args below meth c QE H locs cells slots ls _ hC hE hH hl ⟨⟨_, rfl, hy⟩, rfl, ⟨_, rfl, hy⟩, rfl, hs⟩ hS h1 h2)
theorem g_goto {off : Int} {tgt : Nat} (hd : decode mi.2.1 pc = .ok (.goto off, 3)) (ht : (pc : Int) + off = (tgt : Int)) (k : G π mi tgt loc stk h mc ms Q) : G π mi pc loc stk h mc ms Q := by
  intro Γ p e R s m args below meth c QE H locs cells slots ls st hC hE hH hl hs hS h1 h2
  exact lv_goto hC.1 hC.2.1 hd ht (k Γ p e R s m args below meth c QE H locs cells slots ls _ hC hE hH hl hs hS h1 h2)
theorem g_icmp_eq {a b off : Int} {tgt : Nat} (hd : decode mi.2.1 pc = .ok (.if_icmp .eq off, 3)) (ht : (pc : Int) + off = (tgt : Int)) (kt : a = b → G π mi tgt loc stk h mc ms Q) (kf : a ≠ b → G π mi (pc + 3) loc stk h mc ms Q) : G π mi pc loc (gI b :: gI a :: stk) h mc ms Q := by
  intro Γ p e R s m args below meth c QE H locs cells slots ls st hC hE hH hl hs hS h1 h2
  obtain ⟨y, st, e9, hy, hs9⟩ := gs_int hs; subst e9; clear hs; have hs := hs9; clear hs9
  obtain ⟨x, st, e9, hx, hs9⟩ := gs_int hs; subst e9; clear hs; have hs := hs9; clear hs9
  refine lv_icmp_eq hC.1 hC.2.1 hd ht (fun z => (kt ?_ Γ p e R s m args below meth c QE H locs cells slots ls _ hC hE hH hl hs hS h1 h2)) (fun z => (kf ?_ Γ p e R s m args below meth c QE H locs cells slots ls _ hC hE hH hl hs hS h1 h2))
  · simp only [Int32.lt_iff_toInt_lt, Int32.le_iff_toInt_le, ← Int32.toInt_inj] at z
    omega
  · simp only [Int32.lt_iff_toInt_lt, Int32.le_iff_toInt_le, ← Int32.toInt_inj] at z
    omega
theorem g_icmp_ne {a b off : Int} {tgt : Nat} (hd : decode mi.2.1 pc = .ok (.if_icmp .ne off, 3)) (ht : (pc : Int) + off = (tgt : Int)) (kt : a ≠ b → G π mi tgt loc stk h mc ms Q) (kf : a = b → G π mi (pc + 3) loc stk h mc ms Q) : G π mi pc loc (gI b :: gI a :: stk) h mc ms Q := by
  intro Γ p e R s m args below meth c QE H locs cells slots ls st hC hE hH hl hs hS h1 h2
  obtain ⟨y, st, e9, hy, hs9⟩ := gs_int hs; subst e9; clear hs; have hs := hs9; clear hs9
  obtain ⟨x, st, e9, hx, hs9⟩ := gs_int hs; subst e9; clear hs; have hs := hs9; clear hs9
  refine lv_icmp_ne hC.1 hC.2.1 hd ht (fun z => (kt ?_ Γ p e R s m args below meth c QE H locs cells slots ls _ hC hE hH hl hs hS h1 h2)) (fun z => (kf ?_ Γ p e R s m args below meth c QE H locs cells slots ls _ hC hE hH hl hs hS h1 h2))
  · simp only [Int32.lt_iff_toInt_lt, Int32.le_iff_toInt_le, ← Int32.toInt_inj] at z
    omega
  · simp only [Int32.lt_iff_toInt_lt, Int32.le_iff_toInt_le, ← Int32.toInt_inj] at z
    omega
theorem g_icmp_lt {a b off : Int} {tgt : Nat} (hd : decode mi.2.1 pc = .ok (.if_icmp .lt off, 3)) (ht : (pc : Int) + off = (tgt : Int)) (kt : a < b → G π mi tgt loc stk h mc ms Q) (kf : b ≤ a → G π mi (pc + 3) loc stk h mc ms Q) : G π mi pc loc (gI b :: gI a :: stk) h mc ms Q := by
  intro Γ p e R s m args below meth c QE H locs cells slots ls st hC hE hH hl hs hS h1 h2
  obtain ⟨y, st, e9, hy, hs9⟩ := gs_int hs; subst e9; clear hs; have hs := hs9; clear hs9
  obtain ⟨x, st, e9, hx, hs9⟩ := gs_int hs; subst e9; clear hs; have hs := hs9; clear hs9
  refine lv_icmp_lt hC.1 hC.2.1 hd ht (fun z => (kt ?_ Γ p e R s m args below meth c QE H locs cells slots ls _ hC hE hH hl hs hS h1 h2)) (fun z => (kf ?_ Γ p e R s m args below meth c QE H locs cells slots ls _ hC hE hH hl hs hS h1 h2))
  · simp only [Int32.lt_iff_toInt_lt, Int32.le_iff_toInt_le, ← Int32.toInt_inj] at z
    omega
  · simp only [Int32.lt_iff_toInt_lt, Int32.le_iff_toInt_le, ← Int32.toInt_inj] at z
    omega
theorem g_icmp_ge {a b off : Int} {tgt : Nat} (hd : decode mi.2.1 pc = .ok (.if_icmp .ge off, 3)) (ht : (pc : Int) + off = (tgt : Int)) (kt : b ≤ a → G π mi tgt loc stk h mc ms Q) (kf : a < b → G π mi (pc + 3) loc stk h mc ms Q) : G π mi pc loc (gI b :: gI a :: stk) h mc ms Q := by
  intro Γ p e R s m args below meth c QE H locs cells slots ls st hC hE hH hl hs hS h1 h2
  obtain ⟨y, st, e9, hy, hs9⟩ := gs_int hs; subst e9; clear hs; have hs := hs9; clear hs9
  obtain ⟨x, st, e9, hx, hs9⟩ := gs_int hs; subst e9; clear hs; have hs := hs9; clear hs9
  refine lv_icmp_ge hC.1 hC.2.1 hd ht (fun z => (kt ?_ Γ p e R s m args below meth c QE H locs cells slots ls _ hC hE hH hl hs hS h1 h2)) (fun z => (kf ?_ Γ p e R s m args below meth c QE H locs cells slots ls _ hC hE hH hl hs hS h1 h2))
  · simp only [Int32.lt_iff_toInt_lt, Int32.le_iff_toInt_le, ← Int32.toInt_inj] at z
    omega
  · simp only [Int32.lt_iff_toInt_lt, Int32.le_iff_toInt_le, ← Int32.toInt_inj] at z
    omega
theorem g_icmp_gt {a b off : Int} {tgt : Nat} (hd : decode mi.2.1 pc = .ok (.if_icmp .gt off, 3)) (ht : (pc : Int) + off = (tgt : Int)) (kt : b < a → G π mi tgt loc stk h mc ms Q) (kf : a ≤ b → G π mi (pc + 3) loc stk h mc ms Q) : G π mi pc loc (gI b :: gI a :: stk) h mc ms Q := by
  intro Γ p e R s m args below meth c QE H locs cells slots ls st hC hE hH hl hs hS h1 h2
  obtain ⟨y, st, e9, hy, hs9⟩ := gs_int hs; subst e9; clear hs; have hs := hs9; clear hs9
  obtain ⟨x, st, e9, hx, hs9⟩ := gs_int hs; subst e9; clear hs; have hs := hs9; clear hs9
  refine lv_icmp_gt hC.1 hC.2.1 hd ht (fun z => (kt ?_ Γ p e R s m args below meth c QE H locs cells slots ls _ hC hE hH hl hs hS h1 h2)) (fun z => (kf ?_ Γ p e R s m args below meth c QE H locs cells slots ls _ hC hE hH hl hs hS h1 h2))
  · simp only [Int32.lt_iff_toInt_lt, Int32.le_iff_toInt_le, ← Int32.toInt_inj] at z
    omega
  · simp only [Int32.lt_iff_toInt_lt, Int32.le_iff_toInt_le, ← Int32.toInt_inj] at z
    omega
theorem g_icmp_le {a b off : Int} {tgt : Nat} (hd : decode mi.2.1 pc = .ok (.if_icmp .le off, 3)) (ht : (pc : Int) + off = (tgt : Int)) (kt : a ≤ b → G π mi tgt loc stk h mc ms Q) (kf : b < a → G π mi (pc + 3) loc stk h mc ms Q) : G π mi pc loc (gI b :: gI a :: stk) h mc ms Q := by
  intro Γ p e R s m args below meth c QE H locs cells slots ls st hC hE hH hl hs hS h1 h2
  obtain ⟨y, st, e9, hy, hs9⟩ := gs_int hs; subst e9; clear hs; have hs := hs9; clear hs9
  obtain ⟨x, st, e9, hx, hs9⟩ := gs_int hs; subst e9; clear hs; have hs := hs9; clear hs9
  refine lv_icmp_le hC.1 hC.2.1 hd ht (fun z => (kt ?_ Γ p e R s m args below meth c QE H locs cells slots ls _ hC hE hH hl hs hS h1 h2)) (fun z => (kf ?_ Γ p e R s m args below meth c QE H locs cells slots ls _ hC hE hH hl hs hS h1 h2))
  · simp only [Int32.lt_iff_toInt_lt, Int32.le_iff_toInt_le, ← Int32.toInt_inj] at z
    omega
  · simp only [Int32.lt_iff_toInt_lt, Int32.le_iff_toInt_le, ← Int32.toInt_inj] at z
    omega
theorem g_zero : (0 : Int32).toInt = 0 := rfl
theorem g_if_eq {a off : Int} {tgt : Nat} (hd : decode mi.2.1 pc = .ok (.ifCond .eq off, 3)) (ht : (pc : Int) + off = (tgt : Int)) (kt : a = 0 → G π mi tgt loc stk h mc ms Q) (kf : a ≠ 0 → G π mi (pc + 3) loc stk h mc ms Q) : G π mi pc loc (gI a :: stk) h mc ms Q := by
  intro Γ p e R s m args below meth c QE H locs cells slots ls st hC hE hH hl hs hS h1 h2
  obtain ⟨x, st, e9, hx, hs9⟩ := gs_int hs; subst e9; clear hs; have hs := hs9; clear hs9
  refine lv_if_eq hC.1 hC.2.1 hd ht (fun z => (kt ?_ Γ p e R s m args below meth c QE H locs cells slots ls _ hC hE hH hl hs hS h1 h2)) (fun z => (kf ?_ Γ p e R s m args below meth c QE H locs cells slots ls _ hC hE hH hl hs hS h1 h2))
  · simp only [Int32.lt_iff_toInt_lt, Int32.le_iff_toInt_le, ← Int32.toInt_inj, g_zero] at z
    omega
  · simp only [Int32.lt_iff_toInt_lt, Int32.le_iff_toInt_le, ← Int32.toInt_inj, g_zero] at z
    omega
theorem g_if_ne {a off : Int} {tgt : Nat} (hd : decode mi.2.1 pc = .ok (.ifCond .ne off, 3)) (ht : (pc : Int) + off = (tgt : Int)) (kt : a ≠ 0 → G π mi tgt loc stk h mc ms Q) (kf : a = 0 → G π mi (pc + 3) loc stk h mc ms Q) : G π mi pc loc (gI a :: stk) h mc ms Q := by
  intro Γ p e R s m args below meth c QE H locs cells slots ls st hC hE hH hl hs hS h1 h2
  obtain ⟨x, st, e9, hx, hs9⟩ := gs_int hs; subst e9; clear hs; have hs := hs9; clear hs9
  refine lv_if_ne hC.1 hC.2.1 hd ht (fun z => (kt ?_ Γ p e R s m args below meth c QE H locs cells slots ls _ hC hE hH hl hs hS h1 h2)) (fun z => (kf ?_ Γ p e R s m args below meth c QE H locs cells slots ls _ hC hE hH hl hs hS h1 h2))
  · simp only [Int32.lt_iff_toInt_lt, Int32.le_iff_toInt_le, ← Int32.toInt_inj, g_zero] at z
    omega
  · simp only [Int32.lt_iff_toInt_lt, Int32.le_iff_toInt_le, ← Int32.toInt_inj, g_zero] at z
    omega
theorem g_if_lt {a off : Int} {tgt : Nat} (hd : decode mi.2.1 pc = .ok (.ifCond .lt off, 3)) (ht : (pc : Int) + off = (tgt : Int)) (kt : a < 0 → G π mi tgt loc stk h mc ms Q) (kf : 0 ≤ a → G π mi (pc + 3) loc stk h mc ms Q) : G π mi pc loc (gI a :: stk) h mc ms Q := by
  intro Γ p e R s m args below meth c QE H locs cells slots ls st hC hE hH hl hs hS h1 h2
  obtain ⟨x, st, e9, hx, hs9⟩ := gs_int hs; subst e9; clear hs; have hs := hs9; clear hs9
  refine lv_if_lt hC.1 hC.2.1 hd ht (fun z => (kt ?_ Γ p e R s m args below meth c QE H locs cells slots ls _ hC hE hH hl hs hS h1 h2)) (fun z => (kf ?_ Γ p e R s m args below meth c QE H locs cells slots ls _ hC hE hH hl hs hS h1 h2))
  · simp only [Int32.lt_iff_toInt_lt, Int32.le_iff_toInt_le, ← Int32.toInt_inj, g_zero] at z
    omega
  · simp only [Int32.lt_iff_toInt_lt, Int32.le_iff_toInt_le, ← Int32.toInt_inj, g_zero] at z
    omega
theorem g_if_ge {a off : Int} {tgt : Nat} (hd : decode mi.2.1 pc = .ok (.ifCond .ge off, 3)) (ht : (pc : Int) + off = (tgt : Int)) (kt : 0 ≤ a → G π mi tgt loc stk h mc ms Q) (kf : a < 0 → G π mi (pc + 3) loc stk h mc ms Q) : G π mi pc loc (gI a :: stk) h mc ms Q := by
  intro Γ p e R s m args below meth c QE H locs cells slots ls st hC hE hH hl hs hS h1 h2
  obtain ⟨x, st, e9, hx, hs9⟩ := gs_int hs; subst e9; clear hs; have hs := hs9; clear hs9
  refine lv_if_ge hC.1 hC.2.1 hd ht (fun z => (kt ?_ Γ p e R s m args below meth c QE H locs cells slots ls _ hC hE hH hl hs hS h1 h2)) (fun z => (kf ?_ Γ p e R s m args below meth c QE H locs cells slots ls _ hC hE hH hl hs hS h1 h2))
  · simp only [Int32.lt_iff_toInt_lt, Int32.le_iff_toInt_le, ← Int32.toInt_inj, g_zero] at z
    omega
  · simp only [Int32.lt_iff_toInt_lt, Int32.le_iff_toInt_le, ← Int32.toInt_inj, g_zero] at z
    omega
theorem g_if_gt {a off : Int} {tgt : Nat} (hd : decode mi.2.1 pc = .ok (.ifCond .gt off, 3)) (ht : (pc : Int) + off = (tgt : Int)) (kt : 0 < a → G π mi tgt loc stk h mc ms Q) (kf : a ≤ 0 → G π mi (pc + 3) loc stk h mc ms Q) : G π mi pc loc (gI a :: stk) h mc ms Q := by
  intro Γ p e R s m args below meth c QE H locs cells slots ls st hC hE hH hl hs hS h1 h2
  obtain ⟨x, st, e9, hx, hs9⟩ := gs_int hs; subst e9; clear hs; have hs := hs9; clear hs9
  refine lv_if_gt hC.1 hC.2.1 hd ht (fun z => (kt ?_ Γ p e R s m args below meth c QE H locs cells slots ls _ hC hE hH hl hs hS h1 h2)) (fun z => (kf ?_ Γ p e R s m args below meth c QE H locs cells slots ls _ hC hE hH hl hs hS h1 h2))
  · simp only [Int32.lt_iff_toInt_lt, Int32.le_iff_toInt_le, ← Int32.toInt_inj, g_zero] at z
    omega
  · simp only [Int32.lt_iff_toInt_lt, Int32.le_iff_toInt_le, ← Int32.toInt_inj, g_zero] at z
    omega
theorem g_if_le {a off : Int} {tgt : Nat} (hd : decode mi.2.1 pc = .ok (.ifCond .le off, 3)) (ht : (pc : Int) + off = (tgt : Int)) (kt : a ≤ 0 → G π mi tgt loc stk h mc ms Q) (kf : 0 < a → G π mi (pc + 3) loc stk h mc ms Q) : G π mi pc loc (gI a :: stk) h mc ms Q := by
  intro Γ p e R s m args below meth c QE H locs cells slots ls st hC hE hH hl hs hS h1 h2
  obtain ⟨x, st, e9, hx, hs9⟩ := gs_int hs; subst e9; clear hs; have hs := hs9; clear hs9
  refine lv_if_le hC.1 hC.2.1 hd ht (fun z => (kt ?_ Γ p e R s m args below meth c QE H locs cells slots ls _ hC hE hH hl hs hS h1 h2)) (fun z => (kf ?_ Γ p e R s m args below meth c QE H locs cells slots ls _ hC hE hH hl hs hS h1 h2))
  · simp only [Int32.lt_iff_toInt_lt, Int32.le_iff_toInt_le, ← Int32.toInt_inj, g_zero] at z
    omega
  · simp only [Int32.lt_iff_toInt_lt, Int32.le_iff_toInt_le, ← Int32.toInt_inj, g_zero] at z
    omega
theorem g_ifnull {o : Option Nat} {off : Int} {tgt : Nat} (hd : decode mi.2.1 pc = .ok (.ifnull off, 3)) (ht : (pc : Int) + off = (tgt : Int)) (kt : o = none → G π mi tgt loc stk h mc ms Q) (kf : ∀ n, o = some n → G π mi (pc + 3) loc stk h mc ms Q) : G π mi pc loc (gR o :: stk) h mc ms Q := by
  intro Γ p e R s m args below meth c QE H locs cells slots ls st hC hE hH hl hs hS h1 h2
  obtain ⟨st, e9, hs9⟩ := gs_ref hs; subst e9; clear hs; have hs := hs9; clear hs9
  cases o with
  | none => exact lv_ifnullN hC.1 hC.2.1 hd ht (kt rfl Γ p e R s m args below meth c QE H locs cells slots ls _ hC hE hH hl hs hS h1 h2)
  | some n => exact lv_ifnull hC.1 hC.2.1 hd (kf n rfl Γ p e R s m args below meth c QE H locs cells slots ls _ hC hE hH hl hs hS h1 h2)
theorem g_ifnonnull {o : Option Nat} {off : Int} {tgt : Nat} (hd : decode mi.2.1 pc = .ok (.ifnonnull off, 3)) (ht : (pc : Int) + off = (tgt : Int)) (kt : ∀ n, o = some n → G π mi tgt loc stk h mc ms Q) (kf : o = none → G π mi (pc + 3) loc stk h mc ms Q) : G π mi pc loc (gR o :: stk) h mc ms Q := by
  intro Γ p e R s m args below meth c QE H locs cells slots ls st hC hE hH hl hs hS h1 h2
  obtain ⟨st, e9, hs9⟩ := gs_ref hs; subst e9; clear hs; have hs := hs9; clear hs9
  cases o with
  | none => exact lv_ifnonnullN hC.1 hC.2.1 hd (kf rfl Γ p e R s m args below meth c QE H locs cells slots ls _ hC hE hH hl hs hS h1 h2)
  | some n => exact lv_ifnonnull hC.1 hC.2.1 hd ht (kt n rfl Γ p e R s m args below meth c QE H locs cells slots ls _ hC hE hH hl hs hS h1 h2)
theorem ga_opt {Γ : gE} {a b : Option Nat} (h0 : Γ.2.2.1 ≤ Γ.2.2.2) (h : a.map (ga Γ) = b.map (ga Γ)) : a = b := by
  cases a <;> cases b <;> simp at h ⊢
  exact ga_inj h0 h
theorem g_acmp_eq {a b : Option Nat} {off : Int} {tgt : Nat} (hd : decode mi.2.1 pc = .ok (.if_acmp .eq off, 3)) (ht : (pc : Int) + off = (tgt : Int)) (kt : a = b → G π mi tgt loc stk h mc ms Q) (kf : a ≠ b → G π mi (pc + 3) loc stk h mc ms Q) : G π mi pc loc (gR b :: gR a :: stk) h mc ms Q := by
  intro Γ p e R s m args below meth c QE H locs cells slots ls st hC hE hH hl hs hS h1 h2
  obtain ⟨st, e9, hs9⟩ := gs_ref hs; subst e9; clear hs; have hs := hs9; clear hs9
  obtain ⟨st, e9, hs9⟩ := gs_ref hs; subst e9; clear hs; have hs := hs9; clear hs9
  exact lv_acmp_eq hC.1 hC.2.1 hd ht (fun z => (kt (ga_opt hH.2.1 z) Γ p e R s m args below meth c QE H locs cells slots ls _ hC hE hH hl hs hS h1 h2)) (fun z => (kf (fun q => z (by rw [q])) Γ p e R s m args below meth c QE H locs cells slots ls _ hC hE hH hl hs hS h1 h2))
theorem g_acmp_ne {a b : Option Nat} {off : Int} {tgt : Nat} (hd : decode mi.2.1 pc = .ok (.if_acmp .ne off, 3)) (ht : (pc : Int) + off = (tgt : Int)) (kt : a ≠ b → G π mi tgt loc stk h mc ms Q) (kf : a = b → G π mi (pc + 3) loc stk h mc ms Q) : G π mi pc loc (gR b :: gR a :: stk) h mc ms Q := by
  intro Γ p e R s m args below meth c QE H locs cells slots ls st hC hE hH hl hs hS h1 h2
  obtain ⟨st, e9, hs9⟩ := gs_ref hs; subst e9; clear hs; have hs := hs9; clear hs9
  obtain ⟨st, e9, hs9⟩ := gs_ref hs; subst e9; clear hs; have hs := hs9; clear hs9
  exact lv_acmp_ne hC.1 hC.2.1 hd ht (fun z => (kt (fun q => z (by rw [q])) Γ p e R s m args below meth c QE H locs cells slots ls _ hC hE hH hl hs hS h1 h2)) (fun z => (kf (ga_opt hH.2.1 z) Γ p e R s m args below meth c QE H locs cells slots ls _ hC hE hH hl hs hS h1 h2))
theorem g_tableIn {dflt lo hi : Int} {offs : Array Int} {len tgt : Nat} {off a : Int} (hd : decode mi.2.1 pc = .ok (.tableswitch dflt lo hi offs, len)) (c1 : lo ≤ a) (c2 : a ≤ hi) (ho : offs[(a - lo).toNat]? = some off) (ht : (pc : Int) + off = (tgt : Int)) (k : G π mi tgt loc stk h mc ms Q) : G π mi pc loc (gI a :: stk) h mc ms Q := by
  intro Γ p e R s m args below meth c QE H locs cells slots ls st hC hE hH hl hs hS h1 h2
  obtain ⟨x, st, e9, hx, hs9⟩ := gs_int hs; subst e9; clear hs; have hs := hs9; clear hs9
  subst hx
  exact lv_tableIn hC.1 hC.2.1 hd (by omega) (by omega) ho ht (k Γ p e R s m args below meth c QE H locs cells slots ls _ hC hE hH hl hs hS h1 h2)
theorem g_tableOut {dflt lo hi : Int} {offs : Array Int} {len tgt : Nat} {a : Int} (hd : decode mi.2.1 pc = .ok (.tableswitch dflt lo hi offs, len)) (c1 : a < lo ∨ hi < a) (ht : (pc : Int) + dflt = (tgt : Int)) (k : G π mi tgt loc stk h mc ms Q) : G π mi pc loc (gI a :: stk) h mc ms Q := by
  intro Γ p e R s m args below meth c QE H locs cells slots ls st hC hE hH hl hs hS h1 h2
  obtain ⟨x, st, e9, hx, hs9⟩ := gs_int hs; subst e9; clear hs; have hs := hs9; clear hs9
  subst hx
  exact lv_tableOut hC.1 hC.2.1 hd c1 ht (k Γ p e R s m args below meth c QE H locs cells slots ls _ hC hE hH hl hs hS h1 h2)
end GROW
