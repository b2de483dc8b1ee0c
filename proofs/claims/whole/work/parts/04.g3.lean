/-! the judgement G: ends, contracts, calls, throws -/
section GENDS
variable {π : gP} {mi : gM} {pc : Nat} {loc stk : List gV} {h : gH} {mc ms : Nat} {Q : Option (Option gV) → gH → Prop}
theorem g_bool {y : Int32} {x : Int} (hy : y.toInt = x) (hx : x = 0 ∨ x = 1) : narrow .boolean (.int y) = .int y := by
  rcases hx with rfl | rfl
  · have : y = 0 := Int32.toInt_inj.mp (hy.trans rfl)
    subst this; rfl
  · have : y = 1 := Int32.toInt_inj.mp (hy.trans rfl)
    subst this; rfl
theorem gEnd_of {Γ : gE} {p : Program} {e : Env} {R : Room} {s : State} {m : MethodId} {args : Array Value} {below : List Frame} {meth : Method} {c : Code} (hC : gC π Γ mi p R s m args meth c) :
    gEnd π Γ mi Q p e R s m args below meth c (vx_MQ below (gQc π Γ Q) (gXC π Γ Q) args s R.cells R.slots (gfree Γ)) := by
  refine ⟨fun r w h H locs cells slots pc ls hQ hw hH hS hc hsl hret => ?_, fun _ _ => rfl⟩
  refine W.widen hc hsl (vx_ret ?_)
  obtain ⟨hx, hb, -, hown, hts, hlocks, -, -, -, hsig, -⟩ := hC
  rcases hret with ⟨hd, x, rfl, hr⟩ | ⟨hd, o, n, rfl, hr⟩ | ⟨hd, rfl, hr⟩
  · obtain ⟨y, st, rfl, hy, hs⟩ := gs_int hw
    cases gs_nil hs
    have hq : ∀ t : State, t.heap = H → s.WarmedH t.vm → gQc π Γ Q args s (.returned (some (.int y))) t := fun t ht hW => ⟨some (gI x), h, some (.int y), hQ, rfl, ⟨y, rfl, hy⟩, by rw [ht]; exact hH.moved hW.alike, hS.F ht⟩
    rcases hr with hr | ⟨hr, hx9⟩
    · exact W.iret hx hb (hsig.trans hr) hq hS.2.2 hd (hlocks := hlocks)
    · exact W.zret hx hb (hsig.trans hr) (g_bool hy hx9) hq hS.2.2 hd (hlocks := hlocks)
  · obtain ⟨st, rfl, hs⟩ := gs_ref hw
    cases gs_nil hs
    have hq : ∀ t : State, t.heap = H → s.WarmedH t.vm → gQc π Γ Q args s (.returned (some (va_rf (o.map (ga Γ))))) t := fun t ht hW => ⟨some (gR o), h, some (va_rf (o.map (ga Γ))), hQ, rfl, rfl, by rw [ht]; exact hH.moved hW.alike, hS.F ht⟩
    exact W.aret hx hb (hsig.trans hr) (Or.inl ⟨n, rfl⟩) (by cases o with
      | none => exact Or.inl rfl
      | some a => exact Or.inr ⟨_, rfl⟩) hq hS.2.2 hd (hlocks := hlocks)
  · cases gs_nil hw
    have hq : ∀ t : State, t.heap = H → s.WarmedH t.vm → gQc π Γ Q args s (.returned none) t := fun t ht hW => ⟨none, h, none, hQ, rfl, trivial, by rw [ht]; exact hH.moved hW.alike, hS.F ht⟩
    exact W.vret hx hb (hsig.trans hr) hq hS.2.2 hd (hlocks := hlocks)
theorem g_iret {x : Int} (hd : decode mi.2.1 pc = .ok (.ireturn, 1)) (hr : mi.2.2.2.2.2.2.1 = some .int ∨ (mi.2.2.2.2.2.2.1 = some .boolean ∧ (x = 0 ∨ x = 1))) (hQ : Q (some (some (gI x))) h) : G π mi pc loc [gI x] h mc ms Q := by
  intro Γ p e R s m args below meth c QE H locs cells slots ls st hC hE hH hl hs hS h1 h2
  exact hE.1 (some (gI x)) st h H locs cells slots pc ls hQ hs hH hS (by omega) (by omega) (Or.inl ⟨hd, x, rfl, hr⟩)
theorem g_aret {o : Option Nat} {n : String} (hd : decode mi.2.1 pc = .ok (.areturn, 1)) (hr : mi.2.2.2.2.2.2.1 = some (.object n)) (hQ : Q (some (some (gR o))) h) : G π mi pc loc [gR o] h mc ms Q := by
  intro Γ p e R s m args below meth c QE H locs cells slots ls st hC hE hH hl hs hS h1 h2
  exact hE.1 (some (gR o)) st h H locs cells slots pc ls hQ hs hH hS (by omega) (by omega) (Or.inr (Or.inl ⟨hd, o, n, rfl, hr⟩))
theorem g_vret (hd : decode mi.2.1 pc = .ok (.return_, 1)) (hr : mi.2.2.2.2.2.2.1 = none) (hQ : Q (some none) h) : G π mi pc loc [] h mc ms Q := by
  intro Γ p e R s m args below meth c QE H locs cells slots ls st hC hE hH hl hs hS h1 h2
  exact hE.1 none st h H locs cells slots pc ls hQ hs hH hS (by omega) (by omega) (Or.inr (Or.inr ⟨hd, rfl, hr⟩))
theorem g_args {Γ : gE} : ∀ {as : List gV} {vs : List Value} (i : Nat), gs Γ as vs → (∀ v ∈ as, (∃ x, v = gI x) ∨ ∃ o, v = gR o) →
    (∀ (j : Nat) (x : Int), as[j]? = some (gI x) → ∃ y : Int32, (i + j, Value.int y) ∈ lv_args i vs ∧ y.toInt = x) ∧ (∀ (j : Nat) (o : Option Nat), as[j]? = some (gR o) → (i + j, va_rf (o.map (ga Γ))) ∈ lv_args i vs) ∧ (lg_sl vs).length = as.length
  | [], [], i, _, _ => ⟨fun j x h => by simp at h, fun j x h => by simp at h, rfl⟩
  | [], _ :: _, _, h, _ => h.elim
  | _ :: _, [], _, h, _ => h.elim
  | v :: as, w :: vs, i, h, ha => by
    have hc : w.category = 1 := by
      rcases ha v List.mem_cons_self with ⟨x, rfl⟩ | ⟨o, rfl⟩
      · obtain ⟨⟨y, rfl, -⟩, -⟩ := h
        rfl
      · have h1 : w = va_rf (o.map (ga Γ)) := h.1
        rw [h1]
        cases o <;> rfl
    obtain ⟨r1, r2, r3⟩ := g_args (i + 1) h.2 (fun v hv => ha v (List.mem_cons_of_mem _ hv))
    have e : lv_args i (w :: vs) = (i, w) :: lv_args (i + 1) vs := by simp [lv_args, hc]
    refine ⟨fun j x hj => ?_, fun j o hj => ?_, ?_⟩
    · rw [e]
      cases j with
      | zero =>
        cases Option.some.inj hj
        obtain ⟨⟨y, rfl, hy⟩, -⟩ := h
        exact ⟨y, List.mem_cons_self, hy⟩
      | succ j =>
        obtain ⟨y, hm, hy⟩ := r1 j x (by simpa using hj)
        exact ⟨y, List.mem_cons_of_mem _ (by rw [show i + (j + 1) = i + 1 + j by omega]; exact hm), hy⟩
    · rw [e]
      cases j with
      | zero =>
        cases Option.some.inj hj
        have h1 : w = va_rf (o.map (ga Γ)) := h.1
        rw [h1]
        exact List.mem_cons_self
      | succ j => exact List.mem_cons_of_mem _ (by rw [show i + (j + 1) = i + 1 + j by omega]; exact r2 j o (by simpa using hj))
    · have e2 : lg_sl (w :: vs) = Slot.val w :: lg_sl vs := by simp [lg_sl, hc]
      rw [e2, List.length_cons, List.length_cons, r3]
theorem g_pad {as : List gV} {k j : Nat} {v : gV} (h : (as ++ List.replicate k gU)[j]? = some v) (hv : v ≠ gU) : as[j]? = some v := by
  by_cases hj : j < as.length
  · rwa [List.getElem?_append_left hj] at h
  · rw [List.getElem?_append_right (by omega)] at h
    exact absurd (List.eq_of_mem_replicate (List.mem_of_getElem? h)) hv
/-- a contract, out of the walk of its body -/
theorem gMet_of {y : MethodName} {as : List gV} (hy : Jvm.plainName y.cls = true) (hc : y.cls = mi.1) (hnm : y.name = mi.2.2.2.2.2.1) (hh : mi.2.2.2.2.2.2.2 = []) (hlen : as.length ≤ mi.2.2.1) (has : ∀ v ∈ as, (∃ x, v = gI x) ∨ ∃ o, v = gR o)
    (k : G π mi 0 (as ++ List.replicate (mi.2.2.1 - as.length) gU) [] h mc ms Q) : gMet π mi y as h mc ms Q := by
  intro hst Γ
  have hcw : gcw mi y = Cond.code y mi.2.1 mi.2.2.1 mi.2.2.2.2.2.2.1 := by unfold gcw; rw [hh]
  refine vx_ofW (cc := mi.2.1) (maxL := mi.2.2.1) (ret := mi.2.2.2.2.2.2.1) hy (by rw [hcw]) ?_
  intro p e s m args below meth c s₁ B hml htab hP
  obtain ⟨vs, rfl, hs, hK, hZ, hH⟩ := hP
  obtain ⟨a1, a2, a3⟩ := g_args 0 hs has
  have hts := atoms_spec (ws := gcw mi y :: π.2.1) B.pre
  have hC : gC π Γ mi p (headSpec (gcw mi y :: π.2.1) { frames := mi.2.2.2.1, cells := mc, slots := ms, locals := mi.2.2.2.2.1 }).room s m vs.toArray meth c :=
    ⟨B.exec, B.bytes, hml, by rw [← hc]; exact findClass_of_methodNamed B.named, fun w hw => hts w (List.mem_cons_of_mem _ hw), B.notSynchronized, Nat.le_refl _, Nat.le_refl _, by rw [← hnm]; exact (name_of_methodNamed B.named B.method).1, B.returns, by
      rw [hh]
      cases ht : c.exceptionTable.toList with
      | nil => rfl
      | cons z zs => exact (htab z (by rw [ht]; exact List.mem_cons_self)).elim, hK, hZ, hst⟩
  rw [lg_entry_eq]
  refine k Γ p e _ s m vs.toArray below meth c _ s.heap [] 0 0 _ [] hC (gEnd_of hC) hH ?_ trivial va_S.rf (by show 0 + mc ≤ mc; omega) (by show 0 + ms ≤ ms; omega)
  refine ⟨lv_args 0 vs, lv_entry vs (by omega), fun j x hj => ?_, fun j o hj => ?_⟩
  · have h9 := a1 j x (g_pad hj (by intro z; cases z))
    rwa [Nat.zero_add] at h9
  · have h9 := a2 j o (g_pad hj (by intro z; cases z))
    rwa [Nat.zero_add] at h9
/-- .. of a body with handlers -/
theorem gMet_ofH {y : MethodName} {as : List gV} {q0 : Nat × Nat × Nat × Nat} {qs : List (Nat × Nat × Nat × Nat)} (hy : Jvm.plainName y.cls = true) (hc : y.cls = mi.1) (hnm : y.name = mi.2.2.2.2.2.1) (hh : mi.2.2.2.2.2.2.2 = q0 :: qs) (hlen : as.length ≤ mi.2.2.1) (has : ∀ v ∈ as, (∃ x, v = gI x) ∨ ∃ o, v = gR o)
    (k : G π mi 0 (as ++ List.replicate (mi.2.2.1 - as.length) gU) [] h mc ms Q) : gMet π mi y as h mc ms Q := by
  intro hst Γ
  have hcw : gcw mi y = Cond.codeWith y mi.2.1 mi.2.2.1 mi.2.2.2.2.2.2.1 (q0 :: qs) := by unfold gcw; rw [hh]
  refine vx_ofWH (cc := mi.2.1) (maxL := mi.2.2.1) (ret := mi.2.2.2.2.2.2.1) (hh := q0 :: qs) hy (by rw [hcw]) ?_
  intro p e s m args below meth c s₁ B hml hP
  obtain ⟨vs, rfl, hs, hK, hZ, hH⟩ := hP
  obtain ⟨a1, a2, a3⟩ := g_args 0 hs has
  have hts := atoms_spec (ws := gcw mi y :: π.2.1) B.pre
  have hC : gC π Γ mi p (headSpec (gcw mi y :: π.2.1) { frames := mi.2.2.2.1, cells := mc, slots := ms, locals := mi.2.2.2.2.1 }).room s m vs.toArray meth c :=
    ⟨B.exec, B.bytes, hml, by rw [← hc]; exact findClass_of_methodNamed B.named, fun w hw => hts w (List.mem_cons_of_mem _ hw), B.notSynchronized, Nat.le_refl _, Nat.le_refl _, by rw [← hnm]; exact (name_of_methodNamed B.named B.method).1, B.returns, by
      rw [hh]
      exact vx_table (x := y) B (by have h9 := hts _ List.mem_cons_self; rw [hcw] at h9; exact h9), hK, hZ, hst⟩
  rw [lg_entry_eq]
  refine k Γ p e _ s m vs.toArray below meth c _ s.heap [] 0 0 _ [] hC (gEnd_of hC) hH ?_ trivial va_S.rf (by show 0 + mc ≤ mc; omega) (by show 0 + ms ≤ ms; omega)
  refine ⟨lv_args 0 vs, lv_entry vs (by omega), fun j x hj => ?_, fun j o hj => ?_⟩
  · have h9 := a1 j x (g_pad hj (by intro z; cases z))
    rwa [Nat.zero_add] at h9
  · have h9 := a2 j o (g_pad hj (by intro z; cases z))
    rwa [Nat.zero_add] at h9
end GENDS
section GCALL
variable {π : gP} {mi mj : gM} {pc : Nat} {loc stk : List gV} {h : gH} {mc ms mc' ms' : Nat} {Q Q' : Option (Option gV) → gH → Prop}
theorem gPc_blind {Γ : gE} {as : List gV} : FrameBlind (gPc π Γ as h) := by
  intro a U g mk hP
  obtain ⟨vs, h1, h2, h3, h4, h5⟩ := hP
  have hW : U.WarmedH (U.calling g mk a).vm := State.WarmedH.refl U
  exact ⟨vs, h1, h2, gK.moved hW h3, ⟨h4.1.moved hW.alike, h4.2.moved hW.alike⟩, h5.moved hW.alike⟩
theorem gZ.here {Γ : gE} {s U : State} {H : Heap} {locs : List Loc} (hZ : gZ Γ s s.heap) (hS : va_S (gfree Γ) s.heap H locs) (hW : s.WarmedH U.vm) (hU : U.heap = H) : gZ Γ U U.heap := by
  rw [hU]
  exact ⟨vx_Zq.moved hW.alike (hZ.1.kept hS.2.1), vx_Zq.moved hW.alike (hZ.2.kept hS.2.1)⟩
theorem g_pre {Γ : gE} {p : Program} {R : Room} {s : State} {m : MethodId} {args : Array Value} {meth : Method} {c : Code} {H : Heap} {locs : List Loc} {as : List gV} {vs : List Value} (hC : gC π Γ mi p R s m args meth c) (hH : gHR π Γ s h H) (hS : va_S (gfree Γ) s.heap H locs) (hs : gs Γ as vs) :
    ∀ U : State, U.heap = H → s.WarmedH U.vm → gPc π Γ as h vs.toArray U := by
  intro U hU hW
  exact ⟨vs, rfl, hs, gK.moved hW hC.2.2.2.2.2.2.2.2.2.2.2.1, gZ.here hC.2.2.2.2.2.2.2.2.2.2.2.2.1 hS hW hU, by rw [hU]; exact hH.moved hW.alike⟩
/-- behind a call -/
theorem g_back {Γ : gE} {p : Program} {e : Env} {R : Room} {s : State} {m : MethodId} {args : Array Value} {below : List Frame} {meth : Method} {c : Code} {QE : State → Prop} {H : Heap} {locs : List Loc} {cells slots : Nat} {ls : Array Slot} {st0 rest : List Value} {a : Array Value}
    (hr : vx_Run p π.1 e R s m args below meth c H locs cells slots mc' ms' (F0 m pc ls st0) rest (gQc π Γ Q' a) (gXC π Γ Q') (gfree Γ)) (hC : gC π Γ mi p R s m args meth c) (hE : gEnd π Γ mi Q p e R s m args below meth c QE) (hl : gl Γ mi.2.2.1 loc ls) (hs : gs Γ stk rest) (hS : va_S (gfree Γ) s.heap H locs) (h1 : cells + (mc + mc') ≤ R.cells) (h2 : slots + (ms + ms') ≤ R.slots)
    (k : ∀ r h', Q' (some r) h' → G π mi (pc + 3) loc (r.toList ++ stk) h' mc ms Q) (kx : ∀ h', Q' none h' → GX π mi pc loc h' mc ms Q) : W p π.1 e R s m args below meth c H locs cells slots QE (F0 m pc ls st0) := by
  intro T hT X
  have hframe : ∀ (st₀ t T' : State) (L : List Loc), st₀.heap = H → T'.heap = t.heap → (∀ q ∈ L, gfree Γ q.base) → va_F (gfree Γ) st₀ t → va_S (gfree Γ) s.heap T'.heap (locs ++ L) := by
    intro st₀ t T' L e0 e1 hL hF
    refine ⟨?_, fun q z1 z2 => ?_, fun q hq => ?_⟩
    · rw [e1]; exact Nat.le_trans hS.1 (by rw [← e0]; exact hF.1)
    · rw [e1, hF.2 q (by rw [e0]; exact Nat.lt_of_lt_of_le z1 hS.1) z2, e0]
      exact hS.2.1 q z1 z2
    · rcases List.mem_append.mp hq with z | z
      · exact hS.2.2 q z
      · exact hL q z
  rcases hr T hT X with ⟨v, st₀, t, T', L, e0, X', hL, e1, e2, hq, st⟩ | ⟨q, st₀, t, T', L, E, ce, e0, X', hL, e1, e2, hx, hce, hcv, hcl, st⟩
  · obtain ⟨r, h', w, hQ', ho, hro, hH', hF⟩ := hq
    cases ho
    have hv : t.vm.Alike s.vm := by rw [← e2]; exact X'.warmed.alike.symm
    have hH2 : gHR π Γ s h' T'.heap := by rw [e1]; exact hH'.moved hv
    have hs2 : gs Γ (r.toList ++ stk) (v.toList ++ rest) := by
      cases r with
      | none => cases v with
        | none => exact hs
        | some w => exact hro.elim
      | some r => cases v with
        | none => exact hro.elim
        | some w => exact ⟨hro, hs⟩
    obtain ⟨t2, a1, b1⟩ := k r h' hQ' Γ p e R s m args below meth c QE T'.heap (locs ++ L) (cells + mc') (slots + ms') ls (v.toList ++ rest) hC hE hH2 hl hs2 (hframe st₀ t T' L e0 e1 hL hF) (by omega) (by omega) T' rfl X'
    exact ⟨t2, st t2 a1, b1⟩
  · obtain ⟨rfl, h', hQ', hH', hF⟩ := hx
    have hv : t.vm.Alike s.vm := by rw [← e2]; exact X'.warmed.alike.symm
    have hH2 : gHR π Γ s h' T'.heap := by rw [e1]; exact hH'.moved hv
    obtain ⟨t2, a1, b1⟩ := kx h' hQ' Γ p e R s m args below meth c QE T'.heap (locs ++ L) (cells + mc') (slots + ms') ls rest ce q hC hE hH2 hl (hframe st₀ t T' L e0 e1 hL hF) (by omega) (by omega) (by rw [e1]; exact hce) hcv hcl T' rfl X'
    exact ⟨t2, st.trans a1, b1⟩
/-- the words of a call of y, whose method is mj, at index idx of own -/
def gW (π : gP) (own : String) (mj : gM) (idx : Nat) (y : MethodName) (n : Nat) : Prop :=
  gcw mj y ∈ π.2.1 ∧ Cond.initialized y.cls ∈ π.2.1 ∧ Cond.methodLink own idx y ∈ π.2.1 ∧ (y.cls ≠ "java/lang/invoke/MethodHandle" ∧ y.cls ≠ "java/lang/invoke/VarHandle") ∧ (parseMethodDescriptor y.desc).map (fun d => d.parameters.length) = some n ∧ π.2.1.all goodWord = true
theorem g_cb {p : Program} {R : Room} {s : State} {m : MethodId} {args : Array Value} {meth : Method} {c : Code} {Γ : gE} {idx n : Nat} {y : MethodName} (hC : gC π Γ mi p R s m args meth c) (hw : gW π mi.1 mj idx y n) (hh : mj.2.2.2.2.2.2.2 = []) (hR : mj.2.2.2.1 + 1 ≤ mi.2.2.2.1 ∧ 8 + (mj.2.2.1 + 11) + mj.2.2.2.2.1 ≤ mi.2.2.2.2.1) :
    CallB R s args mi.1 idx y mj.2.1 mj.2.2.1 mj.2.2.2.2.2.2.1 (gcw mj y :: π.2.1) { frames := mj.2.2.2.1, cells := mc', slots := ms', locals := mj.2.2.2.2.1 } mc' ms' n := by
  obtain ⟨hx, hb, -, hown, hts, -, hfr, hlo, -⟩ := hC
  obtain ⟨w1, w2, w3, w4, w5, w6⟩ := hw
  have hcw : gcw mj y = Cond.code y mj.2.1 mj.2.2.1 mj.2.2.2.2.2.2.1 := by unfold gcw; rw [hh]
  refine ⟨rfl, rfl, by show mj.2.2.2.1 + 1 ≤ R.frames; omega, by show 8 + (mj.2.2.1 + 11) + mj.2.2.2.2.1 ≤ R.locals; omega, fun w hw a' U hW => ?_, by rw [hcw]; exact List.mem_cons_self, by rw [← hcw]; exact hts _ w1, hts _ w2, w4, fun sig hsig => ?_, hts _ w3⟩
  · have hm : w ∈ π.2.1 := (List.mem_cons.mp hw).elim (fun e => by rw [e]; exact w1) id
    exact word_at hW (good_of_word (List.all_eq_true.mp w6 w hm)) (hts w hm)
  · rw [hsig] at w5
    exact (Option.some.inj w5).symm
theorem g_ls {Γ : gE} {nL : Nat} {ls : Array Slot} (hl : gl Γ nL loc ls) : ls.size = nL := by
  obtain ⟨lv, v1, -⟩ := hl
  exact v1.1
theorem g_r8 {m : MethodId} {ls : Array Slot} {st0 : List Value} {Γ : gE} {rest : List Value} (hs : gs Γ stk rest) (h8 : gcs stk ≤ 8) : 2 * (F0 m pc ls st0).monitorRoom + (rest.map fun v => v.category).sum ≤ 8 := lv_room (Nat.le_trans (gs_room hs) h8)
/-- a virtual call (also of a private method) -/
theorem g_callV {idx n ci : Nat} {y : MethodName} {as : List gV} {r : vw_C} (hd : decode mi.2.1 pc = .ok (.invokevirtual idx, 3)) (hw : gW π mi.1 mj idx y as.length) (hh : mj.2.2.2.2.2.2.2 = []) (hR : mj.2.2.2.1 + 1 ≤ mi.2.2.2.1 ∧ 8 + (mj.2.2.1 + 11) + mj.2.2.2.2.1 ≤ mi.2.2.2.2.1) (hv : Cond.instanceMethod y ∈ π.2.1 ∧ Cond.selects r.1 y y ∈ π.2.1) (hr : π.2.2.1[ci]? = some r)
    (ht : h.1 n = .inl ci) (hn : n < h.2.2.2.1) (h8 : gcs stk ≤ 8) (hM : gMet π mj y (gR (some n) :: as) h mc' ms' Q') (k : ∀ r h', Q' (some r) h' → G π mi (pc + 3) loc (r.toList ++ stk) h' mc ms Q) (kx : ∀ h', Q' none h' → GX π mi pc loc h' mc ms Q) : G π mi pc loc (as.reverse ++ gR (some n) :: stk) h (mc + mc') (ms + ms') Q := by
  intro Γ p e R s m args below meth c QE H locs cells slots ls st hC hE hH hl hs hS h1 h2
  obtain ⟨s1, s2, e9, hs1, hs9⟩ := gs_app hs; subst e9; clear hs; have hs := hs9; clear hs9
  obtain ⟨rest, e9, hs9⟩ := gs_ref hs; subst e9; clear hs; have hs := hs9; clear hs9
  have hs3 := gs_rev hs1
  rw [List.reverse_reverse] at hs3
  obtain ⟨V, ⟨cell, q1, q2, q3, q4⟩, -⟩ := g_obj hH hn ht hr
  have hM9 := hM hC.2.2.2.2.2.2.2.2.2.2.2.2.2 Γ
  refine g_back (vx_runV (C := r.1) (b := ga Γ n) (As := s1.reverse) (rest := rest) ⟨hC.1, hC.2.1, hC.2.2.1, hC.2.2.2.1, hC.2.2.2.2.1⟩ hM9 ⟨g_cb hC hw hh hR, hC.2.2.2.2.1 _ hv.1, hC.2.2.2.2.1 _ hv.2⟩
    ⟨gPc_blind, ⟨cell, q1, by rw [q3]; rfl, by rw [q2]; exact (hC.2.2.2.2.2.2.2.2.2.2.2.1.1 ci r hr).2.1⟩, g_pre hC hH hS ⟨rfl, hs3⟩⟩ rfl (gs_len hs3) (g_ls hl) (by rw [List.reverse_reverse]; rfl) (g_r8 hs h8) hd ⟨by omega, by omega⟩) hC hE hl hs hS h1 h2 k kx
/-- a contract that throws nothing -/
theorem gMet_met {y : MethodName} {as : List gV} {Γ : gE} (hst : π.1.stackTraces = false) (hM : gMet π mj y as h mc' ms' Q') (hnx : ∀ k, ¬ Q' none k) : Met π.1 y (gcw mj y :: π.2.1) { frames := mj.2.2.2.1, cells := mc', slots := ms', locals := mj.2.2.2.2.1 } (gPc π Γ as h) (gQc π Γ Q') mc' ms' (gfree Γ) := by
  intro p e ha hc hk s m args below hf happ hP hK
  obtain ⟨n, o, h1, h2, h3, h4⟩ := hM hst Γ p e ha hc hk s m args below hf happ hP hK
  refine ⟨n, o, h1, h2, h3, ?_⟩
  rcases h4 with h4 | ⟨q, -, E, ce, L, ⟨-, k, hk, -⟩, -⟩
  · exact h4
  · exact absurd hk (hnx k)
/-- a constructor -/
theorem g_callI {idx n : Nat} {y : MethodName} {as : List gV} (hd : decode mi.2.1 pc = .ok (.invokespecial idx, 3)) (hw : gW π mi.1 mj idx y as.length) (hh : mj.2.2.2.2.2.2.2 = [] ∧ mj.2.2.2.2.2.2.1 = none) (hR : mj.2.2.2.1 + 1 ≤ mi.2.2.2.1 ∧ 8 + (mj.2.2.1 + 11) + mj.2.2.2.2.1 ≤ mi.2.2.2.2.1) (hv : y.name = "<init>" ∧ Cond.instanceMethod y ∈ π.2.1)
    (h8 : gcs stk ≤ 8) (hM : gMet π mj y (gR (some n) :: as) h mc' ms' Q') (hnx : ∀ k, ¬ Q' none k) (k : ∀ r h', Q' (some r) h' → G π mi (pc + 3) loc (r.toList ++ stk) h' mc ms Q) : G π mi pc loc (as.reverse ++ gR (some n) :: stk) h (mc + mc') (ms + ms') Q := by
  intro Γ p e R s m args below meth c QE H locs cells slots ls st hC hE hH hl hs hS h1 h2
  obtain ⟨s1, s2, e9, hs1, hs9⟩ := gs_app hs; subst e9; clear hs; have hs := hs9; clear hs9
  obtain ⟨rest, e9, hs9⟩ := gs_ref hs; subst e9; clear hs; have hs := hs9; clear hs9
  have hs3 := gs_rev hs1
  rw [List.reverse_reverse] at hs3
  have hM9 := gMet_met (Γ := Γ) hC.2.2.2.2.2.2.2.2.2.2.2.2.2 hM hnx
  have hcb := g_cb (mc' := mc') (ms' := ms') hC hw hh.1 hR
  rw [hh.2] at hcb
  have hrun := va_runI (e := e) (below := below) (meth := meth) (H := H) (locs := locs) (cells := cells) (slots := slots) (g := F0 m pc ls (s1 ++ va_rf (Option.map (ga Γ) (some n)) :: rest)) (b := ga Γ n) (As := s1.reverse) (rest := rest) ⟨hC.1, hC.2.1, hC.2.2.1, hC.2.2.2.1, hC.2.2.2.2.1⟩ hM9 ⟨hcb, hv.1, hC.2.2.2.2.1 _ hv.2⟩
    ⟨gPc_blind, g_pre hC hH hS ⟨rfl, hs3⟩⟩ rfl (gs_len hs3) (g_ls hl) (by rw [List.reverse_reverse]; rfl) (g_r8 hs h8) hd ⟨by omega, by omega⟩
  exact g_back (a := (Value.ref (ga Γ n) :: s1.reverse).toArray) (fun T hT X => Or.inl (hrun T hT X)) hC hE hl hs hS h1 h2 k (fun h' z => absurd z (hnx h'))
/-- a static call -/
theorem g_callS {idx : Nat} {y : MethodName} {as : List gV} (hd : decode mi.2.1 pc = .ok (.invokestatic idx, 3)) (hw : gW π mi.1 mj idx y as.length) (hh : mj.2.2.2.2.2.2.2 = []) (hR : mj.2.2.2.1 + 1 ≤ mi.2.2.2.1 ∧ 8 + (mj.2.2.1 + 11) + mj.2.2.2.2.1 ≤ mi.2.2.2.2.1) (hv : Cond.static y ∈ π.2.1)
    (h8 : gcs stk ≤ 8) (hM : gMet π mj y as h mc' ms' Q') (k : ∀ r h', Q' (some r) h' → G π mi (pc + 3) loc (r.toList ++ stk) h' mc ms Q) (kx : ∀ h', Q' none h' → GX π mi pc loc h' mc ms Q) : G π mi pc loc (as.reverse ++ stk) h (mc + mc') (ms + ms') Q := by
  intro Γ p e R s m args below meth c QE H locs cells slots ls st hC hE hH hl hs hS h1 h2
  obtain ⟨s1, rest, e9, hs1, hs9⟩ := gs_app hs; subst e9; clear hs; have hs := hs9; clear hs9
  have hs3 := gs_rev hs1
  rw [List.reverse_reverse] at hs3
  have hM9 := hM hC.2.2.2.2.2.2.2.2.2.2.2.2.2 Γ
  refine g_back (vx_runS (As := s1.reverse) (rest := rest) ⟨hC.1, hC.2.1, hC.2.2.1, hC.2.2.2.1, hC.2.2.2.2.1⟩ hM9 ⟨g_cb hC hw hh hR, hC.2.2.2.2.1 _ hv⟩
    ⟨gPc_blind, g_pre hC hH hS hs3⟩ rfl (gs_len hs3) (g_ls hl) (by rw [List.reverse_reverse]) (g_r8 hs h8) hd ⟨by omega, by omega⟩) hC hE hl hs hS h1 h2 k kx
/-- a static call of a method with handlers -/
theorem g_callSH {idx : Nat} {y : MethodName} {as : List gV} {q0 : Nat × Nat × Nat × Nat} {qs : List (Nat × Nat × Nat × Nat)} (hd : decode mi.2.1 pc = .ok (.invokestatic idx, 3)) (hw : gW π mi.1 mj idx y as.length) (hh : mj.2.2.2.2.2.2.2 = q0 :: qs) (hR : mj.2.2.2.1 + 1 ≤ mi.2.2.2.1 ∧ 8 + (mj.2.2.1 + 11) + mj.2.2.2.2.1 ≤ mi.2.2.2.2.1) (hv : Cond.static y ∈ π.2.1)
    (h8 : gcs stk ≤ 8) (hM : gMet π mj y as h mc' ms' Q') (k : ∀ r h', Q' (some r) h' → G π mi (pc + 3) loc (r.toList ++ stk) h' mc ms Q) (kx : ∀ h', Q' none h' → GX π mi pc loc h' mc ms Q) : G π mi pc loc (as.reverse ++ stk) h (mc + mc') (ms + ms') Q := by
  intro Γ p e R s m args below meth c QE H locs cells slots ls st hC hE hH hl hs hS h1 h2
  obtain ⟨s1, rest, e9, hs1, hs9⟩ := gs_app hs; subst e9; clear hs; have hs := hs9; clear hs9
  have hs3 := gs_rev hs1
  rw [List.reverse_reverse] at hs3
  have hM9 := hM hC.2.2.2.2.2.2.2.2.2.2.2.2.2 Γ
  obtain ⟨hx, hb, hml, hown, hts, -, hfr, hlo, -⟩ := id hC
  obtain ⟨w1, w2, w3, w4, w5, w6⟩ := hw
  have hcw : gcw mj y = Cond.codeWith y mj.2.1 mj.2.2.1 mj.2.2.2.2.2.2.1 (q0 :: qs) := by unfold gcw; rw [hh]
  refine g_back (vx_runSX (hh := q0 :: qs) (bytes := mj.2.1) (maxL := mj.2.2.1) (ret := mj.2.2.2.2.2.2.1) (As := s1.reverse) (rest := rest) ⟨hx, hb, hml, hown, hts⟩ hM9
    ⟨⟨rfl, rfl, by show mj.2.2.2.1 + 1 ≤ R.frames; omega, by show 8 + (mj.2.2.1 + 11) + mj.2.2.2.2.1 ≤ R.locals; omega, fun w hw a' U hW => ?_, by rw [hcw]; exact List.mem_cons_self⟩, by rw [← hcw]; exact hts _ w1, hts _ w2, w4, fun sig hsig => ?_, hts _ w3, hts _ hv⟩
    ⟨gPc_blind, g_pre hC hH hS hs3⟩ rfl (gs_len hs3) (g_ls hl) (by rw [List.reverse_reverse]) (g_r8 hs h8) hd ⟨by omega, by omega⟩) hC hE hl hs hS h1 h2 k kx
  · have hm : w ∈ π.2.1 := (List.mem_cons.mp hw).elim (fun e => by rw [e]; exact w1) id
    exact word_at hW (good_of_word (List.all_eq_true.mp w6 w hm)) (hts w hm)
  · rw [hsig] at w5
    exact (Option.some.inj w5).symm
/-- a constructor of a nest mate -/
theorem g_callIN {idx n : Nat} {y : MethodName} {as : List gV} {host : String} (hd : decode mi.2.1 pc = .ok (.invokespecial idx, 3)) (hw : gcw mj y ∈ π.2.1 ∧ Cond.initialized y.cls ∈ π.2.1 ∧ (mi.1, idx, y, host) ∈ π.2.2.2.2.2 ∧ (y.cls ≠ "java/lang/invoke/MethodHandle" ∧ y.cls ≠ "java/lang/invoke/VarHandle") ∧ (parseMethodDescriptor y.desc).map (fun d => d.parameters.length) = some as.length ∧ π.2.1.all goodWord = true) (hh : mj.2.2.2.2.2.2.2 = [] ∧ mj.2.2.2.2.2.2.1 = none) (hR : mj.2.2.2.1 + 1 ≤ mi.2.2.2.1 ∧ 8 + (mj.2.2.1 + 11) + mj.2.2.2.2.1 ≤ mi.2.2.2.2.1) (hv : y.name = "<init>" ∧ Cond.instanceMethod y ∈ π.2.1)
    (h8 : gcs stk ≤ 8) (hM : gMet π mj y (gR (some n) :: as) h mc' ms' Q') (hnx : ∀ k, ¬ Q' none k) (k : ∀ r h', Q' (some r) h' → G π mi (pc + 3) loc (r.toList ++ stk) h' mc ms Q) : G π mi pc loc (as.reverse ++ gR (some n) :: stk) h (mc + mc') (ms + ms') Q := by
  intro Γ p e R s m args below meth c QE H locs cells slots ls st hC hE hH hl hs hS h1 h2
  obtain ⟨s1, s2, e9, hs1, hs9⟩ := gs_app hs; subst e9; clear hs; have hs := hs9; clear hs9
  obtain ⟨rest, e9, hs9⟩ := gs_ref hs; subst e9; clear hs; have hs := hs9; clear hs9
  have hs3 := gs_rev hs1
  rw [List.reverse_reverse] at hs3
  have hM9 := gMet_met (Γ := Γ) hC.2.2.2.2.2.2.2.2.2.2.2.2.2 hM hnx
  obtain ⟨hx, hb, hml, hown, hts, -, hfr, hlo, -, -, -, hK, -⟩ := id hC
  obtain ⟨w1, w2, w3, w4, w5, w6⟩ := hw
  have hcw : gcw mj y = Cond.code y mj.2.1 mj.2.2.1 none := by unfold gcw; rw [hh.1, hh.2]
  have hrun := va_runIN (e := e) (below := below) (meth := meth) (H := H) (locs := locs) (cells := cells) (slots := slots) (g := F0 m pc ls (s1 ++ va_rf (Option.map (ga Γ) (some n)) :: rest)) (host := host) (bytes := mj.2.1) (maxL := mj.2.2.1) (b := ga Γ n) (As := s1.reverse) (rest := rest) (R := R) ⟨hx, hb, hml, hown, hts⟩ hM9
    ⟨⟨⟨rfl, rfl, by show mj.2.2.2.1 + 1 ≤ R.frames; omega, by show 8 + (mj.2.2.1 + 11) + mj.2.2.2.2.1 ≤ R.locals; omega, fun w hw a' U hW => (by
        have hm : w ∈ π.2.1 := (List.mem_cons.mp hw).elim (fun e => by rw [e]; exact w1) id
        exact word_at hW (good_of_word (List.all_eq_true.mp w6 w hm)) (hts w hm)), by rw [hcw]; exact List.mem_cons_self⟩, by rw [← hcw]; exact hts _ w1, hts _ w2, w4, fun sig hsig => (by
        rw [hsig] at w5
        exact (Option.some.inj w5).symm), va_Nw.use rfl (hK.2.2.2.2.2.1 _ w3)⟩, hv.1, hts _ hv.2⟩
    ⟨gPc_blind, g_pre hC hH hS ⟨rfl, hs3⟩⟩ rfl (gs_len hs3) (g_ls hl) (by rw [List.reverse_reverse]; rfl) (g_r8 hs h8) hd ⟨by omega, by omega⟩
  exact g_back (a := (Value.ref (ga Γ n) :: s1.reverse).toArray) (fun T hT X => Or.inl (hrun T hT X)) hC hE hl hs hS h1 h2 k (fun h' z => absurd z (hnx h'))
/-- Object's constructor -/
theorem g_objInit {idx n : Nat} (hd : decode mi.2.1 pc = .ok (.invokespecial idx, 3)) (hw : Cond.methodLink mi.1 idx Lib.objectInit ∈ π.2.1 ∧ Cond.instanceMethod Lib.objectInit ∈ π.2.1 ∧ Cond.code Lib.objectInit ⟨#[0xb1]⟩ 1 none ∈ π.2.1) (hR : 1 ≤ mi.2.2.2.1 ∧ gcs stk + 12 ≤ mi.2.2.2.2.1) (k : G π mi (pc + 3) loc stk h mc ms Q) : G π mi pc loc (gR (some n) :: stk) h mc ms Q := by
  intro Γ p e R s m args below meth c QE H locs cells slots ls st hC hE hH hl hs hS h1 h2
  obtain ⟨rest, e9, hs9⟩ := gs_ref hs; subst e9; clear hs; have hs := hs9; clear hs9
  have hr := gs_room hs
  obtain ⟨hx, hb, hml, hown, hts, -, hfr, hlo, -⟩ := id hC
  exact W.objInit hx hb hown (hts _ hw.1) (hts _ hw.2.1) (hts _ hw.2.2) rfl (by rw [hml]; exact g_ls hl) rfl hd (by omega) (by show 2 * 0 + _ + 12 ≤ _; omega) (k Γ p e R s m args below meth c QE H locs cells slots ls rest hC hE hH hl hs hS h1 h2)
theorem g_max {idx : Nat} {a b : Int} (hd : decode mi.2.1 pc = .ok (.invokestatic idx, 3)) (hw : Cond.methodLink mi.1 idx Lib.Math.max.name ∈ π.2.1 ∧ Cond.static Lib.Math.max.name ∈ π.2.1 ∧ Cond.initialized "java/lang/Math" ∈ π.2.1 ∧ Cond.code Lib.Math.max.name Lib.Math.max.code 2 (some .int) ∈ π.2.1) (hR : 1 ≤ mi.2.2.2.1 ∧ gcs stk + 13 ≤ mi.2.2.2.2.1) (k : G π mi (pc + 3) loc (gI (max a b) :: stk) h mc ms Q) : G π mi pc loc (gI b :: gI a :: stk) h mc ms Q := by
  intro Γ p e R s m args below meth c QE H locs cells slots ls st hC hE hH hl hs hS h1 h2
  obtain ⟨y, st, e9, hy, hs9⟩ := gs_int hs; subst e9; clear hs; have hs := hs9; clear hs9
  obtain ⟨x, rest, e9, hx9, hs9⟩ := gs_int hs; subst e9; clear hs; have hs := hs9; clear hs9
  have hr := gs_room hs
  obtain ⟨hx, hb, hml, hown, hts, -, hfr, hlo, -⟩ := id hC
  refine va_mmax hx hb (by rw [hml, g_ls hl]) hown (hts _ hw.1) (hts _ hw.2.1) (hts _ hw.2.2.1) (hts _ hw.2.2.2) (by omega) (by omega) (by omega) (by omega) hd (k Γ p e R s m args below meth c QE H locs cells slots ls _ hC hE hH hl ⟨⟨_, rfl, ?_⟩, hs⟩ hS h1 h2)
  rw [← hx9, ← hy]
  split
  · rename_i z; rw [Int32.lt_iff_toInt_lt] at z; omega
  · rename_i z; rw [Int32.lt_iff_toInt_lt] at z; omega
theorem g_min {idx : Nat} {a b : Int} (hd : decode mi.2.1 pc = .ok (.invokestatic idx, 3)) (hw : Cond.methodLink mi.1 idx Lib.Math.min.name ∈ π.2.1 ∧ Cond.static Lib.Math.min.name ∈ π.2.1 ∧ Cond.initialized "java/lang/Math" ∈ π.2.1 ∧ Cond.code Lib.Math.min.name Lib.Math.min.code 2 (some .int) ∈ π.2.1) (hR : 1 ≤ mi.2.2.2.1 ∧ gcs stk + 13 ≤ mi.2.2.2.2.1) (k : G π mi (pc + 3) loc (gI (min a b) :: stk) h mc ms Q) : G π mi pc loc (gI b :: gI a :: stk) h mc ms Q := by
  intro Γ p e R s m args below meth c QE H locs cells slots ls st hC hE hH hl hs hS h1 h2
  obtain ⟨y, st, e9, hy, hs9⟩ := gs_int hs; subst e9; clear hs; have hs := hs9; clear hs9
  obtain ⟨x, rest, e9, hx9, hs9⟩ := gs_int hs; subst e9; clear hs; have hs := hs9; clear hs9
  have hr := gs_room hs
  obtain ⟨hx, hb, hml, hown, hts, -, hfr, hlo, -⟩ := id hC
  refine va_mmin hx hb (by rw [hml, g_ls hl]) hown (hts _ hw.1) (hts _ hw.2.1) (hts _ hw.2.2.1) (hts _ hw.2.2.2) (by omega) (by omega) (by omega) (by omega) hd (k Γ p e R s m args below meth c QE H locs cells slots ls _ hC hE hH hl ⟨⟨_, rfl, ?_⟩, hs⟩ hS h1 h2)
  rw [← hx9, ← hy]
  split
  · rename_i z; rw [Int32.lt_iff_toInt_lt] at z; omega
  · rename_i z; rw [Int32.lt_iff_toInt_lt] at z; omega
theorem g_abs {idx : Nat} {a : Int} (hd : decode mi.2.1 pc = .ok (.invokestatic idx, 3)) (hw : Cond.methodLink mi.1 idx Lib.Math.abs.name ∈ π.2.1 ∧ Cond.static Lib.Math.abs.name ∈ π.2.1 ∧ Cond.initialized "java/lang/Math" ∈ π.2.1 ∧ Cond.code Lib.Math.abs.name Lib.Math.abs.code 1 (some .int) ∈ π.2.1) (hR : 1 ≤ mi.2.2.2.1 ∧ gcs stk + 13 ≤ mi.2.2.2.2.1) (k : G π mi (pc + 3) loc (gI (if 0 ≤ a then a else gsub 0 a) :: stk) h mc ms Q) : G π mi pc loc (gI a :: stk) h mc ms Q := by
  intro Γ p e R s m args below meth c QE H locs cells slots ls st hC hE hH hl hs hS h1 h2
  obtain ⟨x, rest, e9, hx9, hs9⟩ := gs_int hs; subst e9; clear hs; have hs := hs9; clear hs9
  have hr := gs_room hs
  obtain ⟨hx, hb, hml, hown, hts, -, hfr, hlo, -⟩ := id hC
  refine va_mabs hx hb (by rw [hml, g_ls hl]) hown (hts _ hw.1) (hts _ hw.2.1) (hts _ hw.2.2.1) (hts _ hw.2.2.2) (by omega) (by omega) (by omega) (by omega) hd (k Γ p e R s m args below meth c QE H locs cells slots ls _ hC hE hH hl ⟨⟨_, rfl, ?_⟩, hs⟩ hS h1 h2)
  rw [← hx9]
  by_cases z : 0 ≤ x
  · rw [if_pos z, if_pos (by rw [Int32.le_iff_toInt_le, g_zero] at z; exact z)]
  · rw [if_neg z, if_neg (by rw [Int32.le_iff_toInt_le, g_zero] at z; exact z)]
    simp only [gsub, Int32.ofInt_toInt]
    rfl
end GCALL
section GTHROW
variable {π : gP} {mi : gM} {pc : Nat} {loc stk : List gV} {h : gH} {mc ms : Nat} {Q : Option (Option gV) → gH → Prop}
/-- not caught here -/
theorem gx_out (hh : mi.2.2.2.2.2.2.2 = []) (hQ : Q none h) : GX π mi pc loc h mc ms Q := by
  intro Γ p e R s m args below meth c QE H locs cells slots ls rest ce q hC hE hH hl hS h1 h2 hce hcv hcl
  rw [hE.2 h hQ]
  refine vx_out (fun x hx => ?_) hC.2.2.2.2.2.1 hce hcv hcl (fun t ht hA => ⟨rfl, h, hQ, by rw [ht]; exact hH.moved hA, hS.F ht⟩) hS.2.2 (by omega) (by omega)
  rw [hC.2.2.2.2.2.2.2.2.2.2.1, hh] at hx
  cases hx
/-- caught by the only row of the table, and kept at the place i -/
theorem gx_catch {q0 : Nat × Nat × Nat × Nat} {i len : Nat} (hh : mi.2.2.2.2.2.2.2 = [q0]) (hcov : q0.1 ≤ pc ∧ pc < q0.2.1) (h0 : q0.2.2.2 ≠ 0) (hw : Cond.classLink mi.1 q0.2.2.2 gIAE ∈ π.2.1) (hn : i < mi.2.2.1)
    (hd : (decode mi.2.1 q0.2.2.1 = .ok (.astore i, 2) ∧ len = 2) ∨ ∃ k : Fin 4, decode mi.2.1 q0.2.2.1 = .ok (.astore_n k, 1) ∧ (k : Nat) = i ∧ len = 1) (k : G π mi (q0.2.2.1 + len) (loc.set i gU) [] h mc ms Q) : GX π mi pc loc h mc ms Q := by
  intro Γ p e R s m args below meth c QE H locs cells slots ls rest ce q hC hE hH hl hS h1 h2 hce hcv hcl
  have hts := hC.2.2.2.2.1
  refine vx_catch (own := mi.1) (name := gIAE) (E := gIAE) (ce := ce) hC.2.2.2.1 [] ⟨q0.1, q0.2.1, q0.2.2.1, q0.2.2.2⟩ [] (by rw [hC.2.2.2.2.2.2.2.2.2.2.1, hh]; rfl) (fun z hz => nomatch hz) (by simp [covers, hcov]) h0 (hts _ hw) (va_Nw.use rfl (hC.2.2.2.2.2.2.2.2.2.2.2.1.2.2.2.2.2.2 _ (by simp [gNG]))) hce hcv hcl ?_
  obtain ⟨lv, v1, v2⟩ := hl
  rcases hd with ⟨hd, rfl⟩ | ⟨k9, hd, hi, rfl⟩
  · exact lv_astore hC.1 hC.2.1 hd v1 hn rfl fun ls' h9 => k Γ p e R s m args below meth c QE H locs cells slots ls' [] hC hE hH (gl_set (v := gU) v2 h9 trivial) trivial hS h1 h2
  · exact lv_astore_n hC.1 hC.2.1 hd hi v1 hn rfl fun ls' h9 => k Γ p e R s m args below meth c QE H locs cells slots ls' [] hC hE hH (gl_set (v := gU) v2 h9 trivial) trivial hS h1 h2
/-- throw new IllegalArgumentException("..") -/
theorem g_throw {ik is ic : Nat} {text : String} {names : List String} (d0 : decode mi.2.1 pc = .ok (.new ik, 3)) (d3 : decode mi.2.1 (pc + 3) = .ok (.dup, 1)) (d4 : decode mi.2.1 (pc + 4) = .ok (.ldc is, 2)) (d6 : decode mi.2.1 (pc + 6) = .ok (.invokespecial ic, 3)) (d9 : decode mi.2.1 (pc + 9) = .ok (.athrow, 1))
    (hw : Cond.classLink mi.1 ik gIAE ∈ π.2.1 ∧ Cond.initialized gIAE ∈ π.2.1 ∧ (∀ w ∈ vx_atS mi.1 ic gIAE names, w ∈ π.2.1 ∨ w ∈ gNG) ∧ π.2.1.all goodWord = true) (hf : Bundle.fit gIAE = true ∧ ∀ n ∈ names, Bundle.fit n = true) (htx : (mi.1, is, text) ∈ π.2.2.2.2.1) (hh : mi.2.2.2.2.2.2.2 = [])
    (hR : names.length + 3 < mi.2.2.2.1 ∧ gcs stk + (13 * (names.length + 1) + 43) ≤ mi.2.2.2.2.1) (hQ : Q none (gstale h)) : G π mi pc loc stk h (mc + 1) (ms + 6) Q := by
  intro Γ p e R s m args below meth c QE H locs cells slots ls st hC hE hH hl hs hS h1 h2
  have hr := gs_room hs
  obtain ⟨hx, hb, hml, hown, hts, hlocks, hfr, hlo, -, -, htab, hK, hZ, hst⟩ := id hC
  obtain ⟨sa, hsa⟩ := hK.2.2.2.2.1 _ htx
  have hg : ∀ w ∈ π.2.1, vx_ot w = true := fun w hw9 => by
    have h9 := List.all_eq_true.mp hw.2.2.2 w hw9
    simp only [vx_ot, h9, Bool.or_true]
  rw [hE.2 _ hQ]
  refine vx_throwS (own := mi.1) (cls := gIAE) (text := text) (names := names) (ik := ik) (is := is) (ic := ic) (sa := sa) (A := gfree Γ) hx hb hst hown hf.1 hf.2 (hts _ hw.1) (hts _ hw.2.1) hsa (fun w h9 => (hw.2.2.1 w h9).elim (hts w) (fun z => va_Nw.use (gNG_on w z) (hK.2.2.2.2.2.2 w z))) (fun w h9 => ?_) hZ.1 hZ.2 hS (by rw [hml]; exact g_ls hl) d0 d3 d4 d6 d9 (fun x hx9 => ?_) (by omega) (by omega) (by omega) (by omega) hlocks (fun t hA hz hk => ?_) hS.2.2 (by omega) (by omega)
  · rcases List.mem_cons.mp h9 with rfl | h9
    · exact hg _ hw.1
    · rcases List.mem_cons.mp h9 with rfl | h9
      · exact hg _ hw.2.1
      · rcases hw.2.2.1 w h9 with z | z
        · exact hg w z
        · simp only [vx_ot, gNG_on w z, Bool.true_or]
  · rw [htab, hh] at hx9
    cases hx9
  · exact ⟨rfl, gstale h, hQ, (hH.grown hk).moved hA, Nat.le_trans hS.1 hz, fun q z1 z2 => (hk q (Nat.lt_of_lt_of_le z1 hS.1)).trans (hS.2.1 q z1 z2)⟩
end GTHROW
