/-! the judgement G: fields, arrays, new cells, ends, calls, throws -/
section GHEAP
variable {π : gP} {mi : gM} {pc : Nat} {loc stk : List gV} {h : gH} {mc ms : Nat} {Q : Option (Option gV) → gH → Prop}
/-- a field's words: number ci of the kind, k of the field -/
def gF (π : gP) (own : String) (idx ci k : Nat) (r : vw_C) : Prop := π.2.2.1[ci]? = some r ∧ k < r.2.2 ∧ (∀ w ∈ u_ws r.1 r.2.1 r.2.2, w ∈ π.2.1) ∧ Cond.fieldLink own idx (r.2.1 k).1 (r.2.1 k).2.1 (r.2.1 k).2.2.1 ∈ π.2.1
/-- the fields of a kind: their types, their names apart -/
def gT (r : vw_C) (ty : Nat → FieldType) : Prop := (∀ k, k < r.2.2 → parseFieldDescriptor (r.2.1 k).2.2.1 = some (ty k)) ∧ ∀ a, a < r.2.2 → ∀ b, b < r.2.2 → a ≠ b → (r.2.1 a).2.1 ≠ (r.2.1 b).2.1
theorem g_obj {Γ : gE} {s : State} {H : Heap} {n ci : Nat} {r : vw_C} (hH : gHR π Γ s h H) (hn : n < h.2.2.2.1) (ht : h.1 n = .inl ci) (hr : π.2.2.1[ci]? = some r) : ∃ V : Nat → Value, t_OB (ga Γ n) (Γ.1.1 ci) r.2.2 (Γ.1.2 ci) H V ∧ ∀ k, k < r.2.2 → gfv Γ (r.2.1 k).2.2.1 (h.2.1 n k) (h.2.2.1 n k) (V k) := by
  have h9 := hH.1 n hn
  rw [ht] at h9
  obtain ⟨r', hr', V, hV, hk⟩ := h9
  cases Option.some.inj (hr'.symm.trans hr)
  exact ⟨V, hV, hk⟩
theorem g_getV {Γ : gE} {p : Program} {e : Env} {R : Room} {s : State} {m : MethodId} {args : Array Value} {below : List Frame} {meth : Method} {c : Code} {QE : State → Prop} {H : Heap} {locs : List Loc} {cells slots : Nat} {ls : Array Slot} {st : List Value} {ci k idx a : Nat} {r : vw_C} {V : Nat → Value}
    (hC : gC π Γ mi p R s m args meth c) (hd : decode mi.2.1 pc = .ok (.getfield idx, 3)) (hF : gF π mi.1 idx ci k r) (hV : t_OB a (Γ.1.1 ci) r.2.2 (Γ.1.2 ci) H V)
    (kk : W p π.1 e R s m args below meth c H locs cells slots QE (F0 m (pc + 3) ls (V k :: st))) : W p π.1 e R s m args below meth c H locs cells slots QE (F0 m pc ls (.ref a :: st)) := by
  obtain ⟨hx, hb, -, hown, hts, -, -, -, -, -, -, hK, -⟩ := hC
  obtain ⟨f1, f2, f3, f4⟩ := hF
  obtain ⟨cell, q1, q2, q3, q4⟩ := hV
  obtain ⟨hS, hfc, kC, hkC, hkind⟩ := hK.1 ci r f1
  obtain ⟨cf, kf, fi, f, hi, hsl⟩ := hS k f2
  exact W.getf hx hb hown (hts _ f4) hi (u_facts hfc hkC (u_lays hts f3 f2) hi).1 q1 (by rw [q3]; exact fun h => by cases h) (v := V k) (by rw [hsl, q4 k f2]) rfl rfl hd kk
theorem g_getI {ci k idx n : Nat} {r : vw_C} {x : Int} (hd : decode mi.2.1 pc = .ok (.getfield idx, 3)) (hF : gF π mi.1 idx ci k r) (hi : (r.2.1 k).2.2.1 = "I") (ht : h.1 n = .inl ci) (hn : n < h.2.2.2.1) (hv : h.2.1 n k = x) (kk : G π mi (pc + 3) loc (gI x :: stk) h mc ms Q) : G π mi pc loc (gR (some n) :: stk) h mc ms Q := by
  subst hv
  intro Γ p e R s m args below meth c QE H locs cells slots ls st hC hE hH hl hs hS h1 h2
  obtain ⟨st, e9, hs9⟩ := gs_ref hs; subst e9; clear hs; have hs := hs9; clear hs9
  obtain ⟨V, hV, hk⟩ := g_obj hH hn ht hF.1
  have h9 := hk k hF.2.1
  rw [gfv, if_pos hi] at h9
  exact g_getV hC hd hF hV (kk Γ p e R s m args below meth c QE H locs cells slots ls _ hC hE hH hl ⟨h9, hs⟩ hS h1 h2)
theorem g_getR {ci k idx n : Nat} {r : vw_C} {o : Option Nat} (hd : decode mi.2.1 pc = .ok (.getfield idx, 3)) (hF : gF π mi.1 idx ci k r) (hi : (r.2.1 k).2.2.1 ≠ "I") (ht : h.1 n = .inl ci) (hn : n < h.2.2.2.1) (hv : h.2.2.1 n k = o) (kk : G π mi (pc + 3) loc (gR o :: stk) h mc ms Q) : G π mi pc loc (gR (some n) :: stk) h mc ms Q := by
  subst hv
  intro Γ p e R s m args below meth c QE H locs cells slots ls st hC hE hH hl hs hS h1 h2
  obtain ⟨st, e9, hs9⟩ := gs_ref hs; subst e9; clear hs; have hs := hs9; clear hs9
  obtain ⟨V, hV, hk⟩ := g_obj hH hn ht hF.1
  have h9 := hk k hF.2.1
  rw [gfv, if_neg hi] at h9
  exact g_getV hC hd hF hV (kk Γ p e R s m args below meth c QE H locs cells slots ls _ hC hE hH hl ⟨h9, hs⟩ hS h1 h2)
theorem g_putV {Γ : gE} {p : Program} {e : Env} {R : Room} {s : State} {m : MethodId} {args : Array Value} {below : List Frame} {meth : Method} {c : Code} {QE : State → Prop} {H : Heap} {locs : List Loc} {cells slots : Nat} {ls : Array Slot} {st : List Value} {ci k idx a : Nat} {r : vw_C} {V : Nat → Value} {ty : Nat → FieldType} {v : Value}
    (hC : gC π Γ mi p R s m args meth c) (hd : decode mi.2.1 pc = .ok (.putfield idx, 3)) (hF : gF π mi.1 idx ci k r) (hT : gT r ty) (hfin : (r.2.1 k).2.2.2 = false ∨ ((r.2.1 k).2.2.2 = true ∧ mi.2.2.2.2.2.1 = "<init>" ∧ (r.2.1 k).1 = mi.1)) (hn : narrow (ty k) v = v) (hfit : fits (ty k) v = true) (hV : t_OB a (Γ.1.1 ci) r.2.2 (Γ.1.2 ci) H V)
    (kk : ∀ (H' : Heap) (j : Nat), t_OB a (Γ.1.1 ci) r.2.2 (Γ.1.2 ci) H' (updV V k v) → H'.size = H.size → (∀ q : Nat, q ≠ a → H'[q]? = H[q]?) → W p π.1 e R s m args below meth c H' (locs ++ [⟨a, j⟩]) cells slots QE (F0 m (pc + 3) ls st)) : W p π.1 e R s m args below meth c H locs cells slots QE (F0 m pc ls (v :: .ref a :: st)) := by
  obtain ⟨hx, hb, -, hown, hts, -, -, -, hname, -, -, hK, -⟩ := hC
  obtain ⟨f1, f2, f3, f4⟩ := hF
  obtain ⟨cell, q1, q2, q3, q4⟩ := hV
  obtain ⟨hS, hfc, kC, hkC, hkind⟩ := hK.1 ci r f1
  have hap : ∀ x y, x < r.2.2 → y < r.2.2 → x ≠ y → (Γ.1.2 ci) x ≠ (Γ.1.2 ci) y := by
    intro x y hx hy hne
    obtain ⟨_, _, _, fa, hia, ea⟩ := hS x hx
    obtain ⟨_, _, _, fb, hib, eb⟩ := hS y hy
    rw [← ea, ← eb]
    refine u_apart (u_lays hts f3 hx) (u_lays hts f3 hy) hia hib ?_
    rw [(State.fieldFound?_type hia (hT.1 x hx)).1, (State.fieldFound?_type hib (hT.1 y hy)).1]
    exact hT.2 x hx y hy hne
  obtain ⟨cf, kf, fi, f, hi, hsl⟩ := hS k f2
  have hst := (u_facts hfc hkC (u_lays hts f3 f2) hi).1
  have hlay := hts _ (f3 _ (u_in_lay f2))
  unfold u_lay at hlay
  rcases hfin with hfin | ⟨hfin, hinit, hdecl⟩
  · rw [if_neg (by rw [hfin]; decide)] at hlay
    have h6 := u_store hfc hkC hkind hlay hi (hT.1 k f2) hn hfit
    refine W.putK hx hb (f := f) ⟨hown, hts _ f4, ⟨_, _, _, hi⟩, hst⟩ (by rw [q2]; exact h6) q1 q3 (by rw [hsl]; exact k2_hasslot (q4 k f2)) rfl rfl hd fun H' e1 e2 e3 => ?_
    rw [hsl] at e1
    exact kk H' _ ⟨_, e1, q2, q3, t_set q4 hap f2 v⟩ e2 e3
  · rw [if_pos hfin] at hlay
    have hcf : m.cls = cf := by
      obtain ⟨_, _, c', _, _, _, -, -, hf', -, -, -, hown2, -⟩ := Cond.laysFinal_spec hlay
      have e1 : c' = cf := by have := hi.symm.trans hf'; simp at this; exact this.1.symm
      rw [hdecl] at hown2
      rw [← e1]; exact Option.some.inj (hown.symm.trans hown2)
    have h6 := u_fits hfc hkC hkind (Or.inr hlay) hi (hT.1 k f2) hn hfit
    refine W.putFinK hx hb hown (hts _ f4) hi hst hcf (hname.trans hinit) (by rw [q2]; exact h6) q1 q3 (by rw [hsl]; exact k2_hasslot (q4 k f2)) rfl rfl hd fun H' e1 e2 e3 => ?_
    rw [hsl] at e1
    exact kk H' _ ⟨_, e1, q2, q3, t_set q4 hap f2 v⟩ e2 e3
theorem g_putI {ci k idx n : Nat} {r : vw_C} {ty : Nat → FieldType} {x : Int} (hd : decode mi.2.1 pc = .ok (.putfield idx, 3)) (hF : gF π mi.1 idx ci k r) (hT : gT r ty) (hi : (r.2.1 k).2.2.1 = "I" ∧ ty k = .int) (hfin : (r.2.1 k).2.2.2 = false ∨ ((r.2.1 k).2.2.2 = true ∧ mi.2.2.2.2.2.1 = "<init>" ∧ (r.2.1 k).1 = mi.1)) (ht : h.1 n = .inl ci) (hn : n < h.2.2.2.1) (h0 : n ≠ 0) (kk : G π mi (pc + 3) loc stk (gsetI h n k x) mc ms Q) : G π mi pc loc (gI x :: gR (some n) :: stk) h mc ms Q := by
  intro Γ p e R s m args below meth c QE H locs cells slots ls st hC hE hH hl hs hS h1 h2
  obtain ⟨y, st, e9, hy, hs9⟩ := gs_int hs; subst e9; clear hs; have hs := hs9; clear hs9
  obtain ⟨st, e9, hs9⟩ := gs_ref hs; subst e9; clear hs; have hs := hs9; clear hs9
  obtain ⟨V, hV, hk⟩ := g_obj hH hn ht hF.1
  refine g_putV (v := .int y) hC hd hF hT hfin (by rw [hi.2]; rfl) (by rw [hi.2]; rfl) hV fun H' j e1 e2 e3 => ?_
  refine kk Γ p e R s m args below meth c QE H' _ cells slots ls st hC hE (hH.upd n e2 e3 rfl rfl (fun a ha => ?_) (fun _ _ => rfl) ?_) hl hs (hS.put e2 e3 (ga_free h0)) h1 h2
  · funext b
    simp [gsetI, ha]
  · rw [ht]
    refine ⟨r, hF.1, _, e1, fun q hq => ?_⟩
    by_cases e : q = k
    · subst e
      rw [gfv, if_pos hi.1]
      exact ⟨y, by simp [updV], by simp [gsetI, hy]⟩
    · have h9 := hk q hq
      simp only [gsetI, updV, e, and_false, if_false]
      exact h9
theorem g_putR {ci k idx n : Nat} {r : vw_C} {ty : Nat → FieldType} {o : Option Nat} (hd : decode mi.2.1 pc = .ok (.putfield idx, 3)) (hF : gF π mi.1 idx ci k r) (hT : gT r ty) (hi : (r.2.1 k).2.2.1 ≠ "I" ∧ ((∃ C, ty k = .object C) ∨ ∃ t, ty k = .array t)) (hfin : (r.2.1 k).2.2.2 = false ∨ ((r.2.1 k).2.2.2 = true ∧ mi.2.2.2.2.2.1 = "<init>" ∧ (r.2.1 k).1 = mi.1)) (ht : h.1 n = .inl ci) (hn : n < h.2.2.2.1) (h0 : n ≠ 0) (kk : G π mi (pc + 3) loc stk (gsetR h n k o) mc ms Q) : G π mi pc loc (gR o :: gR (some n) :: stk) h mc ms Q := by
  intro Γ p e R s m args below meth c QE H locs cells slots ls st hC hE hH hl hs hS h1 h2
  obtain ⟨st, e9, hs9⟩ := gs_ref hs; subst e9; clear hs; have hs := hs9; clear hs9
  obtain ⟨st, e9, hs9⟩ := gs_ref hs; subst e9; clear hs; have hs := hs9; clear hs9
  obtain ⟨V, hV, hk⟩ := g_obj hH hn ht hF.1
  refine g_putV (v := va_rf (o.map (ga Γ))) hC hd hF hT hfin ?_ ?_ hV fun H' j e1 e2 e3 => ?_
  · rcases hi.2 with ⟨C, e⟩ | ⟨t, e⟩ <;> rw [e] <;> cases o <;> rfl
  · rcases hi.2 with ⟨C, e⟩ | ⟨t, e⟩ <;> rw [e] <;> cases o <;> rfl
  refine kk Γ p e R s m args below meth c QE H' _ cells slots ls st hC hE (hH.upd n e2 e3 rfl rfl (fun _ _ => rfl) (fun a ha => ?_) ?_) hl hs (hS.put e2 e3 (ga_free h0)) h1 h2
  · funext b
    simp [gsetR, ha]
  · rw [ht]
    refine ⟨r, hF.1, _, e1, fun q hq => ?_⟩
    by_cases e : q = k
    · subst e
      rw [gfv, if_neg hi.1]
      simp [updV, gsetR]
    · have h9 := hk q hq
      simp only [gsetR, updV, e, and_false, if_false]
      exact h9
/-- an index inside -/
theorem g_in {y : Int32} {j : Int} {len : Nat} (hy : y.toInt = j) (h1 : 0 ≤ j) (h2 : j < len) : vp_in y len ∧ y.toNatClampNeg = j.toNat := by
  have h9 : y.toNatClampNeg = j.toNat := by rw [← hy]; rfl
  refine ⟨?_, h9⟩
  rintro (z | z)
  · rw [Int32.lt_iff_toInt_lt, hy, g_zero] at z
    omega
  · rw [h9] at z
    omega
theorem g_iald {n len : Nat} {j x : Int} (hd : decode mi.2.1 pc = .ok (.iaload, 1)) (ht : h.1 n = .inr (0, len)) (hn : n < h.2.2.2.1) (c1 : 0 ≤ j) (c2 : j < len) (hv : h.2.1 n j.toNat = x) (kk : G π mi (pc + 1) loc (gI x :: stk) h mc ms Q) : G π mi pc loc (gI j :: gR (some n) :: stk) h mc ms Q := by
  subst hv
  intro Γ p e R s m args below meth c QE H locs cells slots ls st hC hE hH hl hs hS h1 h2
  obtain ⟨y, st, e9, hy, hs9⟩ := gs_int hs; subst e9; clear hs; have hs := hs9; clear hs9
  obtain ⟨st, e9, hs9⟩ := gs_ref hs; subst e9; clear hs; have hs := hs9; clear hs9
  have h9 := hH.1 n hn
  rw [ht] at h9
  obtain ⟨f, g1, g2⟩ := h9
  obtain ⟨i1, i2⟩ := g_in hy c1 c2
  have hlt : j.toNat < len := by omega
  exact W.iald (v := .int (f j.toNat)) hC.1 hC.2.1 g1 (hC.2.2.2.2.2.2.2.2.2.2.2.1.2.1.1 len _) (fun q => by cases q) (by rw [arrV_size]; exact i1) (by rw [i2, arrV_read _ _ hlt]) rfl rfl hd (kk Γ p e R s m args below meth c QE H locs cells slots ls _ hC hE hH hl ⟨⟨_, rfl, g2 _ hlt⟩, hs⟩ hS h1 h2)
theorem g_ialdS {n len : Nat} {j x : Int} (hd : decode mi.2.1 pc = .ok (.iaload, 1)) (ht : h.1 n = .inr (2, len)) (hn : n < h.2.2.2.1) (c1 : 0 ≤ j) (c2 : j < len) (hv : h.2.1 n j.toNat = x) (kk : G π mi (pc + 1) loc (gI x :: stk) h mc ms Q) : G π mi pc loc (gI j :: gR (some n) :: stk) h mc ms Q := by
  subst hv
  intro Γ p e R s m args below meth c QE H locs cells slots ls st hC hE hH hl hs hS h1 h2
  obtain ⟨y, st, e9, hy, hs9⟩ := gs_int hs; subst e9; clear hs; have hs := hs9; clear hs9
  obtain ⟨st, e9, hs9⟩ := gs_ref hs; subst e9; clear hs; have hs := hs9; clear hs9
  have h9 := hH.1 n hn
  rw [ht] at h9
  obtain ⟨xs, ⟨scr, g1, g2, g3, g4, g5⟩, g6⟩ := h9
  obtain ⟨i1, i2⟩ := g_in hy c1 c2
  have hlt : j.toNat < len := by omega
  exact W.iald (v := .int (xs j.toNat)) hC.1 hC.2.1 g1 g2 g3 (by rw [g4]; exact i1) (by rw [i2]; exact g5 _ hlt) rfl rfl hd (kk Γ p e R s m args below meth c QE H locs cells slots ls _ hC hE hH hl ⟨⟨_, rfl, g6 _ hlt⟩, hs⟩ hS h1 h2)
theorem g_alenS {n len : Nat} (hlen : len < 2147483648) (hd : decode mi.2.1 pc = .ok (.arraylength, 1)) (ht : h.1 n = .inr (2, len)) (hn : n < h.2.2.2.1) (kk : G π mi (pc + 1) loc (gI (len : Int) :: stk) h mc ms Q) : G π mi pc loc (gR (some n) :: stk) h mc ms Q := by
  intro Γ p e R s m args below meth c QE H locs cells slots ls st hC hE hH hl hs hS h1 h2
  obtain ⟨st, e9, hs9⟩ := gs_ref hs; subst e9; clear hs; have hs := hs9; clear hs9
  have h9 := hH.1 n hn
  rw [ht] at h9
  obtain ⟨xs, ⟨scr, g1, g2, g3, g4, g5⟩, g6⟩ := h9
  refine W.alen (n := Int32.ofNat len) hC.1 hC.2.1 g1 g2 (by rw [g4] <;> rfl) rfl rfl hd (kk Γ p e R s m args below meth c QE H locs cells slots ls _ hC hE hH hl ⟨⟨_, rfl, ?_⟩, hs⟩ hS h1 h2)
  exact Int32.toInt_ofNat_of_lt hlen
theorem g_lald {n len : Nat} {j x : Int} (hd : decode mi.2.1 pc = .ok (.laload, 1)) (ht : h.1 n = .inr (1, len)) (hn : n < h.2.2.2.1) (c1 : 0 ≤ j) (c2 : j < len) (hv : h.2.1 n j.toNat = x) (kk : G π mi (pc + 1) loc (gL x :: stk) h mc ms Q) : G π mi pc loc (gI j :: gR (some n) :: stk) h mc ms Q := by
  subst hv
  intro Γ p e R s m args below meth c QE H locs cells slots ls st hC hE hH hl hs hS h1 h2
  obtain ⟨y, st, e9, hy, hs9⟩ := gs_int hs; subst e9; clear hs; have hs := hs9; clear hs9
  obtain ⟨st, e9, hs9⟩ := gs_ref hs; subst e9; clear hs; have hs := hs9; clear hs9
  have h9 := hH.1 n hn
  rw [ht] at h9
  obtain ⟨f, g1, g2⟩ := h9
  obtain ⟨i1, i2⟩ := g_in hy c1 c2
  have hlt : j.toNat < len := by omega
  exact W.lald (v := .long (f j.toNat)) hC.1 hC.2.1 g1 (hC.2.2.2.2.2.2.2.2.2.2.2.1.2.2.1.1 len _) (fun q => by cases q) (by rw [arrV_size]; exact i1) (by rw [i2, arrV_read _ _ hlt]) rfl rfl hd (kk Γ p e R s m args below meth c QE H locs cells slots ls _ hC hE hH hl ⟨⟨_, rfl, g2 _ hlt⟩, hs⟩ hS h1 h2)
theorem g_aald {n len ci : Nat} {j : Int} {r : vw_C} {o : Option Nat} (hr : π.2.2.1[ci]? = some r ∧ ci ∈ π.2.2.2.1) (hd : decode mi.2.1 pc = .ok (.aaload, 1)) (ht : h.1 n = .inr (ci + 3, len)) (hn : n < h.2.2.2.1) (c1 : 0 ≤ j) (c2 : j < len) (hv : h.2.2.1 n j.toNat = o) (kk : G π mi (pc + 1) loc (gR o :: stk) h mc ms Q) : G π mi pc loc (gI j :: gR (some n) :: stk) h mc ms Q := by
  subst hv
  intro Γ p e R s m args below meth c QE H locs cells slots ls st hC hE hH hl hs hS h1 h2
  obtain ⟨y, st, e9, hy, hs9⟩ := gs_int hs; subst e9; clear hs; have hs := hs9; clear hs9
  obtain ⟨st, e9, hs9⟩ := gs_ref hs; subst e9; clear hs; have hs := hs9; clear hs9
  have h9 := hH.1 n hn
  rw [ht] at h9
  obtain ⟨f, g1, g2⟩ := h9
  obtain ⟨i1, i2⟩ := g_in hy c1 c2
  have hlt : j.toNat < len := by omega
  have hK := (hC.2.2.2.2.2.2.2.2.2.2.2.1.2.2.2.1 ci hr.2 r hr.1).1
  exact W.aald (v := va_rf (f j.toNat)) (ty := .object r.1) hC.1 hC.2.1 g1 (hK len _) rfl (fun q => by cases q) (by rw [arrV_size]; exact i1) (by rw [i2, arrV_read _ _ hlt]) rfl rfl hd (kk Γ p e R s m args below meth c QE H locs cells slots ls _ hC hE hH hl ⟨by rw [g2 _ hlt]; rfl, hs⟩ hS h1 h2)
theorem g_iast {n len : Nat} {j x : Int} (hd : decode mi.2.1 pc = .ok (.iastore, 1)) (ht : h.1 n = .inr (0, len)) (hn : n < h.2.2.2.1) (h0 : n ≠ 0) (c1 : 0 ≤ j) (c2 : j < len) (kk : G π mi (pc + 1) loc stk (gsetI h n j.toNat x) mc ms Q) : G π mi pc loc (gI x :: gI j :: gR (some n) :: stk) h mc ms Q := by
  intro Γ p e R s m args below meth c QE H locs cells slots ls st hC hE hH hl hs hS h1 h2
  obtain ⟨z, st, e9, hz, hs9⟩ := gs_int hs; subst e9; clear hs; have hs := hs9; clear hs9
  obtain ⟨y, st, e9, hy, hs9⟩ := gs_int hs; subst e9; clear hs; have hs := hs9; clear hs9
  obtain ⟨st, e9, hs9⟩ := gs_ref hs; subst e9; clear hs; have hs := hs9; clear hs9
  have h9 := hH.1 n hn
  rw [ht] at h9
  obtain ⟨f, g1, g2⟩ := h9
  obtain ⟨i1, i2⟩ := g_in hy c1 c2
  have hlt : j.toNat < len := by omega
  refine W.iast hC.1 hC.2.1 g1 (hC.2.2.2.2.2.2.2.2.2.2.2.1.2.1.1 len _) (fun q => by cases q) (by rw [arrV_size]; exact i1) rfl rfl hd fun H' e1 e2 e3 => ?_
  refine kk Γ p e R s m args below meth c QE H' _ cells slots ls st hC hE (hH.upd n e2 e3 rfl rfl (fun a ha => ?_) (fun _ _ => rfl) ?_) hl hs (hS.put e2 e3 (ga_free h0)) h1 h2
  · funext b
    simp [gsetI, ha]
  · rw [ht]
    refine ⟨fun q => if q = j.toNat then z else f q, ?_, fun q hq => ?_⟩
    · rw [e1, i2, arrV_store]
      congr 2
      funext q
      by_cases e : q = j.toNat <;> simp [updV, e]
    · by_cases e : q = j.toNat
      · simp [gsetI, e, hz]
      · simp [gsetI, e, g2 q hq]
theorem g_last {n len : Nat} {j x : Int} (hd : decode mi.2.1 pc = .ok (.lastore, 1)) (ht : h.1 n = .inr (1, len)) (hn : n < h.2.2.2.1) (h0 : n ≠ 0) (c1 : 0 ≤ j) (c2 : j < len) (kk : G π mi (pc + 1) loc stk (gsetI h n j.toNat x) mc ms Q) : G π mi pc loc (gL x :: gI j :: gR (some n) :: stk) h mc ms Q := by
  intro Γ p e R s m args below meth c QE H locs cells slots ls st hC hE hH hl hs hS h1 h2
  obtain ⟨z, st, e9, hz, hs9⟩ := gs_long hs; subst e9; clear hs; have hs := hs9; clear hs9
  obtain ⟨y, st, e9, hy, hs9⟩ := gs_int hs; subst e9; clear hs; have hs := hs9; clear hs9
  obtain ⟨st, e9, hs9⟩ := gs_ref hs; subst e9; clear hs; have hs := hs9; clear hs9
  have h9 := hH.1 n hn
  rw [ht] at h9
  obtain ⟨f, g1, g2⟩ := h9
  obtain ⟨i1, i2⟩ := g_in hy c1 c2
  have hlt : j.toNat < len := by omega
  refine W.last hC.1 hC.2.1 g1 (hC.2.2.2.2.2.2.2.2.2.2.2.1.2.2.1.1 len _) (fun q => by cases q) (by rw [arrV_size]; exact i1) rfl rfl hd fun H' e1 e2 e3 => ?_
  refine kk Γ p e R s m args below meth c QE H' _ cells slots ls st hC hE (hH.upd n e2 e3 rfl rfl (fun a ha => ?_) (fun _ _ => rfl) ?_) hl hs (hS.put e2 e3 (ga_free h0)) h1 h2
  · funext b
    simp [gsetI, ha]
  · rw [ht]
    refine ⟨fun q => if q = j.toNat then z else f q, ?_, fun q hq => ?_⟩
    · rw [e1, i2, arrV_store]
      congr 2
      funext q
      by_cases e : q = j.toNat <;> simp [updV, e]
    · by_cases e : q = j.toNat
      · simp [gsetI, e, hz]
      · simp [gsetI, e, g2 q hq]
theorem g_aast {n len ci : Nat} {j : Int} {r : vw_C} {o : Option Nat} (hr : π.2.2.1[ci]? = some r ∧ ci ∈ π.2.2.2.1) (hd : decode mi.2.1 pc = .ok (.aastore, 1)) (ht : h.1 n = .inr (ci + 3, len)) (hn : n < h.2.2.2.1) (h0 : n ≠ 0) (c1 : 0 ≤ j) (c2 : j < len) (ho : ∀ v, o = some v → h.1 v = .inl ci ∧ v < h.2.2.2.1) (kk : G π mi (pc + 1) loc stk (gsetR h n j.toNat o) mc ms Q) : G π mi pc loc (gR o :: gI j :: gR (some n) :: stk) h mc ms Q := by
  intro Γ p e R s m args below meth c QE H locs cells slots ls st hC hE hH hl hs hS h1 h2
  obtain ⟨st, e9, hs9⟩ := gs_ref hs; subst e9; clear hs; have hs := hs9; clear hs9
  obtain ⟨y, st, e9, hy, hs9⟩ := gs_int hs; subst e9; clear hs; have hs := hs9; clear hs9
  obtain ⟨st, e9, hs9⟩ := gs_ref hs; subst e9; clear hs; have hs := hs9; clear hs9
  have h9 := hH.1 n hn
  rw [ht] at h9
  obtain ⟨f, g1, g2⟩ := h9
  obtain ⟨i1, i2⟩ := g_in hy c1 c2
  have hlt : j.toNat < len := by omega
  have hK := hC.2.2.2.2.2.2.2.2.2.2.2.1.2.2.2.1 ci hr.2 r hr.1
  have key : ∀ (H' : Heap) (j9 : Nat), H'[ga Γ n]? = some ((arrV (Γ.2.1 (ci + 3)) len (fun j => va_rf (f j))).setSlot y.toNatClampNeg (va_rf (o.map (ga Γ)))) → H'.size = H.size → (∀ q : Nat, q ≠ ga Γ n → H'[q]? = H[q]?) → W p π.1 e R s m args below meth c H' (locs ++ [⟨ga Γ n, j9⟩]) cells slots QE (F0 m (pc + 1) ls st) := by
    intro H' j9 e1 e2 e3
    refine kk Γ p e R s m args below meth c QE H' _ cells slots ls st hC hE (hH.upd n e2 e3 rfl rfl (fun _ _ => rfl) (fun a ha => ?_) ?_) hl hs (hS.put e2 e3 (ga_free h0)) h1 h2
    · funext b
      simp [gsetR, ha]
    · rw [ht]
      refine ⟨fun q => if q = j.toNat then o.map (ga Γ) else f q, ?_, fun q hq => ?_⟩
      · rw [e1, i2, arrV_store]
        congr 2
        funext q
        by_cases e : q = j.toNat <;> simp [updV, e]
      · by_cases e : q = j.toNat
        · simp [gsetR, e]
        · simp [gsetR, e, g2 q hq]
  cases o with
  | none => exact va_WaastN (C := r.1) hC.1 hC.2.1 g1 (hK.1 len _) (fun h => by cases h) (by rw [arrV_size]; exact i1) rfl rfl hd fun H' e1 e2 e3 => key H' _ e1 e2 e3
  | some v =>
    obtain ⟨w1, w2⟩ := ho v rfl
    obtain ⟨V, ⟨cv, v1, v2, v3, v4⟩, -⟩ := g_obj hH w2 w1 hr.1
    have hcls := (hC.2.2.2.2.2.2.2.2.2.2.2.1.1 ci r hr.1).2
    obtain ⟨kA, comp, k1, k2, k3, -⟩ := hK.2.1
    have hcomp : comp = Γ.1.1 ci := Option.some.inj (k3.symm.trans hcls.1)
    subst hcomp
    obtain ⟨kC, hkC, -⟩ := id hcls.2
    exact W.aast hC.1 hC.2.1 g1 (fun q h => by cases h) (fun h => by cases h) k1 k2 rfl hkC ⟨fun q => i1 (Or.inl q), by rw [arrV_size]; omega⟩ v1 (fun q h => by rw [v3] at h; cases h) (by rw [v2]; exact hkC) (by rw [v2]; exact va_assign hcls) rfl rfl hd fun H' e1 e2 e3 => key H' _ e1 e2 e3
/-- a new object of the kind ci -/
theorem g_new {ci idx N : Nat} {r : vw_C} {ty : Nat → FieldType} (hd : decode mi.2.1 pc = .ok (.new idx, 3)) (hr : π.2.2.1[ci]? = some r ∧ (∀ w ∈ u_ws r.1 r.2.1 r.2.2, w ∈ π.2.1)) (hT : gT r ty) (hw : Cond.classLink mi.1 idx r.1 ∈ π.2.1 ∧ Cond.instantiable r.1 N ∈ π.2.1 ∧ Cond.initialized r.1 ∈ π.2.1)
    (hty : ∀ k, k < r.2.2 → ((r.2.1 k).2.2.1 = "I" ∧ ty k = .int) ∨ ((r.2.1 k).2.2.1 ≠ "I" ∧ ((∃ C, ty k = .object C) ∨ ∃ t, ty k = .array t))) (h0 : h.2.2.2.1 ≠ 0) (hf : h.2.2.2.2 = true) (kk : G π mi (pc + 3) loc (gR (some h.2.2.2.1) :: stk) (gnew h (.inl ci)) mc ms Q) : G π mi pc loc stk h (mc + 1) (ms + N) Q := by
  intro Γ p e R s m args below meth c QE H locs cells slots ls st hC hE hH hl hs hS h1 h2
  obtain ⟨hx, hb, -, hown, hts, -, -, -, -, -, -, hK, -⟩ := id hC
  have hKn := hK.1 ci r hr.1
  refine W.newcK hx hb hown (hts _ hw.1) (hts _ hw.2.1) (hts _ hw.2.2) rfl hd (by omega) (by omega) hKn.2.1 rfl fun H' kC hkC e1 e2 e3 => ?_
  obtain ⟨n1, n2⟩ := hH.new (t := .inl ci) h0 hf e2 e3 ⟨r, hr.1, _, u_born ty hts hr.2 hKn hkC e1 hT.1, fun k hk => by
    rcases hty k hk with ⟨a1, a2⟩ | ⟨a1, ⟨C, a2⟩ | ⟨t, a2⟩⟩
    · rw [gfv, if_pos a1, a2]; exact ⟨0, rfl, rfl⟩
    · rw [gfv, if_neg a1, a2]; rfl
    · rw [gfv, if_neg a1, a2]; rfl⟩
  refine kk Γ p e R s m args below meth c QE H' locs (cells + 1) (slots + N) ls (.ref H.size :: st) hC hE n1 hl ⟨?_, hs⟩ ?_ (by omega) (by omega)
  · show Value.ref H.size = va_rf (some (ga Γ h.2.2.2.1))
    rw [n2]; rfl
  · exact ⟨Nat.le_trans hS.1 (by omega), fun x z1 z2 => (e3 x (Nat.lt_of_lt_of_le z1 hS.1)).trans (hS.2.1 x z1 z2), hS.2.2⟩
theorem g_newI {x : Int} {N : Nat} (hd : decode mi.2.1 pc = .ok (.newarray .int, 2)) (hw : Cond.arrayClass .int ∈ π.2.1) (hN : x = (N : Int)) (hb : N ≤ 100000) (h0 : h.2.2.2.1 ≠ 0) (hf : h.2.2.2.2 = true) (kk : G π mi (pc + 2) loc (gR (some h.2.2.2.1) :: stk) (gnew h (.inr (0, N))) mc ms Q) : G π mi pc loc (gI x :: stk) h (mc + 1) (ms + N) Q := by
  intro Γ p e R s m args below meth c QE H locs cells slots ls st hC hE hH hl hs hS h1 h2
  obtain ⟨y, st, e9, hy, hs9⟩ := gs_int hs; subst e9; clear hs; have hs := hs9; clear hs9
  obtain ⟨hx, hb9, -, hown, hts, -, -, -, -, -, -, hK, -⟩ := id hC
  subst hN
  have hyN : y.toNatClampNeg = N := by show y.toInt.toNat = N; rw [hy]; rfl
  refine W.newa hx hb9 (atype := .int) (hts _ hw) rfl hd rfl (by rw [Int32.lt_iff_toInt_lt, hy, g_zero]; omega) (by rw [hyN]; show N * 4 ≤ _; omega) (by omega) (by rw [hyN]; omega) fun cA kA comp f1 f2 f3 => ?_
  rw [hyN]
  have hcA : cA = Γ.2.1 0 := Option.some.inj (f1.symm.trans hK.2.1.2)
  subst hcA
  have e2 : (H.push ({ cls := Γ.2.1 0, slots := Array.replicate N (defaultValue (newarray.typeOf .int)), vm := .none } : Cell)).size = H.size + 1 := by simp
  have e3 : ∀ q : Nat, q < H.size → (H.push ({ cls := Γ.2.1 0, slots := Array.replicate N (defaultValue (newarray.typeOf .int)), vm := .none } : Cell))[q]? = H[q]? := fun q hq => by rw [Array.getElem?_push, if_neg (Nat.ne_of_lt hq)]
  obtain ⟨n1, n2⟩ := hH.new (t := .inr (0, N)) h0 hf e2 e3 ⟨fun _ => 0, by rw [Array.getElem?_push_size, ← arrV_new]; rfl, fun _ _ => rfl⟩
  refine kk Γ p e R s m args below meth c QE _ locs (cells + 1) (slots + N) ls (.ref H.size :: st) hC hE n1 hl ⟨?_, hs⟩ ?_ (by omega) (by omega)
  · show Value.ref H.size = va_rf (some (ga Γ h.2.2.2.1))
    rw [n2]; rfl
  · exact ⟨Nat.le_trans hS.1 (by omega), fun x z1 z2 => (e3 x (Nat.lt_of_lt_of_le z1 hS.1)).trans (hS.2.1 x z1 z2), hS.2.2⟩
theorem g_newL {x : Int} {N : Nat} (hd : decode mi.2.1 pc = .ok (.newarray .long, 2)) (hw : Cond.arrayClass .long ∈ π.2.1) (hN : x = (N : Int)) (hb : N ≤ 100000) (h0 : h.2.2.2.1 ≠ 0) (hf : h.2.2.2.2 = true) (kk : G π mi (pc + 2) loc (gR (some h.2.2.2.1) :: stk) (gnew h (.inr (1, N))) mc ms Q) : G π mi pc loc (gI x :: stk) h (mc + 1) (ms + N) Q := by
  intro Γ p e R s m args below meth c QE H locs cells slots ls st hC hE hH hl hs hS h1 h2
  obtain ⟨y, st, e9, hy, hs9⟩ := gs_int hs; subst e9; clear hs; have hs := hs9; clear hs9
  obtain ⟨hx, hb9, -, hown, hts, -, -, -, -, -, -, hK, -⟩ := id hC
  subst hN
  have hyN : y.toNatClampNeg = N := by show y.toInt.toNat = N; rw [hy]; rfl
  refine W.newa hx hb9 (atype := .long) (hts _ hw) rfl hd rfl (by rw [Int32.lt_iff_toInt_lt, hy, g_zero]; omega) (by rw [hyN]; show N * 8 ≤ _; omega) (by omega) (by rw [hyN]; omega) fun cA kA comp f1 f2 f3 => ?_
  rw [hyN]
  have hcA : cA = Γ.2.1 1 := Option.some.inj (f1.symm.trans hK.2.2.1.2)
  subst hcA
  have e2 : (H.push ({ cls := Γ.2.1 1, slots := Array.replicate N (defaultValue (newarray.typeOf .long)), vm := .none } : Cell)).size = H.size + 1 := by simp
  have e3 : ∀ q : Nat, q < H.size → (H.push ({ cls := Γ.2.1 1, slots := Array.replicate N (defaultValue (newarray.typeOf .long)), vm := .none } : Cell))[q]? = H[q]? := fun q hq => by rw [Array.getElem?_push, if_neg (Nat.ne_of_lt hq)]
  obtain ⟨n1, n2⟩ := hH.new (t := .inr (1, N)) h0 hf e2 e3 ⟨fun _ => 0, by rw [Array.getElem?_push_size, ← arrV_new]; rfl, fun _ _ => rfl⟩
  refine kk Γ p e R s m args below meth c QE _ locs (cells + 1) (slots + N) ls (.ref H.size :: st) hC hE n1 hl ⟨?_, hs⟩ ?_ (by omega) (by omega)
  · show Value.ref H.size = va_rf (some (ga Γ h.2.2.2.1))
    rw [n2]; rfl
  · exact ⟨Nat.le_trans hS.1 (by omega), fun x z1 z2 => (e3 x (Nat.lt_of_lt_of_le z1 hS.1)).trans (hS.2.1 x z1 z2), hS.2.2⟩
theorem g_newA {x : Int} {N ci idx : Nat} {r : vw_C} (hr : π.2.2.1[ci]? = some r ∧ ci ∈ π.2.2.2.1) (hd : decode mi.2.1 pc = .ok (.anewarray idx, 3)) (hw : Cond.classLink mi.1 idx r.1 ∈ π.2.1) (hN : x = (N : Int)) (hb : N ≤ 100000) (h0 : h.2.2.2.1 ≠ 0) (hf : h.2.2.2.2 = true) (kk : G π mi (pc + 3) loc (gR (some h.2.2.2.1) :: stk) (gnew h (.inr (ci + 3, N))) mc ms Q) : G π mi pc loc (gI x :: stk) h (mc + 1) (ms + N) Q := by
  intro Γ p e R s m args below meth c QE H locs cells slots ls st hC hE hH hl hs hS h1 h2
  obtain ⟨y, st, e9, hy, hs9⟩ := gs_int hs; subst e9; clear hs; have hs := hs9; clear hs9
  obtain ⟨hx, hb9, -, hown, hts, -, -, -, -, -, -, hK, -⟩ := id hC
  subst hN
  have hyN : y.toNatClampNeg = N := by show y.toInt.toNat = N; rw [hy]; rfl
  refine W.anew hx hb9 hown (hts _ hw) (va_AO.use (hK.2.2.2.1 ci hr.2 r hr.1).2.2) rfl hd rfl (by rw [Int32.lt_iff_toInt_lt, hy, g_zero]; omega) (by rw [hyN]; omega) (by omega) (by rw [hyN]; omega) fun cA kA comp f1 f2 f3 f4 => ?_
  rw [hyN]
  obtain ⟨kA9, comp9, r1, r2, r3, r4⟩ := (hK.2.2.2.1 ci hr.2 r hr.1).2.1
  have hcA : cA = Γ.2.1 (ci + 3) := Option.some.inj (f1.symm.trans r4)
  subst hcA
  have e2 : (H.push ({ cls := Γ.2.1 (ci + 3), slots := Array.replicate N .null, vm := .none } : Cell)).size = H.size + 1 := by simp
  have e3 : ∀ q : Nat, q < H.size → (H.push ({ cls := Γ.2.1 (ci + 3), slots := Array.replicate N .null, vm := .none } : Cell))[q]? = H[q]? := fun q hq => by rw [Array.getElem?_push, if_neg (Nat.ne_of_lt hq)]
  obtain ⟨n1, n2⟩ := hH.new (t := .inr (ci + 3, N)) h0 hf e2 e3 ⟨fun _ => none, by rw [Array.getElem?_push_size, ← arrV_new]; rfl, fun _ _ => rfl⟩
  refine kk Γ p e R s m args below meth c QE _ locs (cells + 1) (slots + N) ls (.ref H.size :: st) hC hE n1 hl ⟨?_, hs⟩ ?_ (by omega) (by omega)
  · show Value.ref H.size = va_rf (some (ga Γ h.2.2.2.1))
    rw [n2]; rfl
  · exact ⟨Nat.le_trans hS.1 (by omega), fun x z1 z2 => (e3 x (Nat.lt_of_lt_of_le z1 hS.1)).trans (hS.2.1 x z1 z2), hS.2.2⟩
/-- forget that no other cell was made -/
theorem g_stale (k : G π mi pc loc stk (gstale h) mc ms Q) : G π mi pc loc stk h mc ms Q := fun Γ p e R s m args below meth c QE H locs cells slots ls st hC hE hH hl hs hS h1 h2 => k Γ p e R s m args below meth c QE H locs cells slots ls st hC hE hH.stale hl hs hS h1 h2
theorem g_wide {mc' ms' : Nat} (c1 : mc' ≤ mc) (c2 : ms' ≤ ms) (k : G π mi pc loc stk h mc' ms' Q) : G π mi pc loc stk h mc ms Q := fun Γ p e R s m args below meth c QE H locs cells slots ls st hC hE hH hl hs hS h1 h2 => k Γ p e R s m args below meth c QE H locs cells slots ls st hC hE hH hl hs hS (by omega) (by omega)
end GHEAP
