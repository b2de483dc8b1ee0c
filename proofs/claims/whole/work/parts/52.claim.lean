/-! THE CLAIM OUT OF ONE WALK OF THE LAW'S BODY. Your part is whole_start (and what it stands on); all else here is the same for every law, but numbers. -/
def R_law : String := "RopewayDeskLaw"
def lw_P (b : Addr) (xs : List Int32) (args : Array Value) (s : State) : Prop := args = #[.ref b] ∧ s.IntsAt b xs ∧ xs.length ≤ 2048 ∧ (Jvm.Cond.and given_1 narrow_1).before args s = true
def lw_Q (_ : Array Value) (s : State) (o : Outcome) (t : State) : Prop := o = .returned (some (.int 1)) ∧ Framed s o t [] 609802 7266699
def lw_Z (below : List Frame) (a : Array Value) (s : State) : State → Prop := fun t => ∃ o, t.status = .running ∧ Ended t below o ∧ lw_Q a s o t
/-- the law's own end, with 1 on the stack, nothing written that was there before, its room as the claim has it -/
theorem lw_ret {p : Program} {l : Launch} {e : Env} {s : State} {m : MethodId} {below : List Frame} {meth : Method} {c : Code} {b : Nat} (hx : p.tables.exec = Jvm.exec) (hb : c.code = code) (hr : meth.sig.returnType = ret) (hlocks : meth.locks = false) {pc : Nat} {H : Heap} {ls : Array Slot} (hdg : decode code pc = .ok (.ireturn, 1)) : W p l e room_1 s m #[Value.ref b] below meth c H [] 609802 7266699 (lw_Z below #[Value.ref b] s) (F0 m pc ls [.int 1]) := by
  intro T hT X
  obtain ⟨fs, hret, hrun, hended, hW, hframe⟩ := X.leave (v := some (.int 1)) (hlocks := hlocks) (fun h => by rw [hr] at h; cases h)
  have hmeth' : T.vm.method? m = some meth := X.method'
  refine ⟨T.setFrames fs, ?_, .returned (some (.int 1)), hrun, hended, rfl, ⟨_, rfl⟩, hW, hframe⟩
  jvm_step X.here [X.here.top, hx, hb, hdg, hmeth', hr, ret, narrow_b1]
  (try refine ⟨rfl, ?_⟩); (try refine ⟨rfl, ?_⟩)
  first | (intro acts; rw [hret _ acts rfl rfl rfl]) | rw [hret _ _ rfl rfl rfl]
  exact Steps.refl _
/-- what holds at the law's entry: the machine, the code, the tables' words (any of lw_tbl by 'hts w (by decide +kernel)'), the script of L ints xs at the cell b, what the Statement gives of the start (any of its parts by flat_of_before) -/
def lw_At (p : Program) (s : State) (m : MethodId) (meth : Method) (c : Code) (b L : Nat) (xs : Nat → Int32) : Prop :=
  p.tables.exec = Jvm.exec ∧ c.code = code ∧ meth.sig.returnType = ret ∧ c.maxLocals = 7 ∧ s.vm.findClass R_law = some m.cls ∧ (∀ w ∈ lw_tbl, w.before #[Value.ref b] s = true) ∧ va_X b L xs s s.heap ∧ b < s.heap.size ∧ meth.locks = false ∧ (Jvm.Cond.and given_1 narrow_1).before #[Value.ref b] s = true ∧ meth.name = "law" ∧ c.exceptionTable.toList = []
theorem lw_t {w : Cond} (k : Nat) (h : tables_1[k]? = some w) : w ∈ lw_tbl := List.mem_append_right _ (List.mem_of_getElem? h)
theorem gWS_in : ∀ w ∈ gWS, w ∈ lw_tbl := fun w hw => (List.mem_filter.mp hw).1
def gD (c0 c1 c2 c3 c4 c5 c6 : ClassId) (k : Nat) : ClassId := match k with
  | 0 => c0
  | 1 => c1
  | 2 => c2
  | 3 => c3
  | 4 => c4
  | 5 => c5
  | _ => c6
def gDS (c0 c1 c2 c3 c4 c5 c6 : Nat → Nat) (k : Nat) : Nat → Nat := match k with
  | 0 => c0
  | 1 => c1
  | 2 => c2
  | 3 => c3
  | 4 => c4
  | 5 => c5
  | _ => c6
def gDA (a0 a1 a3 a6 : ClassId) (k : Nat) : ClassId := match k with
  | 0 => a0
  | 1 => a1
  | 3 => a3
  | _ => a6
theorem arr_of {s : State} {args : Array Value} {ty : FieldType} (h : (Cond.arrayClass ty).before args s = true) : ∃ c : ClassId, ArrOfT s c ty ∧ s.vm.findClass ("[" ++ ty.toString) = some c := by
  obtain ⟨c, k, comp, h1, h2, h3⟩ := Cond.arrayClass_spec h
  exact ⟨c, fun n z => ⟨(fun k h => by cases h), k, h2, comp, h3⟩, h1⟩
theorem arr_over {s : State} {args : Array Value} {C : String} (h : (Cond.arrayOver (.object C)).before args s = true) : ∃ c : ClassId, ArrOfT s c (.object C) ∧ va_RA s c (.object C) ∧ va_AO C s := by
  obtain ⟨comp, c, k, h1, h2, h3, h4, h5⟩ := Cond.arrayOver_spec h
  exact ⟨c, fun n z => ⟨(fun k h => by cases h), k, h3, comp, h4⟩, ⟨k, comp, h3, h4, h1, h5⟩, va_AO.of h⟩
theorem txt_of {s : State} {args : Array Value} {own text : String} {k cur : Nat} (hc : s.vm.findClass own = some cur) (h : (Cond.stringRef own k text).before args s = true) : ∃ sa, vk_R own k text sa s := by
  obtain ⟨-, -, -, sa, -, -, -, -, -, hev⟩ := Cond.stringRef_spec hc h
  exact ⟨sa, vk_R.of h hev⟩
/-- what the tables say at the start -/
theorem gK_start {s : State} {args : Array Value} {l : Launch} (hts : ∀ w ∈ lw_tbl, w.before args s = true) : ∃ (D : va_G) (A : Nat → ClassId), ∀ b n : Nat, gK (gπ l) (D, A, b, n) s := by
  have hg : ∀ w ∈ gWS, w.before args s = true := fun w hw => hts w (gWS_in w hw)
  have ht : ∀ {w : Cond} (k : Nat), tables_1[k]? = some w → w.before args s = true := fun k h => hts _ (lw_t k h)
  obtain ⟨c0, s0, k0⟩ := u_known (C := KX0.1) (T := KX0.2.1) (N := KX0.2.2) (n := 11) hg lX0 (ht 29 (by decide +kernel))
  obtain ⟨c1, s1, k1⟩ := u_known (C := KX1.1) (T := KX1.2.1) (N := KX1.2.2) (n := 1) hg lX1 (ht 22 (by decide +kernel))
  obtain ⟨c2, s2, k2⟩ := u_known (C := KX2.1) (T := KX2.2.1) (N := KX2.2.2) (n := 2) hg lX2 (ht 94 (by decide +kernel))
  obtain ⟨c3, s3, k3⟩ := u_known (C := KX3.1) (T := KX3.2.1) (N := KX3.2.2) (n := 2) hg lX3 (ht 132 (by decide +kernel))
  obtain ⟨c4, s4, k4⟩ := u_known (C := KX4.1) (T := KX4.2.1) (N := KX4.2.2) (n := 5) hg lX4 (ht 109 (by decide +kernel))
  obtain ⟨c5, s5, k5⟩ := u_known (C := KX5.1) (T := KX5.2.1) (N := KX5.2.2) (n := 10) hg lX5 (ht 14 (by decide +kernel))
  obtain ⟨c6, s6, k6⟩ := u_known (C := KX6.1) (T := KX6.2.1) (N := KX6.2.2) (n := 20) hg lX6 (ht 534 (by decide +kernel))
  obtain ⟨a0, b0⟩ := arr_of (ty := .int) (hg _ nwI)
  obtain ⟨a1, b1⟩ := arr_of (ty := .long) (hg _ nwL)
  obtain ⟨a3, b3⟩ := arr_over (C := KX0.1) (ht 28 (by decide +kernel))
  obtain ⟨a6, b6⟩ := arr_over (C := KX3.1) (ht 92 (by decide +kernel))
  have hR : s.vm.findClass "RopewayDesk" = some c5 := k5.2.1
  refine ⟨(gD c0 c1 c2 c3 c4 c5 c6, gDS s0 s1 s2 s3 s4 s5 s6), gDA a0 a1 a3 a6, fun b n => ⟨fun ci r h => ?_, b0, b1, fun ci hci r h => ?_, fun q hq => ?_, fun q hq => ?_, fun w hw => ?_⟩⟩
  · match ci, h with
    | 0, h => cases h; exact k0
    | 1, h => cases h; exact k1
    | 2, h => cases h; exact k2
    | 3, h => cases h; exact k3
    | 4, h => cases h; exact k4
    | 5, h => cases h; exact k5
    | 6, h => cases h; exact k6
    | j + 7, h => exact absurd h (by intro z; cases z)
  · have hci : ci ∈ [0, 3] := hci
    simp only [List.mem_cons, List.not_mem_nil, or_false] at hci
    rcases hci with rfl | rfl
    · cases h; exact b3
    · cases h; exact b6
  · have hq : q ∈ gTx := hq
    simp only [gTx, List.mem_cons, List.not_mem_nil, or_false] at hq
    rcases hq with rfl | rfl | rfl | rfl | rfl | rfl | rfl | rfl | rfl
    · exact txt_of hR (ht 249 (by decide +kernel))
    · exact txt_of hR (ht 317 (by decide +kernel))
    · exact txt_of hR (ht 416 (by decide +kernel))
    · exact txt_of hR (ht 417 (by decide +kernel))
    · exact txt_of hR (ht 425 (by decide +kernel))
    · exact txt_of hR (ht 441 (by decide +kernel))
    · exact txt_of hR (ht 452 (by decide +kernel))
    · exact txt_of hR (ht 486 (by decide +kernel))
    · exact txt_of hR (ht 494 (by decide +kernel))
  · have hq : q ∈ gNe := hq
    simp only [gNe, List.mem_cons, List.not_mem_nil, or_false] at hq
    rcases hq with rfl | rfl
    · exact va_Nw.of rfl (ht 95 (by decide +kernel))
    · exact va_Nw.of rfl (ht 110 (by decide +kernel))
  · simp only [gNG, List.mem_cons, List.not_mem_nil, or_false] at hw
    rcases hw with rfl | rfl | rfl | rfl
    · exact va_Nw.of rfl (ht 214 (by decide +kernel))
    · exact va_Nw.of rfl (ht 216 (by decide +kernel))
    · exact va_Nw.of rfl (ht 218 (by decide +kernel))
    · exact va_Nw.of rfl (ht 212 (by decide +kernel))
/-- from the entry, for every script of at most 2048 ints, the law comes to its end with true -/
theorem whole_start {p : Program} {e : Env} {s : State} {m : MethodId} {below : List Frame} {meth : Method} {c : Code} (l : Launch) (hst : l.stackTraces = false) {b L : Nat} {xs : Nat → Int32} (hL : L ≤ 2048) (C0 : lw_At p s m meth c b L xs) : W p l e room_1 s m #[Value.ref b] below meth c s.heap [] 0 0 (lw_Z below #[Value.ref b] s) (entryFrame m ([Value.ref b] : List Value).toArray 7) := by
  obtain ⟨hx, hb, hr, hml, hown, hts, hX, hbl, hlocks, hgv, hname, htab⟩ := C0
  obtain ⟨D, A, hK⟩ := gK_start (l := l) hts
  have hs := flat_of_before _ hgv
  have hA : ∀ a : Nat, a < s.heap.size → ¬ gfree (D, A, b, s.heap.size - 1) a := fun a ha z => by
    have z : s.heap.size - 1 < a := z
    omega
  have hZ : gZ (D, A, b, s.heap.size - 1) s s.heap :=
    ⟨vx_Zqof (hts _ (lw_t 237 (by decide +kernel))) (hts _ (lw_t 8 (by decide +kernel))) (hs _ (by decide +kernel)) hA, vx_Zqof (hts _ (lw_t 239 (by decide +kernel))) (hts _ (lw_t 8 (by decide +kernel))) (hs _ (by decide +kernel)) hA⟩
  have hC : gC (gπ l) (D, A, b, s.heap.size - 1) mL_law p room_1 s m #[Value.ref b] meth c :=
    ⟨hx, hb, hml, hown, fun w hw => hts w (gWS_in w hw), hlocks, Nat.le_refl _, Nat.le_refl _, hname, hr, by rw [htab]; rfl, hK b _, hZ, hst⟩
  have hE : gEnd (gπ l) (D, A, b, s.heap.size - 1) mL_law (fun r _ => r = some (some (gI 1))) p e room_1 s m #[Value.ref b] below meth c (lw_Z below #[Value.ref b] s) := by
    refine ⟨fun r w h H locs cells slots pc ls hQ hw hH hS hc hsl hret => ?_, fun h hq => by cases hq⟩
    cases hQ
    obtain ⟨y, st, rfl, hy, hs9⟩ := gs_int hw
    cases gs_nil hs9
    have y1 : y = 1 := Int32.toInt_inj.mp (hy.trans rfl)
    subst y1
    rcases hret with ⟨hd, -⟩ | ⟨-, o, n, ho, -⟩ | ⟨-, ho, -⟩
    · refine va_forget (fun q hq => ?_) (W.widen hc hsl (lw_ret hx hb hr hlocks hd))
      have z : s.heap.size - 1 < q.base := hS.2.2 q hq
      omega
    · cases ho
    · cases ho
  have hH : gHR (gπ l) (D, A, b, s.heap.size - 1) s (hn L (i0 (fun j => (xs j).toInt)) r0 1) s.heap := by
    refine ⟨fun n hn9 => ?_, by show b ≤ s.heap.size - 1; omega, fun _ => by show s.heap.size = s.heap.size - 1 + 1; omega⟩
    have hn9 : n < 1 := hn9
    obtain rfl : n = 0 := by omega
    exact ⟨xs, hX, fun j _ => rfl⟩
  rw [lg_entry_eq]
  refine la_start (xs := fun j => (xs j).toInt) l hL (D, A, b, s.heap.size - 1) p e room_1 s m #[Value.ref b] below meth c _ s.heap [] 0 0 _ [] hC hE hH ?_ trivial va_S.rf (by show 0 + 598 ≤ 609802; omega) (by show 0 + 4458 ≤ 7266699; omega)
  obtain ⟨a1, a2, a3⟩ := g_args (Γ := (D, A, b, s.heap.size - 1)) (as := [gR (some 0)]) (vs := [Value.ref b]) 0 ⟨rfl, trivial⟩ (gAr gAn)
  refine ⟨lv_args 0 [Value.ref b], lv_entry [Value.ref b] (Nat.le_of_ble_eq_true rfl), fun j x hj => ?_, fun j o hj => ?_⟩
  · have h9 := a1 j x (g_pad (as := [gR (some 0)]) (k := 6) hj (by intro z; cases z))
    rwa [Nat.zero_add] at h9
  · have h9 := a2 j o (g_pad (as := [gR (some 0)]) (k := 6) hj (by intro z; cases z))
    rwa [Nat.zero_add] at h9
set_option maxHeartbeats 4000000 in
theorem lw_walk (l : Launch) (hst : l.stackTraces = false) (b : Addr) (xs : List Int32) : MetFree l x (headSpec (Jvm.Cond.code x code maxLocals ret :: tables_1) room_1) (lw_P b xs) (fun _ _ _ _ _ => True) lw_Q := by
  refine MetFree.of_bodyS (code := code) (maxLocals := maxLocals) (ret := ret) (by decide) ?_ ?_
  · intro args s m h hn
    obtain ⟨meth, c, h1, h2, h3, h4, h5, h6, -, -⟩ := Cond.code_spec hn (atoms_spec (ws := Jvm.Cond.code x code maxLocals ret :: tables_1) h _ List.mem_cons_self)
    exact ⟨meth, c, h1, h2, h3, h4, h5, h6⟩
  · intro p e s m args below meth c s₁ B hml0 hP _
    obtain ⟨rfl, hx, hbd, hgv⟩ := hP
    obtain ⟨scr, harrAt, hlist, hof, hsmall⟩ := hx
    obtain ⟨hcb, hkn, -, -⟩ := State.arrayAt?_spec harrAt
    have hown : s.vm.findClass R_law = some m.cls := findClass_of_methodNamed B.named
    have hts0 : ∀ c ∈ (Jvm.Cond.code x code maxLocals ret :: tables_1), c.before #[Value.ref b] s = true := atoms_spec (ws := Jvm.Cond.code x code maxLocals ret :: tables_1) B.pre
    have hts : ∀ w ∈ lw_tbl, w.before #[Value.ref b] s = true := k2_hts_sels lw_privs (fun w hw => hts0 w (List.mem_cons_of_mem _ hw)) lw_privs_ok
    have hml : c.maxLocals = 7 := B.maxLocals_eq (hts0 _ List.mem_cons_self)
    have X₀ : Stand p l e room_1 s m #[Value.ref b] below meth c s₁ [] 0 0 := Stand.of_body B
    have hh0 : s₁.heap = s.heap := by rw [B.state]; rfl
    have htab : c.exceptionTable.toList = [] := by
      obtain ⟨meth9, c9, h1, h2, -, -, -, -, h7, -⟩ := Cond.code_spec B.named (hts0 _ List.mem_cons_self)
      cases Option.some.inj (h1.symm.trans B.method)
      cases Option.some.inj (h2.symm.trans (Stand.of_body B).code)
      rw [Array.isEmpty_iff.mp h7]
    have hsz : scr.slots.size = xs.length := by rw [← Array.length_toList, hlist, List.length_map]
    have hval : ∀ j : Nat, j < xs.length → scr.slots[j]? = some (.int (xs.getD j 0)) := fun j hj => by
      rw [← Array.getElem?_toList, hlist]
      simp [hj]
    have hbl : b < s.heap.size := (Array.getElem?_eq_some_iff.mp hcb).1
    have hX : va_X b xs.length (fun j => xs.getD j 0) s s.heap := ⟨scr, hcb, hof, hkn, hsz, hval⟩
    have K : W p l e room_1 s m #[Value.ref b] below meth c s₁.heap [] 0 0 (lw_Z below #[Value.ref b] s) (entryFrame m ([Value.ref b] : List Value).toArray 7) := by
      rw [hh0]
      exact whole_start l hst hbd ⟨B.exec, B.bytes, B.returns, hml, hown, hts, hX, hbl, B.notSynchronized, hgv, (name_of_methodNamed B.named B.method).1, htab⟩
    obtain ⟨t, a1, o, b1, b2, b3⟩ := K s₁ rfl X₀
    exact ⟨t, o, a1, b1, b2, b3⟩
theorem lw_pre_spec {args : Array Value} {s : State} (h : (Jvm.Cond.and given_1 narrow_1).before args s = true) (hr : rest_1_c.before args s = true) : ∃ (b : Addr) (xs : List Int32), lw_P b xs args s := by
  have hs := flat_of_before _ h
  have hq := flat_of_before _ hr
  have hc : (Cond.count 1).before args s = true := hs _ (by decide +kernel)
  have harr : (Cond.arrayOf (.arg 0) .int).before args s = true := hs _ (by decide +kernel)
  have hle : (Cond.le (.length (.arg 0)) (.int 2048)).before args s = true := hs _ (by decide +kernel)
  have hlen : (Cond.isInt (.length (.arg 0))).before args s = true := hq _ (by decide +kernel)
  have hall : (Cond.all (.arg 0) (.isInt (.elem (.arg 0) (.index 0)))).before args s = true := hq _ (by decide +kernel)
  obtain ⟨b, xs, hb, hx⟩ := State.ints_of_pre rfl harr hlen hall
  have hsm : xs.length < 2 ^ 31 := hx.choose_spec.2.2.2
  have hev : (Term.length (.arg 0)).eval args s none [] s = some (.int xs.length.toInt32) := hx.length_eval hb
  have hv := Cond.le_ints hev (show (Term.int 2048).eval args s none [] s = some (.int 2048) from rfl)
  have hd : xs.length.toInt32 ≤ 2048 := by
    simpa [Cond.before, Cond.holds, hv] using hle
  have hN : xs.length ≤ 2048 := (Int32.ofNat_le_ofNat hsm (by decide)).mp (show Int32.ofNat xs.length ≤ Int32.ofNat 2048 from hd)
  exact ⟨b, xs, Cond.one_arg hc (show args[0]? = some (.ref b) from hb), hx, hN, h⟩
theorem lw_comes (l : Launch) (hst : l.stackTraces = false) : Comes l x (Jvm.Cond.code x code maxLocals ret :: tables_1) room_1 (fun tb e args s => Calls_1 tb e args s ∧ rest_1 tb e args s ∧ Pre_1 tb e args s)
    (fun _ _ args s o t => lw_Q args s o t) := by
  intro p e ha hc hk s m args below hf hfit hheap happ hpre
  obtain ⟨b, xs, hP⟩ := lw_pre_spec hpre.2.2 hpre.2.1
  obtain ⟨k, o, h1, h2, h3, hQ⟩ := lw_walk l hst b xs p e ha hc hk s m args below hf ((Spec.applies_iff_loose hf).mp happ).1 hP trivial
  exact ⟨k, o, h1, h2, h3, hQ⟩
theorem lw_frame {s t : State} {o : Outcome} {args : Array Value} (h : Framed s o t [] 609802 7266699) :
    Framed s o t (fieldLocs frame_1_writes args s ++ arrayLocs frame_1_arrays args s ++ staticLocs frame_1_statics s) 609802 7266699 := h
theorem lw_limb (L : Cond) (hL : ∀ (args : Array Value) (s t : State), L.after args s (.returned (some (.int 1))) t = true) :
    ArmFor flags0 classFile x code maxLocals ret World_1 tables_1 room_1 Calls_1 rest_1 Pre_1
      (fun tb e a s o t => postC L tb e a s o t ∧ Framed s o t (fieldLocs frame_1_writes a s ++ arrayLocs frame_1_arrays a s ++ staticLocs frame_1_statics s) 609802 7266699) := by
  intro l hfl _ _ p e ha hc hk s m args below hf hfit hheap happ hpre
  have hst : l.stackTraces = false := by unfold Launch.stackTraces; rw [hfl]; decide
  obtain ⟨k, o, h1, h2, h3, rfl, hF⟩ := lw_comes l hst p e ha hc hk s m args below hf hfit hheap happ hpre
  exact ⟨k, _, h1, h2, h3, hL args s _, lw_frame hF⟩
theorem i_vc : Claimed_1_1 ∧ Claimed_1_2 := ⟨lw_limb limb_1_1 (fun args s t => by simp [limb_1_1, Cond.after, Cond.holds, Cond.value]), lw_limb limb_1_2 (fun args s t => Cond.after_iff.mpr (by
  first | (rw [show limb_1_2 = Cond.eq .result (.int 1) from rfl, Cond.eq_ints (x := 1) (y := 1) rfl rfl]; simp; done) | (simp [limb_1_2, Cond.value, Term.eval]; done)))⟩
