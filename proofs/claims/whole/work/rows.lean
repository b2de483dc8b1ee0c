section
-- ===== PART A: goes FIRST, ahead of the names: the tables' words, and 'selects' of the private methods out of them =====
/-- a private method of a class that the tables say can be made, by its rows of tables_1 -/
def lw_okq (q : MethodName × Nat) : Prop := (q.1.cls ≠ "java/lang/invoke/MethodHandle" ∧ q.1.cls ≠ "java/lang/invoke/VarHandle") ∧ Cond.instantiable q.1.cls q.2 ∈ tables_1 ∧ Cond.privateMethod q.1 ∈ tables_1 ∧ Cond.instanceMethod q.1 ∈ tables_1
theorem lw_p0 : lw_okq (⟨"java/lang/Throwable", "fillInStackTrace", "(I)Ljava/lang/Throwable;"⟩, 6) := ⟨⟨by decide +kernel, by decide +kernel⟩, List.mem_of_getElem? (i := 247) (by decide +kernel), List.mem_of_getElem? (i := 245) (by decide +kernel), List.mem_of_getElem? (i := 246) (by decide +kernel)⟩
theorem lw_p1 : lw_okq (⟨"RopewayDesk", "letGo", "()V"⟩, 10) := ⟨⟨by decide +kernel, by decide +kernel⟩, List.mem_of_getElem? (i := 14) (by decide +kernel), List.mem_of_getElem? (i := 277) (by decide +kernel), List.mem_of_getElem? (i := 278) (by decide +kernel)⟩
theorem lw_p2 : lw_okq (⟨"RopewayDesk", "moveRope", "(I)I"⟩, 10) := ⟨⟨by decide +kernel, by decide +kernel⟩, List.mem_of_getElem? (i := 14) (by decide +kernel), List.mem_of_getElem? (i := 289) (by decide +kernel), List.mem_of_getElem? (i := 290) (by decide +kernel)⟩
theorem lw_p3 : lw_okq (⟨"RopewayDesk", "lock", "(I)V"⟩, 10) := ⟨⟨by decide +kernel, by decide +kernel⟩, List.mem_of_getElem? (i := 14) (by decide +kernel), List.mem_of_getElem? (i := 300) (by decide +kernel), List.mem_of_getElem? (i := 301) (by decide +kernel)⟩
theorem lw_p4 : lw_okq (⟨"RopewayDesk", "passOneTick", "()V"⟩, 10) := ⟨⟨by decide +kernel, by decide +kernel⟩, List.mem_of_getElem? (i := 14) (by decide +kernel), List.mem_of_getElem? (i := 319) (by decide +kernel), List.mem_of_getElem? (i := 320) (by decide +kernel)⟩
theorem lw_p5 : lw_okq (⟨"RopewayDesk", "workZones", "(LRopewayDesk$Station;)V"⟩, 10) := ⟨⟨by decide +kernel, by decide +kernel⟩, List.mem_of_getElem? (i := 14) (by decide +kernel), List.mem_of_getElem? (i := 323) (by decide +kernel), List.mem_of_getElem? (i := 324) (by decide +kernel)⟩
theorem lw_p6 : lw_okq (⟨"RopewayDesk", "goOnClamping", "(LRopewayDesk$Station;LRopewayDesk$Cabin;)V"⟩, 10) := ⟨⟨by decide +kernel, by decide +kernel⟩, List.mem_of_getElem? (i := 14) (by decide +kernel), List.mem_of_getElem? (i := 336) (by decide +kernel), List.mem_of_getElem? (i := 337) (by decide +kernel)⟩
theorem lw_p7 : lw_okq (⟨"RopewayDesk", "leave", "(LRopewayDesk$Station;LRopewayDesk$Cabin;)V"⟩, 10) := ⟨⟨by decide +kernel, by decide +kernel⟩, List.mem_of_getElem? (i := 14) (by decide +kernel), List.mem_of_getElem? (i := 352) (by decide +kernel), List.mem_of_getElem? (i := 353) (by decide +kernel)⟩
theorem lw_p8 : lw_okq (⟨"RopewayDesk", "fail", "(LRopewayDesk$Station;LRopewayDesk$Cabin;I)V"⟩, 10) := ⟨⟨by decide +kernel, by decide +kernel⟩, List.mem_of_getElem? (i := 14) (by decide +kernel), List.mem_of_getElem? (i := 361) (by decide +kernel), List.mem_of_getElem? (i := 362) (by decide +kernel)⟩
theorem lw_p9 : lw_okq (⟨"RopewayDesk", "mayClamp", "(LRopewayDesk$Station;LRopewayDesk$Cabin;)Z"⟩, 10) := ⟨⟨by decide +kernel, by decide +kernel⟩, List.mem_of_getElem? (i := 14) (by decide +kernel), List.mem_of_getElem? (i := 375) (by decide +kernel), List.mem_of_getElem? (i := 376) (by decide +kernel)⟩
theorem lw_p10 : lw_okq (⟨"RopewayDesk", "spacing", "(LRopewayDesk$Station;)I"⟩, 10) := ⟨⟨by decide +kernel, by decide +kernel⟩, List.mem_of_getElem? (i := 14) (by decide +kernel), List.mem_of_getElem? (i := 379) (by decide +kernel), List.mem_of_getElem? (i := 380) (by decide +kernel)⟩
theorem lw_p11 : lw_okq (⟨"RopewayDesk", "targetSpeed", "()I"⟩, 10) := ⟨⟨by decide +kernel, by decide +kernel⟩, List.mem_of_getElem? (i := 14) (by decide +kernel), List.mem_of_getElem? (i := 395) (by decide +kernel), List.mem_of_getElem? (i := 396) (by decide +kernel)⟩
theorem lw_p12 : lw_okq (⟨"RopewayDesk", "isArrivalHeldUp", "()Z"⟩, 10) := ⟨⟨by decide +kernel, by decide +kernel⟩, List.mem_of_getElem? (i := 14) (by decide +kernel), List.mem_of_getElem? (i := 399) (by decide +kernel), List.mem_of_getElem? (i := 400) (by decide +kernel)⟩
theorem lw_p13 : lw_okq (⟨"RopewayDesk$WindBook", "sortIn", "(II)V"⟩, 5) := ⟨⟨by decide +kernel, by decide +kernel⟩, List.mem_of_getElem? (i := 109) (by decide +kernel), List.mem_of_getElem? (i := 431) (by decide +kernel), List.mem_of_getElem? (i := 432) (by decide +kernel)⟩
theorem lw_p14 : lw_okq (⟨"RopewayDesk", "hasCauseStill", "(I)Z"⟩, 10) := ⟨⟨by decide +kernel, by decide +kernel⟩, List.mem_of_getElem? (i := 14) (by decide +kernel), List.mem_of_getElem? (i := 496) (by decide +kernel), List.mem_of_getElem? (i := 497) (by decide +kernel)⟩
theorem lw_p15 : lw_okq (⟨"RopewayDesk", "spotOf", "(LRopewayDesk$Cabin;)I"⟩, 10) := ⟨⟨by decide +kernel, by decide +kernel⟩, List.mem_of_getElem? (i := 14) (by decide +kernel), List.mem_of_getElem? (i := 507) (by decide +kernel), List.mem_of_getElem? (i := 508) (by decide +kernel)⟩
def lw_privs_1 : List (MethodName × Nat) := [(⟨"java/lang/Throwable", "fillInStackTrace", "(I)Ljava/lang/Throwable;"⟩, 6), (⟨"RopewayDesk", "letGo", "()V"⟩, 10), (⟨"RopewayDesk", "moveRope", "(I)I"⟩, 10), (⟨"RopewayDesk", "lock", "(I)V"⟩, 10), (⟨"RopewayDesk", "passOneTick", "()V"⟩, 10), (⟨"RopewayDesk", "workZones", "(LRopewayDesk$Station;)V"⟩, 10), (⟨"RopewayDesk", "goOnClamping", "(LRopewayDesk$Station;LRopewayDesk$Cabin;)V"⟩, 10), (⟨"RopewayDesk", "leave", "(LRopewayDesk$Station;LRopewayDesk$Cabin;)V"⟩, 10), (⟨"RopewayDesk", "fail", "(LRopewayDesk$Station;LRopewayDesk$Cabin;I)V"⟩, 10), (⟨"RopewayDesk", "mayClamp", "(LRopewayDesk$Station;LRopewayDesk$Cabin;)Z"⟩, 10), (⟨"RopewayDesk", "spacing", "(LRopewayDesk$Station;)I"⟩, 10), (⟨"RopewayDesk", "targetSpeed", "()I"⟩, 10), (⟨"RopewayDesk", "isArrivalHeldUp", "()Z"⟩, 10), (⟨"RopewayDesk$WindBook", "sortIn", "(II)V"⟩, 5), (⟨"RopewayDesk", "hasCauseStill", "(I)Z"⟩, 10), (⟨"RopewayDesk", "spotOf", "(LRopewayDesk$Cabin;)I"⟩, 10)]
theorem lw_r1 : ∀ q ∈ lw_privs_1, lw_okq q := List.forall_mem_cons.mpr ⟨lw_p0, List.forall_mem_cons.mpr ⟨lw_p1, List.forall_mem_cons.mpr ⟨lw_p2, List.forall_mem_cons.mpr ⟨lw_p3, List.forall_mem_cons.mpr ⟨lw_p4, List.forall_mem_cons.mpr ⟨lw_p5, List.forall_mem_cons.mpr ⟨lw_p6, List.forall_mem_cons.mpr ⟨lw_p7, List.forall_mem_cons.mpr ⟨lw_p8, List.forall_mem_cons.mpr ⟨lw_p9, List.forall_mem_cons.mpr ⟨lw_p10, List.forall_mem_cons.mpr ⟨lw_p11, List.forall_mem_cons.mpr ⟨lw_p12, List.forall_mem_cons.mpr ⟨lw_p13, List.forall_mem_cons.mpr ⟨lw_p14, List.forall_mem_cons.mpr ⟨lw_p15, fun _ h => absurd h List.not_mem_nil⟩⟩⟩⟩⟩⟩⟩⟩⟩⟩⟩⟩⟩⟩⟩⟩
theorem lw_p16 : lw_okq (⟨"RopewayDeskModel", "fails", "(Z)Z"⟩, 20) := ⟨⟨by decide +kernel, by decide +kernel⟩, List.mem_of_getElem? (i := 534) (by decide +kernel), List.mem_of_getElem? (i := 612) (by decide +kernel), List.mem_of_getElem? (i := 613) (by decide +kernel)⟩
theorem lw_p17 : lw_okq (⟨"RopewayDeskModel", "letGo", "()V"⟩, 20) := ⟨⟨by decide +kernel, by decide +kernel⟩, List.mem_of_getElem? (i := 534) (by decide +kernel), List.mem_of_getElem? (i := 616) (by decide +kernel), List.mem_of_getElem? (i := 617) (by decide +kernel)⟩
theorem lw_p18 : lw_okq (⟨"RopewayDeskModel", "in", "(II)I"⟩, 20) := ⟨⟨by decide +kernel, by decide +kernel⟩, List.mem_of_getElem? (i := 534) (by decide +kernel), List.mem_of_getElem? (i := 620) (by decide +kernel), List.mem_of_getElem? (i := 621) (by decide +kernel)⟩
theorem lw_p19 : lw_okq (⟨"RopewayDeskModel", "enter", "(III)V"⟩, 20) := ⟨⟨by decide +kernel, by decide +kernel⟩, List.mem_of_getElem? (i := 534) (by decide +kernel), List.mem_of_getElem? (i := 624) (by decide +kernel), List.mem_of_getElem? (i := 625) (by decide +kernel)⟩
theorem lw_p20 : lw_okq (⟨"RopewayDeskModel", "isOver", "()Z"⟩, 20) := ⟨⟨by decide +kernel, by decide +kernel⟩, List.mem_of_getElem? (i := 534) (by decide +kernel), List.mem_of_getElem? (i := 628) (by decide +kernel), List.mem_of_getElem? (i := 629) (by decide +kernel)⟩
theorem lw_p21 : lw_okq (⟨"RopewayDeskModel", "one", "()V"⟩, 20) := ⟨⟨by decide +kernel, by decide +kernel⟩, List.mem_of_getElem? (i := 534) (by decide +kernel), List.mem_of_getElem? (i := 636) (by decide +kernel), List.mem_of_getElem? (i := 637) (by decide +kernel)⟩
theorem lw_p22 : lw_okq (⟨"RopewayDeskModel", "middle", "()I"⟩, 20) := ⟨⟨by decide +kernel, by decide +kernel⟩, List.mem_of_getElem? (i := 534) (by decide +kernel), List.mem_of_getElem? (i := 640) (by decide +kernel), List.mem_of_getElem? (i := 641) (by decide +kernel)⟩
theorem lw_p23 : lw_okq (⟨"RopewayDeskModel", "work", "(II)V"⟩, 20) := ⟨⟨by decide +kernel, by decide +kernel⟩, List.mem_of_getElem? (i := 534) (by decide +kernel), List.mem_of_getElem? (i := 644) (by decide +kernel), List.mem_of_getElem? (i := 645) (by decide +kernel)⟩
theorem lw_p24 : lw_okq (⟨"RopewayDeskModel", "clamp", "(I)V"⟩, 20) := ⟨⟨by decide +kernel, by decide +kernel⟩, List.mem_of_getElem? (i := 534) (by decide +kernel), List.mem_of_getElem? (i := 648) (by decide +kernel), List.mem_of_getElem? (i := 649) (by decide +kernel)⟩
theorem lw_p25 : lw_okq (⟨"RopewayDeskModel", "toSiding", "(I)V"⟩, 20) := ⟨⟨by decide +kernel, by decide +kernel⟩, List.mem_of_getElem? (i := 534) (by decide +kernel), List.mem_of_getElem? (i := 652) (by decide +kernel), List.mem_of_getElem? (i := 653) (by decide +kernel)⟩
theorem lw_p26 : lw_okq (⟨"RopewayDeskModel", "isTooNear", "(I)Z"⟩, 20) := ⟨⟨by decide +kernel, by decide +kernel⟩, List.mem_of_getElem? (i := 534) (by decide +kernel), List.mem_of_getElem? (i := 656) (by decide +kernel), List.mem_of_getElem? (i := 657) (by decide +kernel)⟩
theorem lw_p27 : lw_okq (⟨"RopewayDeskModel", "inZones", "(I)I"⟩, 20) := ⟨⟨by decide +kernel, by decide +kernel⟩, List.mem_of_getElem? (i := 534) (by decide +kernel), List.mem_of_getElem? (i := 660) (by decide +kernel), List.mem_of_getElem? (i := 661) (by decide +kernel)⟩
theorem lw_p28 : lw_okq (⟨"RopewayDeskModel", "isWaiting", "()Z"⟩, 20) := ⟨⟨by decide +kernel, by decide +kernel⟩, List.mem_of_getElem? (i := 534) (by decide +kernel), List.mem_of_getElem? (i := 664) (by decide +kernel), List.mem_of_getElem? (i := 665) (by decide +kernel)⟩
theorem lw_p29 : lw_okq (⟨"RopewayDeskModel", "many", "(I)I"⟩, 20) := ⟨⟨by decide +kernel, by decide +kernel⟩, List.mem_of_getElem? (i := 534) (by decide +kernel), List.mem_of_getElem? (i := 694) (by decide +kernel), List.mem_of_getElem? (i := 695) (by decide +kernel)⟩
theorem lw_p30 : lw_okq (⟨"RopewayDeskModel", "unside", "(I)V"⟩, 20) := ⟨⟨by decide +kernel, by decide +kernel⟩, List.mem_of_getElem? (i := 534) (by decide +kernel), List.mem_of_getElem? (i := 698) (by decide +kernel), List.mem_of_getElem? (i := 699) (by decide +kernel)⟩
theorem lw_p31 : lw_okq (⟨"RopewayDeskModel", "placeOf", "(I)I"⟩, 20) := ⟨⟨by decide +kernel, by decide +kernel⟩, List.mem_of_getElem? (i := 534) (by decide +kernel), List.mem_of_getElem? (i := 722) (by decide +kernel), List.mem_of_getElem? (i := 723) (by decide +kernel)⟩
def lw_privs_2 : List (MethodName × Nat) := [(⟨"RopewayDeskModel", "fails", "(Z)Z"⟩, 20), (⟨"RopewayDeskModel", "letGo", "()V"⟩, 20), (⟨"RopewayDeskModel", "in", "(II)I"⟩, 20), (⟨"RopewayDeskModel", "enter", "(III)V"⟩, 20), (⟨"RopewayDeskModel", "isOver", "()Z"⟩, 20), (⟨"RopewayDeskModel", "one", "()V"⟩, 20), (⟨"RopewayDeskModel", "middle", "()I"⟩, 20), (⟨"RopewayDeskModel", "work", "(II)V"⟩, 20), (⟨"RopewayDeskModel", "clamp", "(I)V"⟩, 20), (⟨"RopewayDeskModel", "toSiding", "(I)V"⟩, 20), (⟨"RopewayDeskModel", "isTooNear", "(I)Z"⟩, 20), (⟨"RopewayDeskModel", "inZones", "(I)I"⟩, 20), (⟨"RopewayDeskModel", "isWaiting", "()Z"⟩, 20), (⟨"RopewayDeskModel", "many", "(I)I"⟩, 20), (⟨"RopewayDeskModel", "unside", "(I)V"⟩, 20), (⟨"RopewayDeskModel", "placeOf", "(I)I"⟩, 20)]
theorem lw_r2 : ∀ q ∈ lw_privs_2, lw_okq q := List.forall_mem_cons.mpr ⟨lw_p16, List.forall_mem_cons.mpr ⟨lw_p17, List.forall_mem_cons.mpr ⟨lw_p18, List.forall_mem_cons.mpr ⟨lw_p19, List.forall_mem_cons.mpr ⟨lw_p20, List.forall_mem_cons.mpr ⟨lw_p21, List.forall_mem_cons.mpr ⟨lw_p22, List.forall_mem_cons.mpr ⟨lw_p23, List.forall_mem_cons.mpr ⟨lw_p24, List.forall_mem_cons.mpr ⟨lw_p25, List.forall_mem_cons.mpr ⟨lw_p26, List.forall_mem_cons.mpr ⟨lw_p27, List.forall_mem_cons.mpr ⟨lw_p28, List.forall_mem_cons.mpr ⟨lw_p29, List.forall_mem_cons.mpr ⟨lw_p30, List.forall_mem_cons.mpr ⟨lw_p31, fun _ h => absurd h List.not_mem_nil⟩⟩⟩⟩⟩⟩⟩⟩⟩⟩⟩⟩⟩⟩⟩⟩
theorem lw_p32 : lw_okq (⟨"RopewayDeskModel", "hasOpenDoors", "(I)Z"⟩, 20) := ⟨⟨by decide +kernel, by decide +kernel⟩, List.mem_of_getElem? (i := 534) (by decide +kernel), List.mem_of_getElem? (i := 726) (by decide +kernel), List.mem_of_getElem? (i := 727) (by decide +kernel)⟩
theorem lw_p33 : lw_okq (⟨"RopewayDeskModel", "all", "()I"⟩, 20) := ⟨⟨by decide +kernel, by decide +kernel⟩, List.mem_of_getElem? (i := 534) (by decide +kernel), List.mem_of_getElem? (i := 742) (by decide +kernel), List.mem_of_getElem? (i := 743) (by decide +kernel)⟩
def lw_privs_3 : List (MethodName × Nat) := [(⟨"RopewayDeskModel", "hasOpenDoors", "(I)Z"⟩, 20), (⟨"RopewayDeskModel", "all", "()I"⟩, 20)]
theorem lw_r3 : ∀ q ∈ lw_privs_3, lw_okq q := List.forall_mem_cons.mpr ⟨lw_p32, List.forall_mem_cons.mpr ⟨lw_p33, fun _ h => absurd h List.not_mem_nil⟩⟩
def lw_privs : List (MethodName × Nat) := lw_privs_1 ++ (lw_privs_2 ++ (lw_privs_3))
def lw_tbl : List Cond := k2_sels lw_privs ++ tables_1
theorem lw_privs_ok : ∀ q ∈ lw_privs, lw_okq q := by
  show ∀ q ∈ lw_privs_1 ++ (lw_privs_2 ++ (lw_privs_3)), lw_okq q
  exact List.forall_mem_append.mpr ⟨lw_r1, List.forall_mem_append.mpr ⟨lw_r2, lw_r3⟩⟩
end
section
/-! ===== BEGIN words of one list among another's, by their places ===== -/
theorem goodIn_r {big : List Cond} (ws : List Cond) (ps : List Nat) (hp : ws = ps.filterMap (fun i => big[i]?)) (h : ws.all goodWord = true) : GoodIn big ws := by
  intro w hw
  have h1 := List.all_eq_true.mp h w hw
  rw [hp] at hw
  obtain ⟨i, -, hi⟩ := List.mem_filterMap.mp hw
  have hm : w ∈ big := by first | exact List.mem_of_getElem? hi | exact List.getElem?_mem hi
  exact ⟨hm, good_of_word h1⟩
theorem goodIn_app {big a b : List Cond} (ha : GoodIn big a) (hb : GoodIn big b) : GoodIn big (a ++ b) := fun w h => (List.mem_append.mp h).elim (ha w) (hb w)
theorem goodIn_ca {big a b : List Cond} {c : Cond} (ha : GoodIn big (c :: a)) (hb : GoodIn big b) : GoodIn big (c :: (a ++ b)) := fun w h => (List.mem_cons.mp h).elim (fun e => ha w (List.mem_cons.mpr (Or.inl e))) (fun h => (List.mem_append.mp h).elim (fun h => ha w (List.mem_cons.mpr (Or.inr h))) (hb w))
theorem goodIn_sub {big ws : List Cond} (hm : ∀ w ∈ ws, w ∈ big) (h : ws.all goodWord = true) : GoodIn big ws := fun w hw => ⟨hm w hw, good_of_word (List.all_eq_true.mp h w hw)⟩
/-! ===== END ===== -/

/-! ===== BEGIN exceptions that leave a method, and their catching by the caller (launches without stack traces) ===== -/
section VXA
/-! The laws vx_back, vx_callV, vx_callS, vx_callSW, vx_throw0, vx_throwS follow proofs of the library, with one case more: JvmDerived/Free/Laws.lean (Back.of_free), Shelf42/LK1.lean (callV, callS), Shelf/KitTraced.lean (throwNew0V, throwNewS). -/
/-- where a method has thrown q: the class by its name, the cell, what was written, the world -/
def vx_T (XC : String → State → State → Prop) (st : State) (q : Addr) (t : State) (mc ms : Nat) (free : Addr → Prop) : Prop :=
  ∃ (E : String) (ce : Cell) (L : List Loc), XC E st t ∧ t.heap[q]? = some ce ∧ ce.vm = .none ∧ st.vm.findClass E = some ce.cls ∧ st.WarmedH t.vm ∧ st.sameButNew ({ t with vm := st.vm } : State) L mc ms ∧ ∀ z ∈ L, free z.base
def vx_Q (Qc : Array Value → State → Outcome → State → Prop) (XC : String → State → State → Prop) (mc ms : Nat) (free : Addr → Prop) : Array Value → State → Outcome → State → Prop := fun a st o t =>
  (Qc a st o t ∧ ∃ L, FrameEnd st o t L mc ms ∧ ∀ q ∈ L, free q.base) ∨ ∃ q, o = .threw q ∧ vx_T XC st q t mc ms free
/-- a callee that returns or throws -/
def vx_Met (l : Launch) (y : MethodName) (ws : List Cond) (rm : Room) (Pc : Array Value → State → Prop) (Qc : Array Value → State → Outcome → State → Prop) (XC : String → State → State → Prop) (mc ms : Nat) (free : Addr → Prop) : Prop :=
  MetFree l y (headSpec ws rm) Pc (fun _ _ _ _ _ => True) (vx_Q Qc XC mc ms free)
def vx_Post (XC : String → State → State → Prop) (mc ms : Nat) (free : Addr → Prop) : Pt → Array Value → Addr → Pt → Prop := fun A a q B =>
  ∃ (g : JFrame) (mk : MethodId) (t : State) (L : List Loc) (E : String) (ce : Cell), B.U.heap = t.heap ∧ B.U.vm = t.vm ∧ XC E (A.U.calling g mk a) t ∧ t.heap[q]? = some ce ∧ ce.vm = .none ∧ A.U.vm.findClass E = some ce.cls ∧ B.locs = A.locs ++ L ∧ (∀ z ∈ L, free z.base) ∧ B.cells = A.cells + mc ∧ B.slots = A.slots + ms
def vx_Back (l : Launch) (R : Room) (p : Program) (e : Env) (below : List Frame) (s : State) (sargs : Array Value) (y : MethodName) (len W9 : Nat)
    (Pre : Pt → Array Value → Prop) (Post : Pt → Array Value → Option Value → Pt → Prop) (PostX : Pt → Array Value → Addr → Pt → Prop) : Prop :=
  ∀ (m : MethodId) (meth : Method) (c : Code) (A : Pt) (g : JFrame) (ig : Instr) (mk : MethodId) (a : Array Value),
    Stand p l e R s m sargs below meth c A.U A.locs A.cells A.slots → g.method = m → g.locals.size = c.maxLocals → decode c.code g.pc = .ok (ig, len) →
    2 * g.monitorRoom + (g.stack.map fun v => v.category).sum ≤ W9 → A.U.methodNamed? y = some mk → Pre A a →
    (∃ (v : Option Value) (B : Pt), Stand p l e R s m sargs below meth c B.U B.locs B.cells B.slots ∧ Post A a v B ∧
      Steps p.tables e below (doInvoke e (A.U.setTop g) [] mk a).1 (B.U.setTop { g with pc := g.pc + len, stack := v.toList ++ g.stack })) ∨
    (∃ (q : Addr) (B : Pt), Stand p l e R s m sargs below meth c B.U B.locs B.cells B.slots ∧ PostX A a q B ∧
      Steps p.tables e below (doInvoke e (A.U.setTop g) [] mk a).1 ((B.U.setTop g).pushFrame (.throwing q)))
section Payer
variable {l : Launch} {R : Room} {p : Program} {e : Env} {below : List Frame} {s : State} {sargs : Array Value} {y : MethodName} {len W9 : Nat}
theorem vx_back {ws : List Cond} {rm : Room} {Pc : Array Value → State → Prop} {Qc : Array Value → State → Outcome → State → Prop} {XC : String → State → State → Prop} {mc ms : Nat} {free : Addr → Prop} {bytes : ByteArray} {maxL : Nat} {ret : Option FieldType}
    (hM : vx_Met l y ws rm Pc Qc XC mc ms free) (hblind : FrameBlind Pc) (hrc : rm.cells = mc) (hrs : rm.slots = ms)
    (hframes : rm.frames + 1 ≤ R.frames) (hlocals : W9 + (maxL + 11) + rm.locals ≤ R.locals)
    (hws : ∀ w ∈ ws, ∀ a' U, s.WarmedH U.vm → w.before a' U = true) (hcode : Cond.code y bytes maxL ret ∈ ws) (hinit : ∀ a' U, s.WarmedH U.vm → (Cond.initialized y.cls).before a' U = true) :
    vx_Back l R p e below s sargs y len W9 (PreOf R mc ms Pc) (PostOf Qc mc ms free) (vx_Post XC mc ms free) := by
  intro m meth c A g ig mk a X hg hsize hdg hW hn hp
  have h1 : (headSpec ws rm).pre.before a A.U = true := atoms_intro fun w hw => hws w hw _ _ X.warmed
  have h2 : (Cond.code y bytes maxL ret).before a A.U = true := hws _ hcode _ _ X.warmed
  have h3 : (Cond.initialized y.cls).before a A.U = true := hinit _ _ X.warmed
  have h4 : A.cells + (headSpec ws rm).room.cells ≤ R.cells := by rw [show (headSpec ws rm).room.cells = mc from hrc]; exact hp.1
  have h5 : A.slots + (headSpec ws rm).room.slots ≤ R.slots := by rw [show (headSpec ws rm).room.slots = ms from hrs]; exact hp.2.1
  have hPc : Pc a (A.U.calling g mk a) := hblind _ _ _ _ hp.2.2
  obtain ⟨U, Ls, c0, s0⟩ := A
  dsimp only [Pt.U, Pt.locs, Pt.cells, Pt.slots] at h1 h2 h3 h4 h5 X hn hPc ⊢
  obtain ⟨methY, cY, hmY, hcY, -, hlY, -, -, -, -⟩ := Cond.code_spec hn h2
  obtain ⟨kY, hkY, -⟩ := className_of_methodNamed hn
  have hinitY : kY.init = .initialized := Cond.initialized_spec (findClass_of_methodNamed hn) hkY h3
  have h : At U g.method c below := by rw [hg]; exact X.here
  have hlocals9 : W9 + (maxL + 11) + (headSpec ws rm).room.locals ≤ R.locals := hlocals
  have happ : (headSpec ws rm).appliesLoose y e.platform (U.calling g mk a) = true :=
    Spec.appliesLoose_calling (g := g) h hdg hn hkY hinitY
      (X.room_calling (g := g) (R' := (headSpec ws rm).room) hsize hmY hcY hframes (by rw [hlY]; omega) h4 h5) h1
  obtain ⟨mid, hmid⟩ := h.above
  have hfr : (U.setTop g).frames = (.java g :: mid) ++ below := by rw [State.frames_setTop' g h.top, hmid]; rfl
  obtain ⟨o, s₂, hsteps, -, hend, hq⟩ := Steps.callFree hM p X.admits X.cas X.clock (acts := []) hfr happ hPc trivial
  have hq' : vx_Q Qc XC mc ms free a (U.calling g mk a) o s₂ := hq
  rw [State.frames_setTop' g h.top] at hend
  obtain ⟨g₀, hg0⟩ := Option.isSome_iff_exists.mp h.top
  obtain ⟨r, hr⟩ := State.topJava?_eq_some.mp hg0
  have hr' : (({ U with heap := s₂.heap, slotsUsed := s₂.slotsUsed } : State).setVm s₂.vm).frames = .java g₀ :: r := hr
  rcases hq' with ⟨hqc, L, hfe, hL⟩ | ⟨q, rfl, E, ce, L, hx, hce, hcv, hcl, hW₂, hsm, hL⟩
  · obtain ⟨⟨v, rfl⟩, hW₂, e2, q2, q3, q4, q5, q6⟩ := id hfe
    have e3 : s₂ = ({ (U.calling g mk a).setFrames s₂.frames with heap := s₂.heap, slotsUsed := s₂.slotsUsed } : State).setVm s₂.vm := by
      have : s₂ = ({ s₂ with vm := (U.calling g mk a).vm } : State).setVm s₂.vm := rfl
      rw [e2] at this
      exact this
    obtain ⟨c₂, i₂, len₂, hc₂, hd₂, hf₂⟩ := hend
    have hW' : U.WarmedH s₂.vm := hW₂
    have hcc : c₂ = c := by
      have h1 : s₂.code? g.method = U.code? g.method := by
        rw [State.code?_eq, State.code?_eq, hW'.alike.method?]
      exact Option.some.inj (hc₂.symm.trans (h1.trans h.code))
    subst hcc
    have hlen : len₂ = len := by rw [hdg] at hd₂; cases hd₂; rfl
    subst hlen
    have hs₂ : s₂ = (({ U with heap := s₂.heap, slotsUsed := s₂.slotsUsed } : State).setVm s₂.vm).setTop { g with pc := g.pc + len₂, stack := v.toList ++ g.stack } := by
      refine e3.trans ?_
      rw [hf₂, State.calling_eq h.top, State.setFrames_setFrames, State.setTop_of_frames _ hr', hr]
      rfl
    have hsame : U.sameButNew ({ U with heap := s₂.heap, slotsUsed := s₂.slotsUsed } : State) L mc ms := by
      refine ⟨?_, q2, q3, q4, q5, q6⟩
      obtain ⟨t, ht, -⟩ := State.frames_cons hr
      show ({ U with heap := s₂.heap, slotsUsed := s₂.slotsUsed } : State) = { U.setFrames U.frames with heap := s₂.heap, slotsUsed := s₂.slotsUsed }
      rw [State.setFrames_self ht]
    subst hg
    refine Or.inl ⟨v, ⟨(({ U with heap := s₂.heap, slotsUsed := s₂.slotsUsed } : State).setVm s₂.vm), Ls ++ L, c0 + mc, s0 + ms⟩,
      ⟨X.admits, X.cas, X.clock, X.frames, X.room, X.hears, X.method, X.code, (X.here.setHeapUsed s₂.heap s₂.slotsUsed).setVm hW'.alike, X.tail, State.WarmedH.trans X.warmed hW', X.limits, X.bytes, X.same.trans (hsame.setVm s.vm)⟩,
      ⟨g, mk, s₂, L, rfl, rfl, hqc, rfl, hL, rfl, rfl⟩, ?_⟩
    show Steps p.tables e below _ ((({ U with heap := s₂.heap, slotsUsed := s₂.slotsUsed } : State).setVm s₂.vm).setTop { g with pc := g.pc + len₂, stack := v.toList ++ g.stack })
    rw [← hs₂]
    exact hsteps
  · obtain ⟨e2, q2, q3, q4, q5, q6⟩ := id hsm
    have e3 : s₂ = ({ (U.calling g mk a).setFrames s₂.frames with heap := s₂.heap, slotsUsed := s₂.slotsUsed } : State).setVm s₂.vm := by
      have : s₂ = ({ s₂ with vm := (U.calling g mk a).vm } : State).setVm s₂.vm := rfl
      rw [e2] at this
      exact this
    have hf₂ : s₂.frames = .throwing q :: .java g :: U.frames.tail := hend
    have hW' : U.WarmedH s₂.vm := hW₂
    have hs₂ : s₂ = ((({ U with heap := s₂.heap, slotsUsed := s₂.slotsUsed } : State).setVm s₂.vm).setTop g).pushFrame (.throwing q) := by
      refine e3.trans ?_
      rw [hf₂, State.calling_eq h.top, State.setFrames_setFrames, State.pushFrame, State.frames_setTop _ hr', State.setTop_of_frames _ hr', State.setFrames_setFrames, hr]
      rfl
    have hsame : U.sameButNew ({ U with heap := s₂.heap, slotsUsed := s₂.slotsUsed } : State) L mc ms := by
      refine ⟨?_, q2, q3, q4, q5, q6⟩
      obtain ⟨t, ht, -⟩ := State.frames_cons hr
      show ({ U with heap := s₂.heap, slotsUsed := s₂.slotsUsed } : State) = { U.setFrames U.frames with heap := s₂.heap, slotsUsed := s₂.slotsUsed }
      rw [State.setFrames_self ht]
    subst hg
    refine Or.inr ⟨q, ⟨(({ U with heap := s₂.heap, slotsUsed := s₂.slotsUsed } : State).setVm s₂.vm), Ls ++ L, c0 + mc, s0 + ms⟩,
      ⟨X.admits, X.cas, X.clock, X.frames, X.room, X.hears, X.method, X.code, (X.here.setHeapUsed s₂.heap s₂.slotsUsed).setVm hW'.alike, X.tail, State.WarmedH.trans X.warmed hW', X.limits, X.bytes, X.same.trans (hsame.setVm s.vm)⟩,
      ⟨g, mk, s₂, L, E, ce, rfl, rfl, hx, hce, hcv, hcl, rfl, hL, rfl, rfl⟩, ?_⟩
    show Steps p.tables e below _ (((({ U with heap := s₂.heap, slotsUsed := s₂.slotsUsed } : State).setVm s₂.vm).setTop g).pushFrame (.throwing q))
    rw [← hs₂]
    exact hsteps
end Payer
section Calls
variable {p : Program} {l : Launch} {e : Env} {R : Room} {s : State} {m : MethodId} {args : Array Value} {below : List Frame} {meth : Method} {c : Code} {T : State} {locs : List Loc} {cells slots : Nat}
theorem vx_callV (X : Stand p l e R s m args below meth c T locs cells slots) (hexec : p.tables.exec = Jvm.exec) {own C : String} {index : Nat} {y : MethodName} {bytes : ByteArray} {maxL : Nat} {ret : Option FieldType}
    (hown : s.vm.findClass own = some m.cls) (hlink : (Cond.methodLink own index y).before args s = true) (hinst : (Cond.instanceMethod y).before args s = true) (hsel : (Cond.selects C y y).before args s = true)
    (hcode : (Cond.code y bytes maxL ret).before args s = true) (hy : y.cls ≠ "java/lang/invoke/MethodHandle" ∧ y.cls ≠ "java/lang/invoke/VarHandle")
    {W9 : Nat} {Pre : Pt → Array Value → Prop} {Post : Pt → Array Value → Option Value → Pt → Prop} {PostX : Pt → Array Value → Addr → Pt → Prop} (hK : vx_Back l R p e below s args y 3 W9 Pre Post PostX)
    {b : Addr} {cellB : Cell} (hcell : T.heap[b]? = some cellB) (hobj : cellB.vm.isStatics = false) (hcls : s.vm.findClass C = some cellB.cls)
    {g : JFrame} (hg : g.method = m) (hsize : g.locals.size = c.maxLocals) {argsL rest : List Value} (hlen : ∀ sig, parseMethodDescriptor y.desc = some sig → argsL.length = sig.parameters.length)
    (hstack : g.stack = argsL.reverse ++ .ref b :: rest) (hW : 2 * g.monitorRoom + (rest.map fun v => v.category).sum ≤ W9) (hdg : decode c.code g.pc = .ok (.invokevirtual index, 3))
    (hpre : ∀ vm₁, s.WarmedH vm₁ → Pre ⟨T.setVm vm₁, locs, cells, slots⟩ (Value.ref b :: argsL).toArray) :
    (∃ (v : Option Value) (vm₁ : Vm) (B : Pt), s.WarmedH vm₁ ∧ Stand p l e R s m args below meth c B.U B.locs B.cells B.slots ∧ Post ⟨T.setVm vm₁, locs, cells, slots⟩ (Value.ref b :: argsL).toArray v B ∧
      ∀ target, Steps p.tables e below (B.U.setTop { g with pc := g.pc + 3, stack := v.toList ++ rest }) target → Steps p.tables e below (T.setTop g) target) ∨
    (∃ (q : Addr) (vm₁ : Vm) (B : Pt), s.WarmedH vm₁ ∧ Stand p l e R s m args below meth c B.U B.locs B.cells B.slots ∧ PostX ⟨T.setVm vm₁, locs, cells, slots⟩ (Value.ref b :: argsL).toArray q B ∧
      Steps p.tables e below (T.setTop g) ((B.U.setTop { g with stack := rest }).pushFrame (.throwing q))) := by
  obtain ⟨mk, methM, hnamed, hmethM, hstM, habM⟩ := Cond.instanceMethod_spec hinst
  obtain ⟨methM', cM, hmethM', -, -, -, -, -, -, hsigM⟩ := Cond.code_spec hnamed hcode
  cases hmethM.symm.trans hmethM'
  obtain ⟨c2, r2, m2, q1, q2, q3, q4, kP, hkP, hkPi⟩ := Cond.selects_spec hsel
  cases hcls.symm.trans q1
  cases (State.methodFound?_of_named hnamed hy).symm.trans q2
  cases hnamed.symm.trans q3
  have hselP : selectMethod e.platform s.vm cellB.cls mk = .method mk := by rw [Launch.admits_selectMethod X.admits]; exact q4
  obtain ⟨vm₁, X₁, hstep₁⟩ := X.invokevirtual hexec hown hlink hnamed hmethM hstM hkP hkPi hy (a := b) (cell := cellB) hcell
    (fun z h => by rw [h] at hobj; cases hobj) hselP hmethM habM hkP hkPi (g := g) hg (argsL := argsL) (rest := rest) (hlen _ hsigM) hstack hdg
  rcases hK m meth c ⟨T.setVm vm₁, locs, cells, slots⟩ { g with stack := rest } (.invokevirtual index) mk (Value.ref b :: argsL).toArray X₁ hg hsize hdg hW (X₁.named hnamed) (hpre vm₁ X₁.warmed) with ⟨v, B, X', hpost, hsteps⟩ | ⟨q, B, X', hpost, hsteps⟩
  · exact Or.inl ⟨v, vm₁, B, X₁.warmed, X', hpost, fun target h => hstep₁ _ fun acts => by rw [doInvoke_state]; exact hsteps.trans h⟩
  · exact Or.inr ⟨q, vm₁, B, X₁.warmed, X', hpost, hstep₁ _ fun acts => by rw [doInvoke_state]; exact hsteps⟩
theorem vx_callS (X : Stand p l e R s m args below meth c T locs cells slots) (hexec : p.tables.exec = Jvm.exec) {own : String} {index : Nat} {y : MethodName} {bytes : ByteArray} {maxL : Nat} {ret : Option FieldType}
    (hown : s.vm.findClass own = some m.cls) (hlink : (Cond.methodLink own index y).before args s = true) (hstat : (Cond.static y).before args s = true) (hinit : (Cond.initialized y.cls).before args s = true)
    (hcode : (Cond.code y bytes maxL ret).before args s = true) (hy : y.cls ≠ "java/lang/invoke/MethodHandle" ∧ y.cls ≠ "java/lang/invoke/VarHandle")
    {W9 : Nat} {Pre : Pt → Array Value → Prop} {Post : Pt → Array Value → Option Value → Pt → Prop} {PostX : Pt → Array Value → Addr → Pt → Prop} (hK : vx_Back l R p e below s args y 3 W9 Pre Post PostX)
    {g : JFrame} (hg : g.method = m) (hsize : g.locals.size = c.maxLocals) {argsL rest : List Value} (hlen : ∀ sig, parseMethodDescriptor y.desc = some sig → argsL.length = sig.parameters.length)
    (hstack : g.stack = argsL.reverse ++ rest) (hW : 2 * g.monitorRoom + (rest.map fun v => v.category).sum ≤ W9) (hdg : decode c.code g.pc = .ok (.invokestatic index, 3))
    (hpre : ∀ vm₁, s.WarmedH vm₁ → Pre ⟨T.setVm vm₁, locs, cells, slots⟩ argsL.toArray) :
    (∃ (v : Option Value) (vm₁ : Vm) (B : Pt), s.WarmedH vm₁ ∧ Stand p l e R s m args below meth c B.U B.locs B.cells B.slots ∧ Post ⟨T.setVm vm₁, locs, cells, slots⟩ argsL.toArray v B ∧
      ∀ target, Steps p.tables e below (B.U.setTop { g with pc := g.pc + 3, stack := v.toList ++ rest }) target → Steps p.tables e below (T.setTop g) target) ∨
    (∃ (q : Addr) (vm₁ : Vm) (B : Pt), s.WarmedH vm₁ ∧ Stand p l e R s m args below meth c B.U B.locs B.cells B.slots ∧ PostX ⟨T.setVm vm₁, locs, cells, slots⟩ argsL.toArray q B ∧
      Steps p.tables e below (T.setTop g) ((B.U.setTop { g with stack := rest }).pushFrame (.throwing q))) := by
  obtain ⟨mk, hnamed⟩ := Cond.code_named hcode
  obtain ⟨methM, cM, hmethM, -, -, -, -, -, -, hsigM⟩ := Cond.code_spec hnamed hcode
  have hstatic : methM.isStatic = true := Cond.static_spec hnamed hmethM hstat
  obtain ⟨kP, hkP, -⟩ := className_of_methodNamed hnamed
  have hinitP : kP.init = .initialized := Cond.initialized_spec (findClass_of_methodNamed hnamed) hkP hinit
  obtain ⟨vm₁, X₁, hstep₁⟩ := X.invokestatic hexec hown hlink hnamed hmethM hstatic hkP hinitP hy (g := g) hg (argsL := argsL) (rest := rest) (hlen _ hsigM) hstack hdg
  rcases hK m meth c ⟨T.setVm vm₁, locs, cells, slots⟩ { g with stack := rest } (.invokestatic index) mk argsL.toArray X₁ hg hsize hdg hW (X₁.named hnamed) (hpre vm₁ X₁.warmed) with ⟨v, B, X', hpost, hsteps⟩ | ⟨q, B, X', hpost, hsteps⟩
  · exact Or.inl ⟨v, vm₁, B, X₁.warmed, X', hpost, fun target h => hstep₁ _ fun acts => by rw [doInvoke_state]; exact hsteps.trans h⟩
  · exact Or.inr ⟨q, vm₁, B, X₁.warmed, X', hpost, hstep₁ _ fun acts => by rw [doInvoke_state]; exact hsteps⟩
end Calls
theorem vx_cls {s : State} {T : State} {vm₁ : Vm} {E : String} {k : ClassId} (hW : s.WarmedH vm₁) (h : (T.setVm vm₁).vm.findClass E = some k) : s.vm.findClass E = some k := by
  have h1 : vm₁.findClass E = some k := h
  rw [hW.alike.findClass] at h1
  exact h1
/-- the method's frame g, with q thrown over it -/
def vx_W (p : Program) (l : Launch) (e : Env) (R : Room) (s : State) (m : MethodId) (args : Array Value) (below : List Frame) (meth : Method) (c : Code) (H : Heap) (locs : List Loc) (cells slots : Nat) (Q : State → Prop) (g : JFrame) (q : Addr) : Prop :=
  ∀ T : State, T.heap = H → Stand p l e R s m args below meth c T locs cells slots → ∃ t, Steps p.tables e below ((T.setTop g).pushFrame (.throwing q)) t ∧ Q t
def vx_Run (p : Program) (l : Launch) (e : Env) (R : Room) (s : State) (m : MethodId) (args : Array Value) (below : List Frame) (meth : Method) (c : Code) (H : Heap) (locs : List Loc) (cells slots mc ms : Nat) (g : JFrame) (rest : List Value) (Qa : State → Outcome → State → Prop) (XC : String → State → State → Prop) (free : Addr → Prop) : Prop :=
  ∀ T : State, T.heap = H → Stand p l e R s m args below meth c T locs cells slots →
    (∃ (v : Option Value) (st₀ t T' : State) (L : List Loc), st₀.heap = H ∧ Stand p l e R s m args below meth c T' (locs ++ L) (cells + mc) (slots + ms) ∧ (∀ q ∈ L, free q.base) ∧ T'.heap = t.heap ∧ T'.vm = t.vm ∧ Qa st₀ (.returned v) t ∧
      Goes p e below T g T' { g with pc := g.pc + 3, stack := v.toList ++ rest }) ∨
    (∃ (q : Addr) (st₀ t T' : State) (L : List Loc) (E : String) (ce : Cell), st₀.heap = H ∧ Stand p l e R s m args below meth c T' (locs ++ L) (cells + mc) (slots + ms) ∧ (∀ z ∈ L, free z.base) ∧ T'.heap = t.heap ∧ T'.vm = t.vm ∧ XC E st₀ t ∧ t.heap[q]? = some ce ∧ ce.vm = .none ∧ s.vm.findClass E = some ce.cls ∧
      Steps p.tables e below (T.setTop g) ((T'.setTop { g with stack := rest }).pushFrame (.throwing q)))
def vx_X {S : Type} (px : S → Prop) (B : String → S → State → Prop) (A : Nat → Prop) : String → State → State → Prop := fun E st t => ∃ u : S, px u ∧ B E u t ∧ va_F A st t
section Runs
variable {p : Program} {l : Launch} {e : Env} {R : Room} {s : State} {m : MethodId} {args : Array Value} {below : List Frame} {meth : Method} {c : Code} {H : Heap} {locs : List Loc} {cells slots : Nat}
variable {y : MethodName} {bytes cc : ByteArray} {maxL nL mc ms n index : Nat} {ret : Option FieldType} {ws : List Cond} {rm : Room} {Pc : Array Value → State → Prop} {Qc : Array Value → State → Outcome → State → Prop} {XC : String → State → State → Prop} {free : Addr → Prop} {Ts : List Cond} {own C : String} {b : Addr} {As rest : List Value} {g : JFrame}
theorem vx_callBack (cb : CallB R s args own index y bytes maxL ret ws rm mc ms n) (hM : vx_Met l y ws rm Pc Qc XC mc ms free) (hbl : FrameBlind Pc) : vx_Back l R p e below s args y 3 8 (PreOf R mc ms Pc) (PostOf Qc mc ms free) (vx_Post XC mc ms free) := by
  obtain ⟨hrc, hrs, hfr, hlo, hws, hcw, -, hini, -⟩ := cb
  exact vx_back (bytes := bytes) (maxL := maxL) (ret := ret) hM hbl hrc hrs hfr hlo hws hcw (fun a' U hW => word_at hW (Or.inl (by first | rfl | simp [Cond.onTables, Cond.keeps, Cond.steady])) hini)
theorem vx_runV (S : CallFix p m c cc nL s args Ts own) (hM : vx_Met l y ws rm Pc Qc XC mc ms free) (cw : CallW R s args own C index y bytes maxL ret ws rm mc ms n) (hp : PreV s H C b Pc As)
    (hg : g.method = m) (hn : As.length = n) (hsize : g.locals.size = nL) (hstack : g.stack = As.reverse ++ .ref b :: rest) (hW : 2 * g.monitorRoom + (rest.map fun v => v.category).sum ≤ 8) (hdg : decode cc g.pc = .ok (.invokevirtual index, 3)) (hf : cells + mc ≤ R.cells ∧ slots + ms ≤ R.slots) :
    vx_Run p l e R s m args below meth c H locs cells slots mc ms g rest (Qc (Value.ref b :: As).toArray) XC free := by
  have hK : vx_Back l R p e below s args y 3 8 (PreOf R mc ms Pc) (PostOf Qc mc ms free) (vx_Post XC mc ms free) := vx_callBack cw.1 hM hp.1
  obtain ⟨⟨-, -, -, -, -, -, hcode, -, hy, hlen, hl⟩, hin, hse⟩ := cw
  obtain ⟨hx, hb, hml, ho, -⟩ := S
  obtain ⟨-, ⟨cellB, hcB, hoB, hclB⟩, hPc⟩ := hp
  intro T hT X
  rcases vx_callV X hx (C := C) (bytes := bytes) (maxL := maxL) (ret := ret) ho hl hin hse hcode hy hK (by rw [hT]; exact hcB) hoB hclB hg (hsize.trans hml.symm) (argsL := As) (rest := rest) (fun sig h => hn.trans (hlen sig h)) hstack hW (by rw [hb]; exact hdg)
    (fun vm₁ hW₁ => ⟨hf.1, hf.2, hPc (T.setVm vm₁) hT hW₁⟩) with ⟨v, vm₁, ⟨U', l2, c2, s2⟩, hW₁, X', ⟨g', mk, t, L, e1, e2, hq, h1, hL, h2, h3⟩, st⟩ | ⟨q, vm₁, ⟨U', l2, c2, s2⟩, hW₁, X', ⟨g', mk, t, L, E, ce, e1, e2, hq, hce, hcv, hcl, h1, hL, h2, h3⟩, st⟩
  · dsimp only [Pt.U, Pt.locs, Pt.cells, Pt.slots] at X' e1 e2 h1 h2 h3 st
    subst h1; subst h2; subst h3
    exact Or.inl ⟨v, (T.setVm vm₁).calling g' mk (Value.ref b :: As).toArray, t, U', L, hT, X', hL, e1, e2, hq, st⟩
  · dsimp only [Pt.U, Pt.locs, Pt.cells, Pt.slots] at X' e1 e2 h1 h2 h3 st hcl
    subst h1; subst h2; subst h3
    exact Or.inr ⟨q, (T.setVm vm₁).calling g' mk (Value.ref b :: As).toArray, t, U', L, E, ce, hT, X', hL, e1, e2, hq, hce, hcv, vx_cls hW₁ hcl, st⟩
theorem vx_runS (S : CallFix p m c cc nL s args Ts own) (hM : vx_Met l y ws rm Pc Qc XC mc ms free) (cw : CallB R s args own index y bytes maxL ret ws rm mc ms n ∧ (Cond.static y).before args s = true) (hp : PreS s H Pc As)
    (hg : g.method = m) (hn : As.length = n) (hsize : g.locals.size = nL) (hstack : g.stack = As.reverse ++ rest) (hW : 2 * g.monitorRoom + (rest.map fun v => v.category).sum ≤ 8) (hdg : decode cc g.pc = .ok (.invokestatic index, 3)) (hf : cells + mc ≤ R.cells ∧ slots + ms ≤ R.slots) :
    vx_Run p l e R s m args below meth c H locs cells slots mc ms g rest (Qc As.toArray) XC free := by
  have hK : vx_Back l R p e below s args y 3 8 (PreOf R mc ms Pc) (PostOf Qc mc ms free) (vx_Post XC mc ms free) := vx_callBack cw.1 hM hp.1
  obtain ⟨⟨-, -, -, -, -, -, hcode, hini, hy, hlen, hl⟩, hstt⟩ := cw
  obtain ⟨hx, hb, hml, ho, -⟩ := S
  intro T hT X
  rcases vx_callS X hx (bytes := bytes) (maxL := maxL) (ret := ret) ho hl hstt hini hcode hy hK hg (hsize.trans hml.symm) (argsL := As) (rest := rest) (fun sig h => hn.trans (hlen sig h)) hstack hW (by rw [hb]; exact hdg)
    (fun vm₁ hW₁ => ⟨hf.1, hf.2, hp.2 (T.setVm vm₁) hT hW₁⟩) with ⟨v, vm₁, ⟨U', l2, c2, s2⟩, hW₁, X', ⟨g', mk, t, L, e1, e2, hq, h1, hL, h2, h3⟩, st⟩ | ⟨q, vm₁, ⟨U', l2, c2, s2⟩, hW₁, X', ⟨g', mk, t, L, E, ce, e1, e2, hq, hce, hcv, hcl, h1, hL, h2, h3⟩, st⟩
  · dsimp only [Pt.U, Pt.locs, Pt.cells, Pt.slots] at X' e1 e2 h1 h2 h3 st
    subst h1; subst h2; subst h3
    exact Or.inl ⟨v, (T.setVm vm₁).calling g' mk As.toArray, t, U', L, hT, X', hL, e1, e2, hq, st⟩
  · dsimp only [Pt.U, Pt.locs, Pt.cells, Pt.slots] at X' e1 e2 h1 h2 h3 st hcl
    subst h1; subst h2; subst h3
    exact Or.inr ⟨q, (T.setVm vm₁).calling g' mk As.toArray, t, U', L, E, ce, hT, X', hL, e1, e2, hq, hce, hcv, vx_cls hW₁ hcl, st⟩
end Runs
section Rows
variable {p : Program} {l : Launch} {e : Env} {R : Room} {s : State} {m : MethodId} {args : Array Value} {below : List Frame} {meth : Method} {c : Code} {H : Heap} {locs : List Loc} {cells slots : Nat} {Q : State → Prop}
variable {mc ms : Nat} {free : Addr → Prop} {A0 A1 : Nat → Prop} {H0 : Heap} {a : Array Value} {pc : Nat} {ls : Array Slot} {st0 rest : List Value}
theorem vx_keep {st₀ t T' : State} {L : List Loc} (h0 : st₀.heap = H) (e1 : T'.heap = t.heap) (hS : va_S A0 H0 H locs) (hA : ∀ q, q < H.size → A1 q → A0 q) (hf : ∀ q, free q → A0 q) (hL : ∀ q ∈ L, free q.base) (hF : va_F A1 st₀ t) :
    H.size ≤ T'.heap.size ∧ (∀ q : Nat, q < H.size → ¬ A1 q → T'.heap[q]? = H[q]?) ∧ va_S A0 H0 T'.heap (locs ++ L) := by
  obtain ⟨hz, hk⟩ := hF
  rw [h0] at hz hk
  exact ⟨by rw [e1]; exact hz, fun q h1 h2 => by rw [e1]; exact hk q h1 h2,
    ⟨Nat.le_trans hS.1 (by rw [e1]; exact hz), fun q h1 h2 => by rw [e1, hk q (Nat.lt_of_lt_of_le h1 hS.1) (fun z => h2 (hA q (Nat.lt_of_lt_of_le h1 hS.1) z))]; exact hS.2.1 q h1 h2, fun q hq => by
      rcases List.mem_append.mp hq with h | h
      · exact hS.2.2 q h
      · exact hf _ (hL q h)⟩⟩
theorem vx_calli {S SX : Type} {post : Int32 → S → Prop} {px : SX → Prop} {B : S → State → Prop} {BX : String → SX → State → Prop} {AX : Nat → Prop} (hr : vx_Run p l e R s m args below meth c H locs cells slots mc ms (F0 m pc ls st0) rest (va_Qi post B A1 a) (vx_X px BX AX) free) (hS : va_S A0 H0 H locs) (hA : ∀ q, q < H.size → A1 q → A0 q) (hf : ∀ q, free q → A0 q) (hAX : ∀ q, q < H.size → AX q → A0 q)
    (kx : ∀ (E : String) (ce : Cell) (q9 : Addr) (u : SX) (t : State) (H1 : Heap) (locs1 : List Loc), t.heap = H1 → s.vm.Alike t.vm → px u → BX E u t → H.size ≤ H1.size → (∀ q : Nat, q < H.size → ¬ AX q → H1[q]? = H[q]?) → va_S A0 H0 H1 locs1 → H1[q9]? = some ce → ce.vm = .none → s.vm.findClass E = some ce.cls → vx_W p l e R s m args below meth c H1 locs1 (cells + mc) (slots + ms) Q (F0 m pc ls rest) q9)
    (kk : ∀ (r : Int32) (u : S) (t : State) (H1 : Heap) (locs1 : List Loc), t.heap = H1 → s.vm.Alike t.vm → post r u → B u t → H.size ≤ H1.size → (∀ q : Nat, q < H.size → ¬ A1 q → H1[q]? = H[q]?) → va_S A0 H0 H1 locs1 → W p l e R s m args below meth c H1 locs1 (cells + mc) (slots + ms) Q (F0 m (pc + 3) ls (.int r :: rest))) : W p l e R s m args below meth c H locs cells slots Q (F0 m pc ls st0) := by
  intro T hT X
  rcases hr T hT X with ⟨v, st₀, t, T', L, h0, X', hL, e1, e2, ⟨⟨r, u, hv, hp, hb⟩, hF⟩, st⟩ | ⟨q, st₀, t, T', L, E, ce, h0, X', hL, e1, e2, ⟨u, hp, hb, hF⟩, hce, hcv, hcl, st⟩
  · cases hv
    obtain ⟨k1, k2, k3⟩ := vx_keep h0 e1 hS hA hf hL hF
    obtain ⟨t2, a1, b1⟩ := kk r u t T'.heap (locs ++ L) e1.symm (by rw [← e2]; exact X'.warmed.alike) hp hb k1 k2 k3 T' rfl X'
    exact ⟨t2, st t2 a1, b1⟩
  · obtain ⟨k1, k2, k3⟩ := vx_keep h0 e1 hS hAX hf hL hF
    obtain ⟨t2, a1, b1⟩ := kx E ce q u t T'.heap (locs ++ L) e1.symm (by rw [← e2]; exact X'.warmed.alike) hp hb k1 k2 k3 (by rw [e1]; exact hce) hcv hcl T' rfl X'
    exact ⟨t2, st.trans a1, b1⟩
theorem vx_calll {S SX : Type} {post : Int64 → S → Prop} {px : SX → Prop} {B : S → State → Prop} {BX : String → SX → State → Prop} {AX : Nat → Prop} (hr : vx_Run p l e R s m args below meth c H locs cells slots mc ms (F0 m pc ls st0) rest (va_Ql post B A1 a) (vx_X px BX AX) free) (hS : va_S A0 H0 H locs) (hA : ∀ q, q < H.size → A1 q → A0 q) (hf : ∀ q, free q → A0 q) (hAX : ∀ q, q < H.size → AX q → A0 q)
    (kx : ∀ (E : String) (ce : Cell) (q9 : Addr) (u : SX) (t : State) (H1 : Heap) (locs1 : List Loc), t.heap = H1 → s.vm.Alike t.vm → px u → BX E u t → H.size ≤ H1.size → (∀ q : Nat, q < H.size → ¬ AX q → H1[q]? = H[q]?) → va_S A0 H0 H1 locs1 → H1[q9]? = some ce → ce.vm = .none → s.vm.findClass E = some ce.cls → vx_W p l e R s m args below meth c H1 locs1 (cells + mc) (slots + ms) Q (F0 m pc ls rest) q9)
    (kk : ∀ (r : Int64) (u : S) (t : State) (H1 : Heap) (locs1 : List Loc), t.heap = H1 → s.vm.Alike t.vm → post r u → B u t → H.size ≤ H1.size → (∀ q : Nat, q < H.size → ¬ A1 q → H1[q]? = H[q]?) → va_S A0 H0 H1 locs1 → W p l e R s m args below meth c H1 locs1 (cells + mc) (slots + ms) Q (F0 m (pc + 3) ls (.long r :: rest))) : W p l e R s m args below meth c H locs cells slots Q (F0 m pc ls st0) := by
  intro T hT X
  rcases hr T hT X with ⟨v, st₀, t, T', L, h0, X', hL, e1, e2, ⟨⟨r, u, hv, hp, hb⟩, hF⟩, st⟩ | ⟨q, st₀, t, T', L, E, ce, h0, X', hL, e1, e2, ⟨u, hp, hb, hF⟩, hce, hcv, hcl, st⟩
  · cases hv
    obtain ⟨k1, k2, k3⟩ := vx_keep h0 e1 hS hA hf hL hF
    obtain ⟨t2, a1, b1⟩ := kk r u t T'.heap (locs ++ L) e1.symm (by rw [← e2]; exact X'.warmed.alike) hp hb k1 k2 k3 T' rfl X'
    exact ⟨t2, st t2 a1, b1⟩
  · obtain ⟨k1, k2, k3⟩ := vx_keep h0 e1 hS hAX hf hL hF
    obtain ⟨t2, a1, b1⟩ := kx E ce q u t T'.heap (locs ++ L) e1.symm (by rw [← e2]; exact X'.warmed.alike) hp hb k1 k2 k3 (by rw [e1]; exact hce) hcv hcl T' rfl X'
    exact ⟨t2, st.trans a1, b1⟩
theorem vx_callf {S SX : Type} {post : UInt32 → S → Prop} {px : SX → Prop} {B : S → State → Prop} {BX : String → SX → State → Prop} {AX : Nat → Prop} (hr : vx_Run p l e R s m args below meth c H locs cells slots mc ms (F0 m pc ls st0) rest (va_Qf post B A1 a) (vx_X px BX AX) free) (hS : va_S A0 H0 H locs) (hA : ∀ q, q < H.size → A1 q → A0 q) (hf : ∀ q, free q → A0 q) (hAX : ∀ q, q < H.size → AX q → A0 q)
    (kx : ∀ (E : String) (ce : Cell) (q9 : Addr) (u : SX) (t : State) (H1 : Heap) (locs1 : List Loc), t.heap = H1 → s.vm.Alike t.vm → px u → BX E u t → H.size ≤ H1.size → (∀ q : Nat, q < H.size → ¬ AX q → H1[q]? = H[q]?) → va_S A0 H0 H1 locs1 → H1[q9]? = some ce → ce.vm = .none → s.vm.findClass E = some ce.cls → vx_W p l e R s m args below meth c H1 locs1 (cells + mc) (slots + ms) Q (F0 m pc ls rest) q9)
    (kk : ∀ (r : UInt32) (u : S) (t : State) (H1 : Heap) (locs1 : List Loc), t.heap = H1 → s.vm.Alike t.vm → post r u → B u t → H.size ≤ H1.size → (∀ q : Nat, q < H.size → ¬ A1 q → H1[q]? = H[q]?) → va_S A0 H0 H1 locs1 → W p l e R s m args below meth c H1 locs1 (cells + mc) (slots + ms) Q (F0 m (pc + 3) ls (.float r :: rest))) : W p l e R s m args below meth c H locs cells slots Q (F0 m pc ls st0) := by
  intro T hT X
  rcases hr T hT X with ⟨v, st₀, t, T', L, h0, X', hL, e1, e2, ⟨⟨r, u, hv, hp, hb⟩, hF⟩, st⟩ | ⟨q, st₀, t, T', L, E, ce, h0, X', hL, e1, e2, ⟨u, hp, hb, hF⟩, hce, hcv, hcl, st⟩
  · cases hv
    obtain ⟨k1, k2, k3⟩ := vx_keep h0 e1 hS hA hf hL hF
    obtain ⟨t2, a1, b1⟩ := kk r u t T'.heap (locs ++ L) e1.symm (by rw [← e2]; exact X'.warmed.alike) hp hb k1 k2 k3 T' rfl X'
    exact ⟨t2, st t2 a1, b1⟩
  · obtain ⟨k1, k2, k3⟩ := vx_keep h0 e1 hS hAX hf hL hF
    obtain ⟨t2, a1, b1⟩ := kx E ce q u t T'.heap (locs ++ L) e1.symm (by rw [← e2]; exact X'.warmed.alike) hp hb k1 k2 k3 (by rw [e1]; exact hce) hcv hcl T' rfl X'
    exact ⟨t2, st.trans a1, b1⟩
theorem vx_calld {S SX : Type} {post : UInt64 → S → Prop} {px : SX → Prop} {B : S → State → Prop} {BX : String → SX → State → Prop} {AX : Nat → Prop} (hr : vx_Run p l e R s m args below meth c H locs cells slots mc ms (F0 m pc ls st0) rest (va_Qd post B A1 a) (vx_X px BX AX) free) (hS : va_S A0 H0 H locs) (hA : ∀ q, q < H.size → A1 q → A0 q) (hf : ∀ q, free q → A0 q) (hAX : ∀ q, q < H.size → AX q → A0 q)
    (kx : ∀ (E : String) (ce : Cell) (q9 : Addr) (u : SX) (t : State) (H1 : Heap) (locs1 : List Loc), t.heap = H1 → s.vm.Alike t.vm → px u → BX E u t → H.size ≤ H1.size → (∀ q : Nat, q < H.size → ¬ AX q → H1[q]? = H[q]?) → va_S A0 H0 H1 locs1 → H1[q9]? = some ce → ce.vm = .none → s.vm.findClass E = some ce.cls → vx_W p l e R s m args below meth c H1 locs1 (cells + mc) (slots + ms) Q (F0 m pc ls rest) q9)
    (kk : ∀ (r : UInt64) (u : S) (t : State) (H1 : Heap) (locs1 : List Loc), t.heap = H1 → s.vm.Alike t.vm → post r u → B u t → H.size ≤ H1.size → (∀ q : Nat, q < H.size → ¬ A1 q → H1[q]? = H[q]?) → va_S A0 H0 H1 locs1 → W p l e R s m args below meth c H1 locs1 (cells + mc) (slots + ms) Q (F0 m (pc + 3) ls (.double r :: rest))) : W p l e R s m args below meth c H locs cells slots Q (F0 m pc ls st0) := by
  intro T hT X
  rcases hr T hT X with ⟨v, st₀, t, T', L, h0, X', hL, e1, e2, ⟨⟨r, u, hv, hp, hb⟩, hF⟩, st⟩ | ⟨q, st₀, t, T', L, E, ce, h0, X', hL, e1, e2, ⟨u, hp, hb, hF⟩, hce, hcv, hcl, st⟩
  · cases hv
    obtain ⟨k1, k2, k3⟩ := vx_keep h0 e1 hS hA hf hL hF
    obtain ⟨t2, a1, b1⟩ := kk r u t T'.heap (locs ++ L) e1.symm (by rw [← e2]; exact X'.warmed.alike) hp hb k1 k2 k3 T' rfl X'
    exact ⟨t2, st t2 a1, b1⟩
  · obtain ⟨k1, k2, k3⟩ := vx_keep h0 e1 hS hAX hf hL hF
    obtain ⟨t2, a1, b1⟩ := kx E ce q u t T'.heap (locs ++ L) e1.symm (by rw [← e2]; exact X'.warmed.alike) hp hb k1 k2 k3 (by rw [e1]; exact hce) hcv hcl T' rfl X'
    exact ⟨t2, st.trans a1, b1⟩
theorem vx_callv {S SX : Type} {post : S → Prop} {px : SX → Prop} {B : S → State → Prop} {BX : String → SX → State → Prop} {AX : Nat → Prop} (hr : vx_Run p l e R s m args below meth c H locs cells slots mc ms (F0 m pc ls st0) rest (va_Qv post B A1 a) (vx_X px BX AX) free) (hS : va_S A0 H0 H locs) (hA : ∀ q, q < H.size → A1 q → A0 q) (hf : ∀ q, free q → A0 q) (hAX : ∀ q, q < H.size → AX q → A0 q)
    (kx : ∀ (E : String) (ce : Cell) (q9 : Addr) (u : SX) (t : State) (H1 : Heap) (locs1 : List Loc), t.heap = H1 → s.vm.Alike t.vm → px u → BX E u t → H.size ≤ H1.size → (∀ q : Nat, q < H.size → ¬ AX q → H1[q]? = H[q]?) → va_S A0 H0 H1 locs1 → H1[q9]? = some ce → ce.vm = .none → s.vm.findClass E = some ce.cls → vx_W p l e R s m args below meth c H1 locs1 (cells + mc) (slots + ms) Q (F0 m pc ls rest) q9)
    (kk : ∀ (u : S) (t : State) (H1 : Heap) (locs1 : List Loc), t.heap = H1 → s.vm.Alike t.vm → post u → B u t → H.size ≤ H1.size → (∀ q : Nat, q < H.size → ¬ A1 q → H1[q]? = H[q]?) → va_S A0 H0 H1 locs1 → W p l e R s m args below meth c H1 locs1 (cells + mc) (slots + ms) Q (F0 m (pc + 3) ls (rest))) : W p l e R s m args below meth c H locs cells slots Q (F0 m pc ls st0) := by
  intro T hT X
  rcases hr T hT X with ⟨v, st₀, t, T', L, h0, X', hL, e1, e2, ⟨⟨u, hv, hp, hb⟩, hF⟩, st⟩ | ⟨q, st₀, t, T', L, E, ce, h0, X', hL, e1, e2, ⟨u, hp, hb, hF⟩, hce, hcv, hcl, st⟩
  · cases hv
    obtain ⟨k1, k2, k3⟩ := vx_keep h0 e1 hS hA hf hL hF
    obtain ⟨t2, a1, b1⟩ := kk u t T'.heap (locs ++ L) e1.symm (by rw [← e2]; exact X'.warmed.alike) hp hb k1 k2 k3 T' rfl X'
    exact ⟨t2, st t2 a1, b1⟩
  · obtain ⟨k1, k2, k3⟩ := vx_keep h0 e1 hS hAX hf hL hF
    obtain ⟨t2, a1, b1⟩ := kx E ce q u t T'.heap (locs ++ L) e1.symm (by rw [← e2]; exact X'.warmed.alike) hp hb k1 k2 k3 (by rw [e1]; exact hce) hcv hcl T' rfl X'
    exact ⟨t2, st.trans a1, b1⟩
/-- caught by the row x of this method's table; the rows ahead don't take it -/
theorem vx_catch {own name : String} {E : String} {ce : Cell} {q : Addr} (hown : s.vm.findClass own = some m.cls) (pre : List ExceptionTableEntry) (x : ExceptionTableEntry) (suf : List ExceptionTableEntry) (hsplit : c.exceptionTable.toList = pre ++ x :: suf)
    (hpass : ∀ z ∈ pre, covers z pc = false ∨ (z.catchType ≠ 0 ∧ ∃ nm : String, (Cond.classLink own z.catchType nm).before args s = true ∧ va_Nc E nm s)) (hx : covers x pc = true) (h0 : x.catchType ≠ 0)
    (hlink : (Cond.classLink own x.catchType name).before args s = true) (hcast : (Cond.castable E name).before args s = true) (hcell : H[q]? = some ce) (hv : ce.vm = .none) (hcl : s.vm.findClass E = some ce.cls)
    (kk : W p l e R s m args below meth c H locs cells slots Q (F0 m x.handlerPc ls [.ref q])) : vx_W p l e R s m args below meth c H locs cells slots Q (F0 m pc ls rest) q := by
  intro T hT X
  have hpl : e.platform.magicAccessors = ({} : Platform).magicAccessors := by rw [X.admits.platform]
  obtain ⟨c3, c4, hc3, hc4, hasg⟩ := Cond.castable_spec hcast
  cases Option.some.inj (hc3.symm.trans hcl)
  obtain ⟨c5, hc5, hcl5⟩ := Cond.classLink_spec hown hlink e.platform hpl
  cases Option.some.inj (hc4.symm.trans hc5)
  obtain ⟨vm', X', st⟩ := X.thenCaughtThrough q (g := F0 m pc ls rest) rfl (Steps.refl _) (by rw [hT]; exact hcell) (by rw [hv]; rfl) (by obtain ⟨k9, h9, -⟩ := Vm.findClass_spec hcl; exact ⟨k9, h9⟩) pre x suf hsplit
    (fun z hz => by
      rcases hpass z hz with h | ⟨hz0, nm, hl1, hn1⟩
      · exact Or.inl h
      · obtain ⟨c6, hc6, hcl6⟩ := Cond.classLink_spec hown hl1 e.platform hpl
        obtain ⟨a8, b8, h1, h2, h3⟩ := hn1
        cases Option.some.inj (h1.symm.trans hcl)
        cases Option.some.inj (h2.symm.trans hc6)
        exact Or.inr ⟨hz0, _, hcl6, h3⟩) hx (Or.inr ⟨h0, c4, hcl5, hasg⟩)
  obtain ⟨t, a1, b1⟩ := kk (T.setVm vm') hT X'
  exact ⟨t, st.trans a1, b1⟩
end Rows
section Ends
variable {p : Program} {l : Launch} {e : Env} {R : Room} {s : State} {m : MethodId} {args : Array Value} {below : List Frame} {meth : Method} {c : Code} {H : Heap} {locs : List Loc} {cells slots : Nat} {Q : State → Prop}
variable {mc ms : Nat} {free : Addr → Prop} {A0 A1 : Nat → Prop} {H0 : Heap} {a : Array Value} {ls : Array Slot} {st0 rest : List Value}
variable {Qc : Array Value → State → Outcome → State → Prop} {XC : String → State → State → Prop}
/-- what a body that may throw owes at its end -/
def vx_MQ (below : List Frame) (Qc : Array Value → State → Outcome → State → Prop) (XC : String → State → State → Prop) (a : Array Value) (s : State) (mc ms : Nat) (free : Addr → Prop) : State → Prop := fun t =>
  ∃ o, t.status = .running ∧ Ended t below o ∧ vx_Q Qc XC mc ms free a s o t
theorem vx_ret {g : JFrame} {mc ms : Nat} (k : W p l e R s m args below meth c H locs cells slots (MQ below Qc args s mc ms free) g) : W p l e R s m args below meth c H locs cells slots (vx_MQ below Qc XC args s mc ms free) g := by
  intro T hT X
  obtain ⟨t, a1, o, b1, b2, b3, b4⟩ := k T hT X
  exact ⟨t, a1, o, b1, b2, Or.inl ⟨b3, b4⟩⟩
/-- not caught here: it goes on to the caller -/
theorem vx_widen {g : JFrame} {q : Addr} {k n : Nat} (h1 : cells ≤ k) (h2 : slots ≤ n) (kk : vx_W p l e R s m args below meth c H locs k n Q g q) : vx_W p l e R s m args below meth c H locs cells slots Q g q := fun T hT X => kk T hT (stand_widen X h1 h2)
theorem vx_out {pc : Nat} {E : String} {ce : Cell} {q : Addr} {mc ms : Nat} (hout : ∀ x ∈ c.exceptionTable.toList, covers x pc = false) (hlocks : meth.locks = false) (hcell : H[q]? = some ce) (hv : ce.vm = .none) (hcl : s.vm.findClass E = some ce.cls)
    (hx : ∀ t : State, t.heap = H → s.vm.Alike t.vm → XC E s t) (hf : ∀ z ∈ locs, free z.base) (hc : cells ≤ mc) (hs : slots ≤ ms) :
    vx_W p l e R s m args below meth c H locs cells slots (vx_MQ below Qc XC args s mc ms free) (F0 m pc ls rest) q := by
  intro T hT X
  obtain ⟨st1, hrun, hend, hW, hsm⟩ := X.leaveThrown q (g := F0 m pc ls rest) rfl rfl rfl hout hlocks
  have hcell9 : (T.setFrames (.throwing q :: below)).heap[q]? = some ce := by
    show T.heap[q]? = some ce
    rw [hT]; exact hcell
  exact ⟨_, st1, .threw q, hrun, hend, Or.inr ⟨q, rfl, E, ce, locs, hx _ hT hW.alike, hcell9, hv, hcl, hW, hsm.mono hc hs, hf⟩⟩
theorem vx_frame {U : State} {k n : Nat} (h : s.sameButNew ({ U with vm := s.vm } : State) locs k n) : s.heap.size ≤ U.heap.size ∧ ∀ q : Nat, q < s.heap.size → (∀ z ∈ locs, z.base ≠ q) → U.heap[q]? = s.heap[q]? := by
  obtain ⟨-, h2, -, -, -, h6⟩ := h
  refine ⟨h2, fun q hq hz => ?_⟩
  obtain ⟨c9, e1, e2, e3, e4⟩ := h6 q _ (Array.getElem?_eq_getElem hq)
  have hs : c9.slots = (s.heap[q]).slots := Array.ext_getElem? fun i => e4 i fun hm => hz _ hm rfl
  have h9 : c9 = s.heap[q] := by
    rw [hs] at e2
    exact e2
  have e5 : U.heap[q]? = some c9 := e1
  rw [e5, h9, Array.getElem?_eq_getElem hq]
/-- the words of a throw but the four that speak of the heap -/
def vx_no (w : Cond) : Bool := decide (w ≠ .isRef (.static Bundle.tN "UNASSIGNED_STACK" Bundle.steD)) && decide (w ≠ .isRef (.static Bundle.tN "SUPPRESSED_SENTINEL" Bundle.listD)) && decide (w ≠ .laysStatic Bundle.tN "UNASSIGNED_STACK" Bundle.steD) && decide (w ≠ .laysStatic Bundle.tN "SUPPRESSED_SENTINEL" Bundle.listD)
def vx_at0 (own : String) (ic : Nat) (X : String) (names : List String) : List Cond := (Bundle.ownAtoms0 own ic X names).filter vx_no
def vx_atS (own : String) (ic : Nat) (X : String) (names : List String) : List Cond := (Bundle.ownAtoms own ic X names).filter vx_no
/-- a word that the tables alone decide, or a good one -/
def vx_ot (w : Cond) : Bool := w.onTables || goodWord w
theorem vx_ot_at {args a' : Array Value} {s U : State} {w : Cond} (hW : s.WarmedH U.vm) (hvm : s.vm = U.vm) (hg : vx_ot w = true) (h : w.before args s = true) : w.before a' U = true := by
  simp only [vx_ot, Bool.or_eq_true] at hg
  rcases hg with hg | hg
  · exact va_tabs hg hvm h
  · exact word_at hW (good_of_word hg) h
/-- a list's words: the good ones out of the method's own list, the others by premises of their own -/
theorem vx_hat {args : Array Value} {s : State} {L B : List Cond} (h1 : ∀ w ∈ L.filter goodWord, w.before args s = true) (h2 : ∀ w ∈ L.filter (fun w => !goodWord w), w ∈ B) (h3 : ∀ w ∈ B, w.before args s = true) : ∀ w ∈ L, w.before args s = true := by
  intro w hw
  by_cases g : goodWord w = true
  · exact h1 w (List.mem_filter.mpr ⟨hw, g⟩)
  · refine h3 w (h2 w (List.mem_filter.mpr ⟨hw, ?_⟩))
    show (!goodWord w) = true
    cases hgw : goodWord w
    · rfl
    · exact absurd hgw g
theorem vx_c {args : Array Value} {s : State} {w : Cond} {B : List Cond} (h : w.before args s = true) (t : ∀ w ∈ B, w.before args s = true) : ∀ w' ∈ w :: B, w'.before args s = true := fun w' h' => (List.mem_cons.mp h').elim (fun e => by rw [e]; exact h) (t w')
theorem vx_n {args : Array Value} {s : State} : ∀ w ∈ ([] : List Cond), w.before args s = true := fun _ h => nomatch h
theorem vx_own {args : Array Value} {s : State} {L : List Cond} (h1 : ∀ w ∈ L.filter vx_no, w.before args s = true)
    (hU : (Cond.isRef (.static Bundle.tN "UNASSIGNED_STACK" Bundle.steD)).before args s = true) (hN : (Cond.isRef (.static Bundle.tN "SUPPRESSED_SENTINEL" Bundle.listD)).before args s = true)
    (lU : (Cond.laysStatic Bundle.tN "UNASSIGNED_STACK" Bundle.steD).before args s = true) (lN : (Cond.laysStatic Bundle.tN "SUPPRESSED_SENTINEL" Bundle.listD).before args s = true) : ∀ w ∈ L, w.before args s = true := by
  intro w hw
  by_cases e1 : w = .isRef (.static Bundle.tN "UNASSIGNED_STACK" Bundle.steD)
  · rw [e1]; exact hU
  · by_cases e2 : w = .isRef (.static Bundle.tN "SUPPRESSED_SENTINEL" Bundle.listD)
    · rw [e2]; exact hN
    · by_cases e3 : w = .laysStatic Bundle.tN "UNASSIGNED_STACK" Bundle.steD
      · rw [e3]; exact lU
      · by_cases e4 : w = .laysStatic Bundle.tN "SUPPRESSED_SENTINEL" Bundle.listD
        · rw [e4]; exact lN
        · exact h1 w (List.mem_filter.mpr ⟨hw, by unfold vx_no; rw [decide_eq_true e1, decide_eq_true e2, decide_eq_true e3, decide_eq_true e4]; rfl⟩)
/-- where a static field lies, its class's statics cell in H -/
def vx_L (C n d : String) (A : Nat → Prop) (U : State) (H : Heap) : Prop := ∃ (c : ClassId) (k : Class) (i : Nat) (f : Field) (a : Nat) (cell : Cell), U.vm.findClass C = some c ∧ U.fieldFound? C n d = some (c, k, i, f) ∧ f.isStatic = true ∧ k.statics = some a ∧ H[a]? = some cell ∧ cell.vm.isStatics = true ∧ cell.cls = c ∧ f.slot < cell.slots.size ∧ k.staticTypes[f.slot]? = some f.type ∧ ¬ A a
theorem vx_L.moved {C n d : String} {A : Nat → Prop} {u U : State} {H : Heap} (hvm : u.vm.Alike U.vm) (h : vx_L C n d A u H) : vx_L C n d A U H := by
  obtain ⟨c, k, i, f, a, cell, h1, h2, h3, h4, h5, h6, h7, h8, h9, h10⟩ := h
  obtain ⟨k', hi', he⟩ := State.fieldFound?_setVm hvm h2
  exact ⟨c, k', i, f, a, cell, by rw [hvm.findClass]; exact h1, hi', h3, by rw [he]; exact h4, h5, h6, h7, h8, by rw [he]; exact h9, h10⟩
theorem vx_L.kept {C n d : String} {A : Nat → Prop} {U : State} {H H1 : Heap} (h : vx_L C n d A U H) (hq : ∀ a : Nat, a < H.size → ¬ A a → H1[a]? = H[a]?) : vx_L C n d A U H1 := by
  obtain ⟨c, k, i, f, a, cell, h1, h2, h3, h4, h5, h6, h7, h8, h9, h10⟩ := h
  exact ⟨c, k, i, f, a, cell, h1, h2, h3, h4, by rw [hq a (Array.getElem?_eq_some_iff.mp h5).1 h10]; exact h5, h6, h7, h8, h9, h10⟩
theorem vx_L.narrow {C n d : String} {A B : Nat → Prop} {U : State} {H : Heap} (h : vx_L C n d A U H) (hAB : ∀ q, B q → A q) : vx_L C n d B U H := by
  obtain ⟨c, k, i, f, a, cell, h1, h2, h3, h4, h5, h6, h7, h8, h9, h10⟩ := h
  exact ⟨c, k, i, f, a, cell, h1, h2, h3, h4, h5, h6, h7, h8, h9, fun z => h10 (hAB _ z)⟩
theorem vx_L.word {C n d : String} {A : Nat → Prop} {s : State} {args : Array Value} (h : vx_L C n d A s s.heap) : (Cond.laysStatic C n d).before args s = true := by
  obtain ⟨c, k, i, f, a, cell, h1, h2, h3, h4, h5, h6, h7, h8, h9, -⟩ := h
  show (Cond.laysStatic C n d).holds args s none s [] = true
  exact Cond.laysStatic_of h1 h2 h3 h4 h5 h6 h7 h8 h9
/-- .. and what it holds: null or some reference -/
def vx_Zq (C n d : String) (A : Nat → Prop) (U : State) (H : Heap) : Prop := va_Zq C n d A U H ∧ vx_L C n d A U H
theorem vx_Zq.moved {C n d : String} {A : Nat → Prop} {u U : State} {H : Heap} (hvm : u.vm.Alike U.vm) (h : vx_Zq C n d A u H) : vx_Zq C n d A U H := ⟨va_Zq.moved hvm h.1, vx_L.moved hvm h.2⟩
theorem vx_Zq.kept {C n d : String} {A : Nat → Prop} {U : State} {H H1 : Heap} (h : vx_Zq C n d A U H) (hq : ∀ a : Nat, a < H.size → ¬ A a → H1[a]? = H[a]?) : vx_Zq C n d A U H1 := ⟨va_Zq.kept h.1 hq, vx_L.kept h.2 hq⟩
theorem vx_Zq.narrow {C n d : String} {A B : Nat → Prop} {U : State} {H : Heap} (h : vx_Zq C n d A U H) (hAB : ∀ q, B q → A q) : vx_Zq C n d B U H := ⟨va_Zq.narrow h.1 hAB, vx_L.narrow h.2 hAB⟩
theorem vx_Zqof {args : Array Value} {s : State} {C n d : String} {A : Nat → Prop} (hl : (Cond.laysStatic C n d).before args s = true) (hini : (Cond.initialized C).before args s = true) (h : (Cond.isRef (.static C n d)).before args s = true) (hA : ∀ a : Nat, a < s.heap.size → ¬ A a) : vx_Zq C n d A s s.heap := by
  refine ⟨va_Zqof hl hini h hA, ?_⟩
  obtain ⟨c, k, i, f, a, cell, h1, h2, h3, h4, h5, h6, h7, h8, h9⟩ := Cond.laysStatic_spec hl
  exact ⟨c, k, i, f, a, cell, h1, h2, h3, h4, h5, h6, h7, h8, h9, hA a (Array.getElem?_eq_some_iff.mp h5).1⟩
theorem vx_isRef {C n d : String} {v : Value} {A : Nat → Prop} {s : State} {args : Array Value} (h : va_Z C n d v A s s.heap) (hv : v.isRef = true) : (Cond.isRef (.static C n d)).before args s = true := by
  obtain ⟨cf, kf, fi, f, a, cell, h1, h2, h3, h4, h5, h6, h7, -⟩ := h
  have he : (Term.static C n d).eval args s none [] s = some v := by
    simp [Term.eval, State.fieldNamed?, h1, h2, h4, h5, h6, h7]
  simp only [Cond.before, Cond.holds, Cond.value, he]
  cases v <;> simp_all [Value.isRef]
theorem vx_isRefq {C n d : String} {A : Nat → Prop} {s : State} {args : Array Value} (h : va_Zq C n d A s s.heap) : (Cond.isRef (.static C n d)).before args s = true := by
  rcases h with h | ⟨t, h⟩
  · exact vx_isRef h rfl
  · exact vx_isRef h rfl
/-- the same frame, seen from here: as if the method were called anew in this heap -/
theorem vx_rebase {T : State} (X : Stand p l e R s m args below meth c T locs cells slots) {R' : Room} (hf : R'.frames ≤ R.frames) (hl : R'.locals ≤ R.locals) (hc : cells + R'.cells ≤ R.cells) (hs : slots + R'.slots ≤ R.slots) :
    Stand p l e R' ((T.setVm s.vm).setFrames (.invoking m args :: below)) m args below meth c T [] 0 0 := by
  have htop : (T.setVm s.vm).topJava?.isSome := X.here.top
  have hF : ((T.setVm s.vm).setFrames (.invoking m args :: below)).frames = .invoking m args :: below := State.frames_setFrames _ (State.cur_lt_of_top htop)
  obtain ⟨g₀, hg0⟩ := Option.isSome_iff_exists.mp htop
  obtain ⟨r, hr⟩ := State.topJava?_eq_some.mp hg0
  have hl9 : e.platform.stackLimits (T.setVm s.vm).me = e.platform.stackLimits s.me := X.limits
  have hb9 : (T.setVm s.vm).me.stackBytes = s.me.stackBytes := X.bytes
  refine ⟨X.admits, X.cas, X.clock, hF, ?_, X.hears, X.method, X.code, X.here, X.tail, X.warmed, ?_, ?_, ?_⟩
  · have h := X.room
    have hU : ((T.setVm s.vm).setFrames (.invoking m args :: below)).localsInUse = s.localsInUse := by
      rw [State.localsInUse_invoking hF (meth := meth) (c := c) X.method X.code, State.localsInUse_invoking X.frames X.method X.code]
    simp only [State.hasRoom, Bool.and_eq_true, decide_eq_true_eq] at h ⊢
    obtain ⟨⟨⟨⟨h1, h2, h3, h4, h5, h6⟩, h7⟩, h8⟩, h9⟩ := h
    rw [X.frames, List.length_cons] at h2 h3
    have q1 := X.heapSize
    have q2 := X.used
    simp only [hF, hU, List.length_cons, State.stackLimits_setFrames, State.stackBytes_setFrames, hl9, hb9]
    refine ⟨⟨⟨⟨by omega, by omega, by omega, by omega, by omega, h6⟩, ?_⟩, ?_⟩, X.book⟩
    · show T.heap.size + R'.cells ≤ e.platform.maxCells
      omega
    · show T.slotsUsed + R'.slots ≤ e.platform.maxSlots
      omega
  · rw [State.stackLimits_setFrames]; rfl
  · rw [State.stackBytes_setFrames]; rfl
  · refine ⟨?_, Nat.le_refl _, Nat.le_refl _, ?_, ?_, fun a c9 h9 => ⟨c9, h9, rfl, rfl, fun _ _ => rfl⟩⟩
    · obtain ⟨t, ht, -⟩ := State.frames_cons hr
      show T.setVm s.vm = { ((T.setVm s.vm).setFrames (.invoking m args :: below)).setFrames (T.setVm s.vm).frames with heap := T.heap, slotsUsed := T.slotsUsed }
      rw [State.setFrames_setFrames, State.setFrames_self ht]
      rfl
    · show T.slotsUsed = T.slotsUsed + ((T.heap.toList.drop T.heap.size).map (·.slots.size)).sum
      rw [List.drop_eq_nil_of_le (Nat.le_of_eq Array.length_toList)]
      rfl
    · show ((T.heap.toList.drop T.heap.size).map (·.slots.size)).sum ≤ 0
      rw [List.drop_eq_nil_of_le (Nat.le_of_eq Array.length_toList)]
      exact Nat.le_refl _
/-- 'throw new E()': new; dup; invokespecial; athrow -/
theorem vx_throw0 {cc : ByteArray} {pc : Nat} (hexec : p.tables.exec = Jvm.exec) (hb : c.code = cc) (hl : l.stackTraces = false) {own cls : String} {names : List String} {ik ic mc ms : Nat} {A : Nat → Prop}
    (hown : s.vm.findClass own = some m.cls) (hcls : Bundle.fit cls = true) (hnames : ∀ n ∈ names, Bundle.fit n = true)
    (hk : (Cond.classLink own ik cls).before args s = true) (hini : (Cond.initialized cls).before args s = true) (hat : ∀ w ∈ vx_at0 own ic cls names, w.before args s = true)
    (hgood : ∀ w ∈ Cond.classLink own ik cls :: Cond.initialized cls :: vx_at0 own ic cls names, vx_ot w = true)
    (hU : vx_Zq Bundle.tN "UNASSIGNED_STACK" Bundle.steD A s s.heap) (hN : vx_Zq Bundle.tN "SUPPRESSED_SENTINEL" Bundle.listD A s s.heap) (hS : va_S A s.heap H locs) (hsize : ls.size = c.maxLocals)
    (d0 : decode cc pc = .ok (.new ik, 3)) (d3 : decode cc (pc + 3) = .ok (.dup, 1)) (d4 : decode cc (pc + 4) = .ok (.invokespecial ic, 3)) (d7 : decode cc (pc + 7) = .ok (.athrow, 1))
    (hout : ∀ x ∈ c.exceptionTable.toList, covers x (pc + 7) = false)
    (hRframes : names.length + 3 < R.frames) (hRlocals : (rest.map fun v => v.category).sum + (13 * (names.length + 1) + 42) ≤ R.locals) (hRcells : cells + 1 ≤ R.cells) (hRslots : slots + 6 ≤ R.slots) (hlocks : meth.locks = false)
    (hx : ∀ t : State, s.vm.Alike t.vm → H.size ≤ t.heap.size → (∀ q : Nat, q < H.size → t.heap[q]? = H[q]?) → XC cls s t)
    (hf : ∀ z ∈ locs, free z.base) (hc : cells + 1 ≤ mc) (hs : slots + 6 ≤ ms) :
    W p l e R s m args below meth c H locs cells slots (vx_MQ below Qc XC args s mc ms free) (F0 m pc ls rest) := by
  intro T hT X
  have htr : e.platform.stackTraces = false := (show e.platform.stackTraces = l.stackTraces by rw [X.admits.platform]).trans hl
  have Y := vx_rebase X (R' := { frames := R.frames, locals := R.locals, cells := 1, slots := 6 }) (Nat.le_refl _) (Nat.le_refl _) hRcells hRslots
  obtain ⟨s', hA⟩ : ∃ z, z = (T.setVm s.vm).setFrames (.invoking m args :: below) := ⟨_, rfl⟩
  rw [← hA] at Y
  have hvm : s'.vm = s.vm := by rw [hA]; rfl
  have hhp : s'.heap = H := by rw [hA]; exact hT
  have hW0 : s.WarmedH s'.vm := by rw [hvm]; exact State.WarmedH.refl s
  have hat' : ∀ w ∈ vx_at0 own ic cls names, w.before args s' = true := fun w hw => vx_ot_at hW0 hvm.symm (hgood w (List.mem_cons_of_mem _ (List.mem_cons_of_mem _ hw))) (hat w hw)
  have hk' : (Cond.classLink own ik cls).before args s' = true := vx_ot_at hW0 hvm.symm (hgood _ List.mem_cons_self) hk
  have hini' : (Cond.initialized cls).before args s' = true := vx_ot_at hW0 hvm.symm (hgood _ (List.mem_cons_of_mem _ List.mem_cons_self)) hini
  have hU' : vx_Zq Bundle.tN "UNASSIGNED_STACK" Bundle.steD A s' s'.heap := by rw [hhp]; exact vx_Zq.moved hW0.alike (hU.kept hS.2.1)
  have hN' : vx_Zq Bundle.tN "SUPPRESSED_SENTINEL" Bundle.listD A s' s'.heap := by rw [hhp]; exact vx_Zq.moved hW0.alike (hN.kept hS.2.1)
  have h : ∀ w ∈ Bundle.ownAtoms0 own ic cls names, w.before args s' = true := vx_own hat' (vx_isRefq hU'.1) (vx_isRefq hN'.1) hU'.2.word hN'.2.word
  have hown' : s'.vm.findClass own = some m.cls := by rw [hvm]; exact hown
  have hins : (Cond.instantiable cls 6).before args s' = true := h _ (by simp [Bundle.ownAtoms0])
  obtain ⟨vm₁, cX, kX, hfX, hkX, -, -, X₁, st1⟩ := Y.newCold hexec (own := own) (C := cls) (index := ik) (n := 6) hown' hk' hins hini'
    (g := F0 m pc ls rest) rfl (by rw [hb]; exact d0) (Nat.le_refl _) (Nat.le_refl _)
  generalize hT1 : (T.setVm vm₁).pushCell { cls := cX, slots := kX.instanceTypes.map defaultValue, vm := .none } = T1 at X₁ st1
  have hcat : (Value.ref T.heap.size).category = 1 := rfl
  have hcellA : T1.heap[T.heap.size]? = some (freshCell cX kX) := by rw [← hT1]; exact State.heap_pushCell_size _ _
  have d3' : decode c.code (pc + 3) = .ok (.dup, 1) := by rw [hb]; exact d3
  obtain ⟨U, hsteps, hrun, hend, hW, hsame, ce, hce, hO⟩ := X₁.ctorThrow0 hexec htr (own := own) (cls := cls) (names := names) (ic := ic) hown' hcls hnames h (fun x hx => nomatch hx) hfX hkX hcellA (by rw [hhp, hT]; exact Nat.le_refl _)
    (g := { method := m, pc := pc + 4, locals := ls, stack := .ref T.heap.size :: .ref T.heap.size :: rest, locked := none }) rfl hsize rfl rfl (rest := rest) rfl
    (by rw [hb]; exact d4) (by rw [hb]; exact d7) hout hRframes (by simp only [List.map_cons, List.sum_cons, hcat]; omega) hlocks
  obtain ⟨f1, f2⟩ := vx_frame hsame
  rw [hhp] at f1 f2
  have hWs : s.WarmedH U.vm := State.WarmedH.trans hW0 hW
  have hcl : s.vm.findClass cls = some ce.cls := by
    have h9 := hO.cls
    rw [hvm] at h9
    exact h9
  have hall : s.sameButNew ({ U with vm := s.vm } : State) locs mc ms := by
    subst hA
    obtain ⟨e1, e2⟩ := hsame
    rw [State.setFrames_setFrames] at e1
    have h2 : (T.setVm s.vm).sameButNew ({ U with vm := s.vm } : State) [] (0 + 1) (0 + 6) := ⟨e1, e2⟩
    have h3 := X.same.trans h2
    rw [List.append_nil] at h3
    exact h3.mono hc hs
  refine ⟨U, ?_, .threw T.heap.size, hrun, hend, Or.inr ⟨T.heap.size, rfl, cls, ce, locs, hx U hWs.alike f1 (fun q hq => f2 q hq (fun z hz => nomatch hz)), hce, hO.vm, hcl, hWs, hall, hf⟩⟩
  refine st1 _ ?_
  show Steps p.tables e below (T1.setTop { method := m, pc := pc + 3, locals := ls, stack := .ref T.heap.size :: rest, locked := none }) _
  jvm_step X₁.here [X₁.here.top, hexec, d3', Value.category]
  exact hsteps
/-- 'throw new E("text")': new; dup; ldc; invokespecial; athrow -/
theorem vx_throwS {cc : ByteArray} {pc : Nat} (hexec : p.tables.exec = Jvm.exec) (hb : c.code = cc) (hl : l.stackTraces = false) {own cls text : String} {names : List String} {ik is ic mc ms sa : Nat} {A : Nat → Prop}
    (hown : s.vm.findClass own = some m.cls) (hcls : Bundle.fit cls = true) (hnames : ∀ n ∈ names, Bundle.fit n = true)
    (hk : (Cond.classLink own ik cls).before args s = true) (hini : (Cond.initialized cls).before args s = true) (hstr : vk_R own is text sa s) (hat : ∀ w ∈ vx_atS own ic cls names, w.before args s = true)
    (hgood : ∀ w ∈ Cond.classLink own ik cls :: Cond.initialized cls :: vx_atS own ic cls names, vx_ot w = true)
    (hU : vx_Zq Bundle.tN "UNASSIGNED_STACK" Bundle.steD A s s.heap) (hN : vx_Zq Bundle.tN "SUPPRESSED_SENTINEL" Bundle.listD A s s.heap) (hS : va_S A s.heap H locs) (hsize : ls.size = c.maxLocals)
    (d0 : decode cc pc = .ok (.new ik, 3)) (d3 : decode cc (pc + 3) = .ok (.dup, 1)) (d4 : decode cc (pc + 4) = .ok (.ldc is, 2)) (d6 : decode cc (pc + 6) = .ok (.invokespecial ic, 3)) (d9 : decode cc (pc + 9) = .ok (.athrow, 1))
    (hout : ∀ x ∈ c.exceptionTable.toList, covers x (pc + 9) = false)
    (hRframes : names.length + 3 < R.frames) (hRlocals : (rest.map fun v => v.category).sum + (13 * (names.length + 1) + 43) ≤ R.locals) (hRcells : cells + 1 ≤ R.cells) (hRslots : slots + 6 ≤ R.slots) (hlocks : meth.locks = false)
    (hx : ∀ t : State, s.vm.Alike t.vm → H.size ≤ t.heap.size → (∀ q : Nat, q < H.size → t.heap[q]? = H[q]?) → XC cls s t)
    (hf : ∀ z ∈ locs, free z.base) (hc : cells + 1 ≤ mc) (hs : slots + 6 ≤ ms) :
    W p l e R s m args below meth c H locs cells slots (vx_MQ below Qc XC args s mc ms free) (F0 m pc ls rest) := by
  intro T hT X
  have htr : e.platform.stackTraces = false := (show e.platform.stackTraces = l.stackTraces by rw [X.admits.platform]).trans hl
  have Y := vx_rebase X (R' := { frames := R.frames, locals := R.locals, cells := 1, slots := 6 }) (Nat.le_refl _) (Nat.le_refl _) hRcells hRslots
  obtain ⟨s', hA⟩ : ∃ z, z = (T.setVm s.vm).setFrames (.invoking m args :: below) := ⟨_, rfl⟩
  rw [← hA] at Y
  have hvm : s'.vm = s.vm := by rw [hA]; rfl
  have hhp : s'.heap = H := by rw [hA]; exact hT
  have hW0 : s.WarmedH s'.vm := by rw [hvm]; exact State.WarmedH.refl s
  have hat' : ∀ w ∈ vx_atS own ic cls names, w.before args s' = true := fun w hw => vx_ot_at hW0 hvm.symm (hgood w (List.mem_cons_of_mem _ (List.mem_cons_of_mem _ hw))) (hat w hw)
  have hk' : (Cond.classLink own ik cls).before args s' = true := vx_ot_at hW0 hvm.symm (hgood _ List.mem_cons_self) hk
  have hini' : (Cond.initialized cls).before args s' = true := vx_ot_at hW0 hvm.symm (hgood _ (List.mem_cons_of_mem _ List.mem_cons_self)) hini
  have hU' : vx_Zq Bundle.tN "UNASSIGNED_STACK" Bundle.steD A s' s'.heap := by rw [hhp]; exact vx_Zq.moved hW0.alike (hU.kept hS.2.1)
  have hN' : vx_Zq Bundle.tN "SUPPRESSED_SENTINEL" Bundle.listD A s' s'.heap := by rw [hhp]; exact vx_Zq.moved hW0.alike (hN.kept hS.2.1)
  have h : ∀ w ∈ Bundle.ownAtoms own ic cls names, w.before args s' = true := vx_own hat' (vx_isRefq hU'.1) (vx_isRefq hN'.1) hU'.2.word hN'.2.word
  have hown' : s'.vm.findClass own = some m.cls := by rw [hvm]; exact hown
  have hins : (Cond.instantiable cls 6).before args s' = true := h _ (by simp [Bundle.ownAtoms])
  obtain ⟨vm₁, cX, kX, hfX, hkX, -, -, X₁, st1⟩ := Y.newCold hexec (own := own) (C := cls) (index := ik) (n := 6) hown' hk' hins hini'
    (g := F0 m pc ls rest) rfl (by rw [hb]; exact d0) (Nat.le_refl _) (Nat.le_refl _)
  generalize hT1 : (T.setVm vm₁).pushCell { cls := cX, slots := kX.instanceTypes.map defaultValue, vm := .none } = T1 at X₁ st1
  have hcat : (Value.ref T.heap.size).category = 1 := rfl
  have hcellA : T1.heap[T.heap.size]? = some (freshCell cX kX) := by rw [← hT1]; exact State.heap_pushCell_size _ _
  have d3' : decode c.code (pc + 3) = .ok (.dup, 1) := by rw [hb]; exact d3
  have d4' : decode c.code (pc + 4) = .ok (.ldc is, 2) := by rw [hb]; exact d4
  have hstr' : vk_R own is text sa s' := vk_R.warm hW0 hstr
  obtain ⟨U, hsteps, hrun, hend, hW, hsame, ce, hce, hO⟩ := X₁.ctorThrowS hexec htr (own := own) (cls := cls) (names := names) (ic := ic) hown' hcls hnames h (fun x hx => nomatch hx) hfX hkX hcellA (by rw [hhp, hT]; exact Nat.le_refl _) (msg := .ref sa) rfl
    (g := { method := m, pc := pc + 6, locals := ls, stack := .ref sa :: .ref T.heap.size :: .ref T.heap.size :: rest, locked := none }) rfl hsize rfl rfl (rest := rest) rfl
    (by rw [hb]; exact d6) (by rw [hb]; exact d9) hout hRframes (by simp only [List.map_cons, List.sum_cons, hcat]; omega) hlocks
  obtain ⟨f1, f2⟩ := vx_frame hsame
  rw [hhp] at f1 f2
  have hWs : s.WarmedH U.vm := State.WarmedH.trans hW0 hW
  have hcl : s.vm.findClass cls = some ce.cls := by
    have h9 := hO.cls
    rw [hvm] at h9
    exact h9
  have hall : s.sameButNew ({ U with vm := s.vm } : State) locs mc ms := by
    subst hA
    obtain ⟨e1, e2⟩ := hsame
    rw [State.setFrames_setFrames] at e1
    have h2 : (T.setVm s.vm).sameButNew ({ U with vm := s.vm } : State) [] (0 + 1) (0 + 6) := ⟨e1, e2⟩
    have h3 := X.same.trans h2
    rw [List.append_nil] at h3
    exact h3.mono hc hs
  refine ⟨U, ?_, .threw T.heap.size, hrun, hend, Or.inr ⟨T.heap.size, rfl, cls, ce, locs, hx U hWs.alike f1 (fun q hq => f2 q hq (fun z hz => nomatch hz)), hce, hO.vm, hcl, hWs, hall, hf⟩⟩
  refine st1 _ ?_
  show Steps p.tables e below (T1.setTop { method := m, pc := pc + 3, locals := ls, stack := .ref T.heap.size :: rest, locked := none }) _
  jvm_step X₁.here [X₁.here.top, hexec, d3', Value.category]
  exact X₁.ldcString hexec (own := own) (text := text) (index := is) (a := sa) hown' hstr'.1 hstr'.2
    (g := { method := m, pc := pc + 4, locals := ls, stack := .ref T.heap.size :: .ref T.heap.size :: rest, locked := none }) rfl d4' _ hsteps
/-- 'throw new E("text")', the text by a wide index -/
theorem vx_throwSW {cc : ByteArray} {pc : Nat} (hexec : p.tables.exec = Jvm.exec) (hb : c.code = cc) (hl : l.stackTraces = false) {own cls text : String} {names : List String} {ik is ic mc ms sa : Nat} {A : Nat → Prop}
    (hown : s.vm.findClass own = some m.cls) (hcls : Bundle.fit cls = true) (hnames : ∀ n ∈ names, Bundle.fit n = true)
    (hk : (Cond.classLink own ik cls).before args s = true) (hini : (Cond.initialized cls).before args s = true) (hstr : vk_R own is text sa s) (hat : ∀ w ∈ vx_atS own ic cls names, w.before args s = true)
    (hgood : ∀ w ∈ Cond.classLink own ik cls :: Cond.initialized cls :: vx_atS own ic cls names, vx_ot w = true)
    (hU : vx_Zq Bundle.tN "UNASSIGNED_STACK" Bundle.steD A s s.heap) (hN : vx_Zq Bundle.tN "SUPPRESSED_SENTINEL" Bundle.listD A s s.heap) (hS : va_S A s.heap H locs) (hsize : ls.size = c.maxLocals)
    (d0 : decode cc pc = .ok (.new ik, 3)) (d3 : decode cc (pc + 3) = .ok (.dup, 1)) (d4 : decode cc (pc + 4) = .ok (.ldc_w is, 3)) (d7 : decode cc (pc + 7) = .ok (.invokespecial ic, 3)) (d10 : decode cc (pc + 10) = .ok (.athrow, 1))
    (hout : ∀ x ∈ c.exceptionTable.toList, covers x (pc + 10) = false)
    (hRframes : names.length + 3 < R.frames) (hRlocals : (rest.map fun v => v.category).sum + (13 * (names.length + 1) + 43) ≤ R.locals) (hRcells : cells + 1 ≤ R.cells) (hRslots : slots + 6 ≤ R.slots) (hlocks : meth.locks = false)
    (hx : ∀ t : State, s.vm.Alike t.vm → H.size ≤ t.heap.size → (∀ q : Nat, q < H.size → t.heap[q]? = H[q]?) → XC cls s t)
    (hf : ∀ z ∈ locs, free z.base) (hc : cells + 1 ≤ mc) (hs : slots + 6 ≤ ms) :
    W p l e R s m args below meth c H locs cells slots (vx_MQ below Qc XC args s mc ms free) (F0 m pc ls rest) := by
  intro T hT X
  have htr : e.platform.stackTraces = false := (show e.platform.stackTraces = l.stackTraces by rw [X.admits.platform]).trans hl
  have Y := vx_rebase X (R' := { frames := R.frames, locals := R.locals, cells := 1, slots := 6 }) (Nat.le_refl _) (Nat.le_refl _) hRcells hRslots
  obtain ⟨s', hA⟩ : ∃ z, z = (T.setVm s.vm).setFrames (.invoking m args :: below) := ⟨_, rfl⟩
  rw [← hA] at Y
  have hvm : s'.vm = s.vm := by rw [hA]; rfl
  have hhp : s'.heap = H := by rw [hA]; exact hT
  have hW0 : s.WarmedH s'.vm := by rw [hvm]; exact State.WarmedH.refl s
  have hat' : ∀ w ∈ vx_atS own ic cls names, w.before args s' = true := fun w hw => vx_ot_at hW0 hvm.symm (hgood w (List.mem_cons_of_mem _ (List.mem_cons_of_mem _ hw))) (hat w hw)
  have hk' : (Cond.classLink own ik cls).before args s' = true := vx_ot_at hW0 hvm.symm (hgood _ List.mem_cons_self) hk
  have hini' : (Cond.initialized cls).before args s' = true := vx_ot_at hW0 hvm.symm (hgood _ (List.mem_cons_of_mem _ List.mem_cons_self)) hini
  have hU' : vx_Zq Bundle.tN "UNASSIGNED_STACK" Bundle.steD A s' s'.heap := by rw [hhp]; exact vx_Zq.moved hW0.alike (hU.kept hS.2.1)
  have hN' : vx_Zq Bundle.tN "SUPPRESSED_SENTINEL" Bundle.listD A s' s'.heap := by rw [hhp]; exact vx_Zq.moved hW0.alike (hN.kept hS.2.1)
  have h : ∀ w ∈ Bundle.ownAtoms own ic cls names, w.before args s' = true := vx_own hat' (vx_isRefq hU'.1) (vx_isRefq hN'.1) hU'.2.word hN'.2.word
  have hown' : s'.vm.findClass own = some m.cls := by rw [hvm]; exact hown
  have hins : (Cond.instantiable cls 6).before args s' = true := h _ (by simp [Bundle.ownAtoms])
  obtain ⟨vm₁, cX, kX, hfX, hkX, -, -, X₁, st1⟩ := Y.newCold hexec (own := own) (C := cls) (index := ik) (n := 6) hown' hk' hins hini'
    (g := F0 m pc ls rest) rfl (by rw [hb]; exact d0) (Nat.le_refl _) (Nat.le_refl _)
  generalize hT1 : (T.setVm vm₁).pushCell { cls := cX, slots := kX.instanceTypes.map defaultValue, vm := .none } = T1 at X₁ st1
  have hcat : (Value.ref T.heap.size).category = 1 := rfl
  have hcellA : T1.heap[T.heap.size]? = some (freshCell cX kX) := by rw [← hT1]; exact State.heap_pushCell_size _ _
  have d3' : decode c.code (pc + 3) = .ok (.dup, 1) := by rw [hb]; exact d3
  have d4' : decode c.code (pc + 4) = .ok (.ldc_w is, 3) := by rw [hb]; exact d4
  have hstr' : vk_R own is text sa s' := vk_R.warm hW0 hstr
  obtain ⟨U, hsteps, hrun, hend, hW, hsame, ce, hce, hO⟩ := X₁.ctorThrowS hexec htr (own := own) (cls := cls) (names := names) (ic := ic) hown' hcls hnames h (fun x hx => nomatch hx) hfX hkX hcellA (by rw [hhp, hT]; exact Nat.le_refl _) (msg := .ref sa) rfl
    (g := { method := m, pc := pc + 7, locals := ls, stack := .ref sa :: .ref T.heap.size :: .ref T.heap.size :: rest, locked := none }) rfl hsize rfl rfl (rest := rest) rfl
    (by rw [hb]; exact d7) (by rw [hb]; exact d10) hout hRframes (by simp only [List.map_cons, List.sum_cons, hcat]; omega) hlocks
  obtain ⟨f1, f2⟩ := vx_frame hsame
  rw [hhp] at f1 f2
  have hWs : s.WarmedH U.vm := State.WarmedH.trans hW0 hW
  have hcl : s.vm.findClass cls = some ce.cls := by
    have h9 := hO.cls
    rw [hvm] at h9
    exact h9
  have hall : s.sameButNew ({ U with vm := s.vm } : State) locs mc ms := by
    subst hA
    obtain ⟨e1, e2⟩ := hsame
    rw [State.setFrames_setFrames] at e1
    have h2 : (T.setVm s.vm).sameButNew ({ U with vm := s.vm } : State) [] (0 + 1) (0 + 6) := ⟨e1, e2⟩
    have h3 := X.same.trans h2
    rw [List.append_nil] at h3
    exact h3.mono hc hs
  refine ⟨U, ?_, .threw T.heap.size, hrun, hend, Or.inr ⟨T.heap.size, rfl, cls, ce, locs, hx U hWs.alike f1 (fun q hq => f2 q hq (fun z hz => nomatch hz)), hce, hO.vm, hcl, hWs, hall, hf⟩⟩
  refine st1 _ ?_
  show Steps p.tables e below (T1.setTop { method := m, pc := pc + 3, locals := ls, stack := .ref T.heap.size :: rest, locked := none }) _
  jvm_step X₁.here [X₁.here.top, hexec, d3', Value.category]
  exact X₁.ldcStringW hexec (own := own) (text := text) (index := is) (a := sa) hown' hstr'.1 hstr'.2
    (g := { method := m, pc := pc + 4, locals := ls, stack := .ref T.heap.size :: .ref T.heap.size :: rest, locked := none }) rfl d4' _ hsteps
end Ends
section Bodies
variable {l : Launch}
theorem vx_ofW {y : MethodName} {ws ws' : List Cond} {rm : Room} {Pc : Array Value → State → Prop} {Qc : Array Value → State → Outcome → State → Prop} {XC : String → State → State → Prop} {mc ms : Nat} {free : Addr → Prop} {cc : ByteArray} {maxL : Nat} {ret : Option FieldType}
    (hy : plainName y.cls = true) (hw : ws = Cond.code y cc maxL ret :: ws')
    (body : ∀ p e s m args below meth c s₁, BodyLoose p l y (headSpec ws rm) cc maxL ret e s m args below meth c s₁ → c.maxLocals = maxL → (∀ x ∈ c.exceptionTable.toList, False) → Pc args s →
      W p l e (headSpec ws rm).room s m args below meth c s.heap [] 0 0 (vx_MQ below Qc XC args s mc ms free) (entryFrame m args maxL)) : vx_Met l y ws rm Pc Qc XC mc ms free := by
  refine MetFree.of_bodyS (code := cc) (maxLocals := maxL) (ret := ret) hy ?_ ?_
  · intro args s m h hn
    obtain ⟨meth, c, h1, h2, h3, h4, h5, h6, -, -⟩ := Cond.code_spec hn (atoms_spec (ws := ws) h _ (by rw [hw]; exact List.mem_cons_self))
    exact ⟨meth, c, h1, h2, h3, h4, h5, h6⟩
  · intro p e s m args below meth c s₁ B hml hP _
    have hh0 : s₁.heap = s.heap := by rw [B.state]; rfl
    have ht : ∀ x ∈ c.exceptionTable.toList, False := by
      obtain ⟨meth9, c9, h1, h2, -, -, -, -, h7, -⟩ := Cond.code_spec B.named (atoms_spec (ws := ws) B.pre _ (by rw [hw]; exact List.mem_cons_self))
      cases Option.some.inj (h1.symm.trans B.method)
      cases Option.some.inj (h2.symm.trans (Stand.of_body B).code)
      intro x hx
      rw [Array.isEmpty_iff.mp h7] at hx
      cases hx
    obtain ⟨t, a1, o, b1, b2, b3⟩ := body p e s m args below meth c s₁ B hml ht hP s₁ hh0 (Stand.of_body B)
    exact ⟨t, o, a1, b1, b2, b3⟩
/-- the table of a body with handlers -/
theorem vx_table {p : Program} {x y : MethodName} {S : Spec} {cc bytes : ByteArray} {maxL maxL' : Nat} {ret ret' : Option FieldType} {e : Env} {s s₁ : State} {m : MethodId} {args : Array Value} {below : List Frame} {meth : Method} {c : Code} {hh : List (Nat × Nat × Nat × Nat)}
    (B : BodyLoose p l y S cc maxL ret e s m args below meth c s₁) (h : (Cond.codeWith y bytes maxL' ret' hh).before args s = true) : c.exceptionTable.toList = tableOf hh := by
  obtain ⟨m9, meth9, c9, hn9, h1, h2, -, -, h6, -⟩ := Cond.codeWith_spec h
  cases Option.some.inj (hn9.symm.trans B.named)
  cases Option.some.inj (h1.symm.trans B.method)
  cases Option.some.inj (h2.symm.trans (Stand.of_body B).code)
  rw [← h6, table_eq]
end Bodies
end VXA
/-! ===== END ===== -/
/-! ===== BEGIN a static call of a method with an exception table ===== -/
section VXS
variable {p : Program} {l : Launch} {e : Env} {R : Room} {s : State} {m : MethodId} {args : Array Value} {below : List Frame} {meth : Method} {c : Code} {T : State} {H : Heap} {locs : List Loc} {cells slots : Nat}
abbrev vx_CSW (R : Room) (s : State) (args : Array Value) (own : String) (index : Nat) (y : MethodName) (bytes : ByteArray) (maxL : Nat) (ret : Option FieldType) (hh : List (Nat × Nat × Nat × Nat)) (ws : List Cond) (rm : Room) (mc ms n : Nat) : Prop :=
  (rm.cells = mc ∧ rm.slots = ms ∧ rm.frames + 1 ≤ R.frames ∧ 8 + (maxL + 11) + rm.locals ≤ R.locals ∧ (∀ w ∈ ws, ∀ (a' : Array Value) (U : State), s.WarmedH U.vm → w.before a' U = true) ∧ Cond.codeWith y bytes maxL ret hh ∈ ws) ∧
  (Cond.codeWith y bytes maxL ret hh).before args s = true ∧ (Cond.initialized y.cls).before args s = true ∧ (y.cls ≠ "java/lang/invoke/MethodHandle" ∧ y.cls ≠ "java/lang/invoke/VarHandle") ∧
  (∀ sig, parseMethodDescriptor y.desc = some sig → n = sig.parameters.length) ∧ (Cond.methodLink own index y).before args s = true ∧ (Cond.static y).before args s = true
theorem vx_cwSW {own : String} {index maxL mc ms : Nat} {y : MethodName} {bytes : ByteArray} {ret : Option FieldType} {hh : List (Nat × Nat × Nat × Nat)} {Ts ws ws' : List Cond} {rm : Room} (n : Nat) (ht : ∀ w ∈ Ts, w.before args s = true) (hT : GoodIn Ts (va_wsS own index y ws)) (hw : ws = Cond.codeWith y bytes maxL ret hh :: ws') (hrc : rm.cells = mc) (hrs : rm.slots = ms)
    (hd : y.cls ≠ "java/lang/invoke/MethodHandle" ∧ y.cls ≠ "java/lang/invoke/VarHandle" ∧ (parseMethodDescriptor y.desc).map (fun d => d.parameters.length) = some n) (hR : rm.frames + 1 ≤ R.frames ∧ 8 + (maxL + 11) + rm.locals ≤ R.locals) :
    vx_CSW R s args own index y bytes maxL ret hh ws rm mc ms n := by
  have ok : ∀ w ∈ va_wsS own index y ws, w.before args s = true := fun w h => ht w (hT w h).1
  have hG : GoodIn Ts ws := fun w h => hT w (by unfold va_wsS; exact List.mem_append_right _ h)
  have hc : Cond.codeWith y bytes maxL ret hh ∈ ws := by rw [hw]; exact List.mem_cons_self
  refine ⟨⟨hrc, hrs, hR.1, hR.2, pay_in ht hG, hc⟩, ht _ (hG _ hc).1, ok _ (by simp [va_wsS]), ⟨hd.1, hd.2.1⟩, fun sig h => ?_, ok _ (by simp [va_wsS]), ok _ (by simp [va_wsS])⟩
  have h2 := hd.2.2
  rw [h] at h2
  exact (Option.some.inj h2).symm
theorem vx_callSW (X : Stand p l e R s m args below meth c T locs cells slots) (hexec : p.tables.exec = Jvm.exec) {own : String} {index : Nat} {y : MethodName} {bytes : ByteArray} {maxL : Nat} {ret : Option FieldType} {hh : List (Nat × Nat × Nat × Nat)}
    (hown : s.vm.findClass own = some m.cls) (hlink : (Cond.methodLink own index y).before args s = true) (hstat : (Cond.static y).before args s = true) (hinit : (Cond.initialized y.cls).before args s = true)
    (hcode : (Cond.codeWith y bytes maxL ret hh).before args s = true) (hy : y.cls ≠ "java/lang/invoke/MethodHandle" ∧ y.cls ≠ "java/lang/invoke/VarHandle")
    {W9 : Nat} {Pre : Pt → Array Value → Prop} {Post : Pt → Array Value → Option Value → Pt → Prop} (hK : Back l R p e below s args y 3 W9 Pre Post)
    {g : JFrame} (hg : g.method = m) (hsize : g.locals.size = c.maxLocals) {argsL rest : List Value} (hlen : ∀ sig, parseMethodDescriptor y.desc = some sig → argsL.length = sig.parameters.length)
    (hstack : g.stack = argsL.reverse ++ rest) (hW : 2 * g.monitorRoom + (rest.map fun v => v.category).sum ≤ W9) (hdg : decode c.code g.pc = .ok (.invokestatic index, 3))
    (hpre : ∀ vm₁, s.WarmedH vm₁ → Pre ⟨T.setVm vm₁, locs, cells, slots⟩ argsL.toArray) :
    ∃ (v : Option Value) (vm₁ : Vm) (B : Pt), s.WarmedH vm₁ ∧ Stand p l e R s m args below meth c B.U B.locs B.cells B.slots ∧ Post ⟨T.setVm vm₁, locs, cells, slots⟩ argsL.toArray v B ∧
      ∀ target, Steps p.tables e below (B.U.setTop { g with pc := g.pc + 3, stack := v.toList ++ rest }) target → Steps p.tables e below (T.setTop g) target := by
  obtain ⟨mk, methM, cM, hnamed, hmethM, -, -, -, -, -, -, hsigM⟩ := Cond.codeWith_spec hcode
  have hstatic : methM.isStatic = true := Cond.static_spec hnamed hmethM hstat
  obtain ⟨kP, hkP, -⟩ := className_of_methodNamed hnamed
  have hinitP : kP.init = .initialized := Cond.initialized_spec (findClass_of_methodNamed hnamed) hkP hinit
  obtain ⟨vm₁, X₁, hstep₁⟩ := X.invokestatic hexec hown hlink hnamed hmethM hstatic hkP hinitP hy (g := g) hg (argsL := argsL) (rest := rest) (hlen _ hsigM) hstack hdg
  obtain ⟨v, B, X', hpost, hsteps⟩ := hK m meth c ⟨T.setVm vm₁, locs, cells, slots⟩ { g with stack := rest } (.invokestatic index) mk argsL.toArray X₁ hg hsize hdg hW (X₁.named hnamed) (hpre vm₁ X₁.warmed)
  exact ⟨v, vm₁, B, X₁.warmed, X', hpost, fun target h => hstep₁ _ fun acts => by rw [doInvoke_state]; exact hsteps.trans h⟩
theorem vx_runSW {y : MethodName} {bytes cc : ByteArray} {maxL nL mc ms n index : Nat} {ret : Option FieldType} {hh : List (Nat × Nat × Nat × Nat)} {ws : List Cond} {rm : Room} {Pc : Array Value → State → Prop} {Qc : Array Value → State → Outcome → State → Prop} {free : Addr → Prop} {Ts : List Cond} {own : String} {As rest : List Value} {g : JFrame}
    (S : CallFix p m c cc nL s args Ts own) (hM : Met l y ws rm Pc Qc mc ms free) (cw : vx_CSW R s args own index y bytes maxL ret hh ws rm mc ms n) (hp : PreS s H Pc As)
    (hg : g.method = m) (hn : As.length = n) (hsize : g.locals.size = nL) (hstack : g.stack = As.reverse ++ rest) (hW : 2 * g.monitorRoom + (rest.map fun v => v.category).sum ≤ 8) (hdg : decode cc g.pc = .ok (.invokestatic index, 3)) (hf : cells + mc ≤ R.cells ∧ slots + ms ≤ R.slots) :
    va_Run p l e R s m args below meth c H locs cells slots mc ms g rest (Qc As.toArray) (free) := by
  obtain ⟨⟨hrc, hrs, hfr, hlo, hws, hcw⟩, hcode, hini, hy, hlen, hl, hstt⟩ := cw
  have hK : Back l R p e below s args y 3 8 (PreOf R mc ms Pc) (PostOf Qc mc ms free) := va_backW (hh := hh) (bytes := bytes) (maxL := maxL) (ret := ret) hM hp.1 hrc hrs hfr hlo hws hcw (fun a' U hW => word_at hW (Or.inl (by first | rfl | simp [Cond.onTables, Cond.keeps, Cond.steady])) hini)
  obtain ⟨hx, hb, hml, ho, -⟩ := S
  intro T hT X
  obtain ⟨v, vm₁, ⟨U', l2, c2, s2⟩, hW₁, X', ⟨g', mk, t, L, e1, e2, hq, h1, hL, h2, h3⟩, st⟩ := vx_callSW X hx (hh := hh) (bytes := bytes) (maxL := maxL) (ret := ret) ho hl hstt hini hcode hy hK hg (hsize.trans hml.symm) (argsL := As) (rest := rest) (fun sig h => hn.trans (hlen sig h)) hstack hW (by rw [hb]; exact hdg)
    (fun vm₁ hW₁ => ⟨hf.1, hf.2, hp.2 (T.setVm vm₁) hT hW₁⟩)
  dsimp only [Pt.U, Pt.locs, Pt.cells, Pt.slots] at X' e1 e2 h1 h2 h3 st
  subst h1; subst h2; subst h3
  exact ⟨v, (T.setVm vm₁).calling g' mk As.toArray, t, U', L, hT, X', hL, e1, e2, hq, st⟩
/-- not caught here, past rows that name other classes: it goes on to the caller -/
theorem vx_outP {p : Program} {l : Launch} {e : Env} {R : Room} {s : State} {m : MethodId} {args : Array Value} {below : List Frame} {meth : Method} {c : Code} {H : Heap} {locs : List Loc} {cells slots : Nat} {free : Addr → Prop} {ls : Array Slot} {rest : List Value} {Qc : Array Value → State → Outcome → State → Prop} {XC : String → State → State → Prop}
    {pc : Nat} {own E : String} {ce : Cell} {q : Addr} {mc ms : Nat} (hown : s.vm.findClass own = some m.cls) (hlocks : meth.locks = false)
    (hpass : ∀ z ∈ c.exceptionTable.toList, covers z pc = false ∨ (z.catchType ≠ 0 ∧ ∃ nm : String, (Cond.classLink own z.catchType nm).before args s = true ∧ va_Nc E nm s)) (hcell : H[q]? = some ce) (hv : ce.vm = .none) (hcl : s.vm.findClass E = some ce.cls)
    (hx : ∀ t : State, t.heap = H → s.vm.Alike t.vm → XC E s t) (hf : ∀ z ∈ locs, free z.base) (hc : cells ≤ mc) (hs : slots ≤ ms) :
    vx_W p l e R s m args below meth c H locs cells slots (vx_MQ below Qc XC args s mc ms free) (F0 m pc ls rest) q := by
  intro T hT X
  have hpl : e.platform.magicAccessors = ({} : Platform).magicAccessors := by rw [X.admits.platform]
  obtain ⟨vm', hW', X', st⟩ := X.outThrough hlocks q (g := F0 m pc ls rest) rfl rfl rfl (cell := ce) (by rw [hT]; exact hcell) (by rw [hv]; rfl)
    (by obtain ⟨k9, h9, -⟩ := Vm.findClass_spec hcl; exact ⟨k9, h9⟩) (fun z hz => by
      rcases hpass z hz with h | ⟨hz0, nm, hl1, hn1⟩
      · exact Or.inl h
      · obtain ⟨c6, hc6, hcl6⟩ := Cond.classLink_spec hown hl1 e.platform hpl
        obtain ⟨a8, b8, h1, h2, h3⟩ := hn1
        cases Option.some.inj (h1.symm.trans hcl)
        cases Option.some.inj (h2.symm.trans hc6)
        exact Or.inr ⟨hz0, _, hcl6, h3⟩)
  obtain ⟨g₀, hfr⟩ := X'.frames_eq
  have hcell9 : ((T.setVm vm').setFrames (.throwing q :: below)).heap[q]? = some ce := by
    show T.heap[q]? = some ce
    rw [hT]; exact hcell
  have hend : Ended ((T.setVm vm').setFrames (.throwing q :: below)) below (.threw q) := State.frames_setFrames _ (State.cur_lt_of_frames hfr)
  refine ⟨(T.setVm vm').setFrames (.throwing q :: below), ?_, .threw q, X'.here.running, hend, Or.inr ⟨q, rfl, E, ce, locs, hx _ hT (X'.ends _).1.alike, hcell9, hv, hcl, (X'.ends _).1, (X'.ends _).2.mono hc hs, hf⟩⟩
  rw [X.pushThrowing_eq]
  exact st
/-- a thing of a world lies in the heap -/
theorem vx_lt {D : va_G} {cl : List vw_C} {ws : va_W} {H1 : Heap} (h : va_P D cl ws H1) {k : Nat} {q : Nat × va_E} (hk : ws[k]? = some q) : q.1 < H1.size := (h k q hk).lt
end VXS
/-! ===== END ===== -/
/-! ===== BEGIN methods with a table of their own: called by a name, returning or throwing ===== -/
section VXH
/-! vx_backW, vx_callVX, vx_callSX, vx_callVW, vx_runVW, vx_runVX, vx_runSX, vx_ofWH follow the same proofs as their sisters above (Free/Laws.lean, Shelf42/LK1.lean); vx_outP calls Shelf42/NT130.lean (outThrough). -/
section
variable {l : Launch} {R : Room} {p : Program} {e : Env} {below : List Frame} {s : State} {sargs : Array Value} {y : MethodName} {len W9 : Nat}
theorem vx_backW {ws : List Cond} {rm : Room} {Pc : Array Value → State → Prop} {Qc : Array Value → State → Outcome → State → Prop} {XC : String → State → State → Prop} {mc ms : Nat} {free : Addr → Prop} {bytes : ByteArray} {maxL : Nat} {ret : Option FieldType} {hh : List (Nat × Nat × Nat × Nat)}
    (hM : vx_Met l y ws rm Pc Qc XC mc ms free) (hblind : FrameBlind Pc) (hrc : rm.cells = mc) (hrs : rm.slots = ms)
    (hframes : rm.frames + 1 ≤ R.frames) (hlocals : W9 + (maxL + 11) + rm.locals ≤ R.locals)
    (hws : ∀ w ∈ ws, ∀ a' U, s.WarmedH U.vm → w.before a' U = true) (hcode : Cond.codeWith y bytes maxL ret hh ∈ ws) (hinit : ∀ a' U, s.WarmedH U.vm → (Cond.initialized y.cls).before a' U = true) :
    vx_Back l R p e below s sargs y len W9 (PreOf R mc ms Pc) (PostOf Qc mc ms free) (vx_Post XC mc ms free) := by
  intro m meth c A g ig mk a X hg hsize hdg hW hn hp
  have h1 : (headSpec ws rm).pre.before a A.U = true := atoms_intro fun w hw => hws w hw _ _ X.warmed
  have h2 : (Cond.codeWith y bytes maxL ret hh).before a A.U = true := hws _ hcode _ _ X.warmed
  have h3 : (Cond.initialized y.cls).before a A.U = true := hinit _ _ X.warmed
  have h4 : A.cells + (headSpec ws rm).room.cells ≤ R.cells := by rw [show (headSpec ws rm).room.cells = mc from hrc]; exact hp.1
  have h5 : A.slots + (headSpec ws rm).room.slots ≤ R.slots := by rw [show (headSpec ws rm).room.slots = ms from hrs]; exact hp.2.1
  have hPc : Pc a (A.U.calling g mk a) := hblind _ _ _ _ hp.2.2
  obtain ⟨U, Ls, c0, s0⟩ := A
  dsimp only [Pt.U, Pt.locs, Pt.cells, Pt.slots] at h1 h2 h3 h4 h5 X hn hPc ⊢
  obtain ⟨m9, methY, cY, hn9, hmY, hcY, -, hlY, -⟩ := Cond.codeWith_spec h2
  cases Option.some.inj (hn9.symm.trans hn)
  obtain ⟨kY, hkY, -⟩ := className_of_methodNamed hn
  have hinitY : kY.init = .initialized := Cond.initialized_spec (findClass_of_methodNamed hn) hkY h3
  have h : At U g.method c below := by rw [hg]; exact X.here
  have hlocals9 : W9 + (maxL + 11) + (headSpec ws rm).room.locals ≤ R.locals := hlocals
  have happ : (headSpec ws rm).appliesLoose y e.platform (U.calling g mk a) = true :=
    Spec.appliesLoose_calling (g := g) h hdg hn hkY hinitY
      (X.room_calling (g := g) (R' := (headSpec ws rm).room) hsize hmY hcY hframes (by rw [hlY]; omega) h4 h5) h1
  obtain ⟨mid, hmid⟩ := h.above
  have hfr : (U.setTop g).frames = (.java g :: mid) ++ below := by rw [State.frames_setTop' g h.top, hmid]; rfl
  obtain ⟨o, s₂, hsteps, -, hend, hq⟩ := Steps.callFree hM p X.admits X.cas X.clock (acts := []) hfr happ hPc trivial
  have hq' : vx_Q Qc XC mc ms free a (U.calling g mk a) o s₂ := hq
  rw [State.frames_setTop' g h.top] at hend
  obtain ⟨g₀, hg0⟩ := Option.isSome_iff_exists.mp h.top
  obtain ⟨r, hr⟩ := State.topJava?_eq_some.mp hg0
  have hr' : (({ U with heap := s₂.heap, slotsUsed := s₂.slotsUsed } : State).setVm s₂.vm).frames = .java g₀ :: r := hr
  rcases hq' with ⟨hqc, L, hfe, hL⟩ | ⟨q, rfl, E, ce, L, hx, hce, hcv, hcl, hW₂, hsm, hL⟩
  · obtain ⟨⟨v, rfl⟩, hW₂, e2, q2, q3, q4, q5, q6⟩ := id hfe
    have e3 : s₂ = ({ (U.calling g mk a).setFrames s₂.frames with heap := s₂.heap, slotsUsed := s₂.slotsUsed } : State).setVm s₂.vm := by
      have : s₂ = ({ s₂ with vm := (U.calling g mk a).vm } : State).setVm s₂.vm := rfl
      rw [e2] at this
      exact this
    obtain ⟨c₂, i₂, len₂, hc₂, hd₂, hf₂⟩ := hend
    have hW' : U.WarmedH s₂.vm := hW₂
    have hcc : c₂ = c := by
      have h1 : s₂.code? g.method = U.code? g.method := by
        rw [State.code?_eq, State.code?_eq, hW'.alike.method?]
      exact Option.some.inj (hc₂.symm.trans (h1.trans h.code))
    subst hcc
    have hlen : len₂ = len := by rw [hdg] at hd₂; cases hd₂; rfl
    subst hlen
    have hs₂ : s₂ = (({ U with heap := s₂.heap, slotsUsed := s₂.slotsUsed } : State).setVm s₂.vm).setTop { g with pc := g.pc + len₂, stack := v.toList ++ g.stack } := by
      refine e3.trans ?_
      rw [hf₂, State.calling_eq h.top, State.setFrames_setFrames, State.setTop_of_frames _ hr', hr]
      rfl
    have hsame : U.sameButNew ({ U with heap := s₂.heap, slotsUsed := s₂.slotsUsed } : State) L mc ms := by
      refine ⟨?_, q2, q3, q4, q5, q6⟩
      obtain ⟨t, ht, -⟩ := State.frames_cons hr
      show ({ U with heap := s₂.heap, slotsUsed := s₂.slotsUsed } : State) = { U.setFrames U.frames with heap := s₂.heap, slotsUsed := s₂.slotsUsed }
      rw [State.setFrames_self ht]
    subst hg
    refine Or.inl ⟨v, ⟨(({ U with heap := s₂.heap, slotsUsed := s₂.slotsUsed } : State).setVm s₂.vm), Ls ++ L, c0 + mc, s0 + ms⟩,
      ⟨X.admits, X.cas, X.clock, X.frames, X.room, X.hears, X.method, X.code, (X.here.setHeapUsed s₂.heap s₂.slotsUsed).setVm hW'.alike, X.tail, State.WarmedH.trans X.warmed hW', X.limits, X.bytes, X.same.trans (hsame.setVm s.vm)⟩,
      ⟨g, mk, s₂, L, rfl, rfl, hqc, rfl, hL, rfl, rfl⟩, ?_⟩
    show Steps p.tables e below _ ((({ U with heap := s₂.heap, slotsUsed := s₂.slotsUsed } : State).setVm s₂.vm).setTop { g with pc := g.pc + len₂, stack := v.toList ++ g.stack })
    rw [← hs₂]
    exact hsteps
  · obtain ⟨e2, q2, q3, q4, q5, q6⟩ := id hsm
    have e3 : s₂ = ({ (U.calling g mk a).setFrames s₂.frames with heap := s₂.heap, slotsUsed := s₂.slotsUsed } : State).setVm s₂.vm := by
      have : s₂ = ({ s₂ with vm := (U.calling g mk a).vm } : State).setVm s₂.vm := rfl
      rw [e2] at this
      exact this
    have hf₂ : s₂.frames = .throwing q :: .java g :: U.frames.tail := hend
    have hW' : U.WarmedH s₂.vm := hW₂
    have hs₂ : s₂ = ((({ U with heap := s₂.heap, slotsUsed := s₂.slotsUsed } : State).setVm s₂.vm).setTop g).pushFrame (.throwing q) := by
      refine e3.trans ?_
      rw [hf₂, State.calling_eq h.top, State.setFrames_setFrames, State.pushFrame, State.frames_setTop _ hr', State.setTop_of_frames _ hr', State.setFrames_setFrames, hr]
      rfl
    have hsame : U.sameButNew ({ U with heap := s₂.heap, slotsUsed := s₂.slotsUsed } : State) L mc ms := by
      refine ⟨?_, q2, q3, q4, q5, q6⟩
      obtain ⟨t, ht, -⟩ := State.frames_cons hr
      show ({ U with heap := s₂.heap, slotsUsed := s₂.slotsUsed } : State) = { U.setFrames U.frames with heap := s₂.heap, slotsUsed := s₂.slotsUsed }
      rw [State.setFrames_self ht]
    subst hg
    refine Or.inr ⟨q, ⟨(({ U with heap := s₂.heap, slotsUsed := s₂.slotsUsed } : State).setVm s₂.vm), Ls ++ L, c0 + mc, s0 + ms⟩,
      ⟨X.admits, X.cas, X.clock, X.frames, X.room, X.hears, X.method, X.code, (X.here.setHeapUsed s₂.heap s₂.slotsUsed).setVm hW'.alike, X.tail, State.WarmedH.trans X.warmed hW', X.limits, X.bytes, X.same.trans (hsame.setVm s.vm)⟩,
      ⟨g, mk, s₂, L, E, ce, rfl, rfl, hx, hce, hcv, hcl, rfl, hL, rfl, rfl⟩, ?_⟩
    show Steps p.tables e below _ (((({ U with heap := s₂.heap, slotsUsed := s₂.slotsUsed } : State).setVm s₂.vm).setTop g).pushFrame (.throwing q))
    rw [← hs₂]
    exact hsteps
end
variable {p : Program} {l : Launch} {e : Env} {R : Room} {s : State} {m : MethodId} {args : Array Value} {below : List Frame} {meth : Method} {c : Code} {T : State} {H : Heap} {locs : List Loc} {cells slots : Nat}
theorem vx_callVX (X : Stand p l e R s m args below meth c T locs cells slots) (hexec : p.tables.exec = Jvm.exec) {own C : String} {index : Nat} {y : MethodName} {bytes : ByteArray} {maxL : Nat} {ret : Option FieldType} {hh : List (Nat × Nat × Nat × Nat)}
    (hown : s.vm.findClass own = some m.cls) (hlink : (Cond.methodLink own index y).before args s = true) (hinst : (Cond.instanceMethod y).before args s = true) (hsel : (Cond.selects C y y).before args s = true)
    (hcode : (Cond.codeWith y bytes maxL ret hh).before args s = true) (hy : y.cls ≠ "java/lang/invoke/MethodHandle" ∧ y.cls ≠ "java/lang/invoke/VarHandle")
    {W9 : Nat} {Pre : Pt → Array Value → Prop} {Post : Pt → Array Value → Option Value → Pt → Prop} {PostX : Pt → Array Value → Addr → Pt → Prop} (hK : vx_Back l R p e below s args y 3 W9 Pre Post PostX)
    {b : Addr} {cellB : Cell} (hcell : T.heap[b]? = some cellB) (hobj : cellB.vm.isStatics = false) (hcls : s.vm.findClass C = some cellB.cls)
    {g : JFrame} (hg : g.method = m) (hsize : g.locals.size = c.maxLocals) {argsL rest : List Value} (hlen : ∀ sig, parseMethodDescriptor y.desc = some sig → argsL.length = sig.parameters.length)
    (hstack : g.stack = argsL.reverse ++ .ref b :: rest) (hW : 2 * g.monitorRoom + (rest.map fun v => v.category).sum ≤ W9) (hdg : decode c.code g.pc = .ok (.invokevirtual index, 3))
    (hpre : ∀ vm₁, s.WarmedH vm₁ → Pre ⟨T.setVm vm₁, locs, cells, slots⟩ (Value.ref b :: argsL).toArray) :
    (∃ (v : Option Value) (vm₁ : Vm) (B : Pt), s.WarmedH vm₁ ∧ Stand p l e R s m args below meth c B.U B.locs B.cells B.slots ∧ Post ⟨T.setVm vm₁, locs, cells, slots⟩ (Value.ref b :: argsL).toArray v B ∧
      ∀ target, Steps p.tables e below (B.U.setTop { g with pc := g.pc + 3, stack := v.toList ++ rest }) target → Steps p.tables e below (T.setTop g) target) ∨
    (∃ (q : Addr) (vm₁ : Vm) (B : Pt), s.WarmedH vm₁ ∧ Stand p l e R s m args below meth c B.U B.locs B.cells B.slots ∧ PostX ⟨T.setVm vm₁, locs, cells, slots⟩ (Value.ref b :: argsL).toArray q B ∧
      Steps p.tables e below (T.setTop g) ((B.U.setTop { g with stack := rest }).pushFrame (.throwing q))) := by
  obtain ⟨mk, methM, hnamed, hmethM, hstM, habM⟩ := Cond.instanceMethod_spec hinst
  obtain ⟨m8, methM', cM, hn8, hmethM', -, -, -, -, -, -, hsigM⟩ := Cond.codeWith_spec hcode
  cases Option.some.inj (hn8.symm.trans hnamed)
  cases hmethM.symm.trans hmethM'
  obtain ⟨c2, r2, m2, q1, q2, q3, q4, kP, hkP, hkPi⟩ := Cond.selects_spec hsel
  cases hcls.symm.trans q1
  cases (State.methodFound?_of_named hnamed hy).symm.trans q2
  cases hnamed.symm.trans q3
  have hselP : selectMethod e.platform s.vm cellB.cls mk = .method mk := by rw [Launch.admits_selectMethod X.admits]; exact q4
  obtain ⟨vm₁, X₁, hstep₁⟩ := X.invokevirtual hexec hown hlink hnamed hmethM hstM hkP hkPi hy (a := b) (cell := cellB) hcell
    (fun z h => by rw [h] at hobj; cases hobj) hselP hmethM habM hkP hkPi (g := g) hg (argsL := argsL) (rest := rest) (hlen _ hsigM) hstack hdg
  rcases hK m meth c ⟨T.setVm vm₁, locs, cells, slots⟩ { g with stack := rest } (.invokevirtual index) mk (Value.ref b :: argsL).toArray X₁ hg hsize hdg hW (X₁.named hnamed) (hpre vm₁ X₁.warmed) with ⟨v, B, X', hpost, hsteps⟩ | ⟨q, B, X', hpost, hsteps⟩
  · exact Or.inl ⟨v, vm₁, B, X₁.warmed, X', hpost, fun target h => hstep₁ _ fun acts => by rw [doInvoke_state]; exact hsteps.trans h⟩
  · exact Or.inr ⟨q, vm₁, B, X₁.warmed, X', hpost, hstep₁ _ fun acts => by rw [doInvoke_state]; exact hsteps⟩
theorem vx_callSX (X : Stand p l e R s m args below meth c T locs cells slots) (hexec : p.tables.exec = Jvm.exec) {own : String} {index : Nat} {y : MethodName} {bytes : ByteArray} {maxL : Nat} {ret : Option FieldType} {hh : List (Nat × Nat × Nat × Nat)}
    (hown : s.vm.findClass own = some m.cls) (hlink : (Cond.methodLink own index y).before args s = true) (hstat : (Cond.static y).before args s = true) (hinit : (Cond.initialized y.cls).before args s = true)
    (hcode : (Cond.codeWith y bytes maxL ret hh).before args s = true) (hy : y.cls ≠ "java/lang/invoke/MethodHandle" ∧ y.cls ≠ "java/lang/invoke/VarHandle")
    {W9 : Nat} {Pre : Pt → Array Value → Prop} {Post : Pt → Array Value → Option Value → Pt → Prop} {PostX : Pt → Array Value → Addr → Pt → Prop} (hK : vx_Back l R p e below s args y 3 W9 Pre Post PostX)
    {g : JFrame} (hg : g.method = m) (hsize : g.locals.size = c.maxLocals) {argsL rest : List Value} (hlen : ∀ sig, parseMethodDescriptor y.desc = some sig → argsL.length = sig.parameters.length)
    (hstack : g.stack = argsL.reverse ++ rest) (hW : 2 * g.monitorRoom + (rest.map fun v => v.category).sum ≤ W9) (hdg : decode c.code g.pc = .ok (.invokestatic index, 3))
    (hpre : ∀ vm₁, s.WarmedH vm₁ → Pre ⟨T.setVm vm₁, locs, cells, slots⟩ argsL.toArray) :
    (∃ (v : Option Value) (vm₁ : Vm) (B : Pt), s.WarmedH vm₁ ∧ Stand p l e R s m args below meth c B.U B.locs B.cells B.slots ∧ Post ⟨T.setVm vm₁, locs, cells, slots⟩ argsL.toArray v B ∧
      ∀ target, Steps p.tables e below (B.U.setTop { g with pc := g.pc + 3, stack := v.toList ++ rest }) target → Steps p.tables e below (T.setTop g) target) ∨
    (∃ (q : Addr) (vm₁ : Vm) (B : Pt), s.WarmedH vm₁ ∧ Stand p l e R s m args below meth c B.U B.locs B.cells B.slots ∧ PostX ⟨T.setVm vm₁, locs, cells, slots⟩ argsL.toArray q B ∧
      Steps p.tables e below (T.setTop g) ((B.U.setTop { g with stack := rest }).pushFrame (.throwing q))) := by
  obtain ⟨mk, methM, cM, hnamed, hmethM, -, -, -, -, -, -, hsigM⟩ := Cond.codeWith_spec hcode
  have hstatic : methM.isStatic = true := Cond.static_spec hnamed hmethM hstat
  obtain ⟨kP, hkP, -⟩ := className_of_methodNamed hnamed
  have hinitP : kP.init = .initialized := Cond.initialized_spec (findClass_of_methodNamed hnamed) hkP hinit
  obtain ⟨vm₁, X₁, hstep₁⟩ := X.invokestatic hexec hown hlink hnamed hmethM hstatic hkP hinitP hy (g := g) hg (argsL := argsL) (rest := rest) (hlen _ hsigM) hstack hdg
  rcases hK m meth c ⟨T.setVm vm₁, locs, cells, slots⟩ { g with stack := rest } (.invokestatic index) mk argsL.toArray X₁ hg hsize hdg hW (X₁.named hnamed) (hpre vm₁ X₁.warmed) with ⟨v, B, X', hpost, hsteps⟩ | ⟨q, B, X', hpost, hsteps⟩
  · exact Or.inl ⟨v, vm₁, B, X₁.warmed, X', hpost, fun target h => hstep₁ _ fun acts => by rw [doInvoke_state]; exact hsteps.trans h⟩
  · exact Or.inr ⟨q, vm₁, B, X₁.warmed, X', hpost, hstep₁ _ fun acts => by rw [doInvoke_state]; exact hsteps⟩
theorem vx_callVW (X : Stand p l e R s m args below meth c T locs cells slots) (hexec : p.tables.exec = Jvm.exec) {own C : String} {index : Nat} {y : MethodName} {bytes : ByteArray} {maxL : Nat} {ret : Option FieldType} {hh : List (Nat × Nat × Nat × Nat)}
    (hown : s.vm.findClass own = some m.cls) (hlink : (Cond.methodLink own index y).before args s = true) (hinst : (Cond.instanceMethod y).before args s = true) (hsel : (Cond.selects C y y).before args s = true)
    (hcode : (Cond.codeWith y bytes maxL ret hh).before args s = true) (hy : y.cls ≠ "java/lang/invoke/MethodHandle" ∧ y.cls ≠ "java/lang/invoke/VarHandle")
    {W9 : Nat} {Pre : Pt → Array Value → Prop} {Post : Pt → Array Value → Option Value → Pt → Prop} (hK : Back l R p e below s args y 3 W9 Pre Post)
    {b : Addr} {cellB : Cell} (hcell : T.heap[b]? = some cellB) (hobj : cellB.vm.isStatics = false) (hcls : s.vm.findClass C = some cellB.cls)
    {g : JFrame} (hg : g.method = m) (hsize : g.locals.size = c.maxLocals) {argsL rest : List Value} (hlen : ∀ sig, parseMethodDescriptor y.desc = some sig → argsL.length = sig.parameters.length)
    (hstack : g.stack = argsL.reverse ++ .ref b :: rest) (hW : 2 * g.monitorRoom + (rest.map fun v => v.category).sum ≤ W9) (hdg : decode c.code g.pc = .ok (.invokevirtual index, 3))
    (hpre : ∀ vm₁, s.WarmedH vm₁ → Pre ⟨T.setVm vm₁, locs, cells, slots⟩ (Value.ref b :: argsL).toArray) :
    ∃ (v : Option Value) (vm₁ : Vm) (B : Pt), s.WarmedH vm₁ ∧ Stand p l e R s m args below meth c B.U B.locs B.cells B.slots ∧ Post ⟨T.setVm vm₁, locs, cells, slots⟩ (Value.ref b :: argsL).toArray v B ∧
      ∀ target, Steps p.tables e below (B.U.setTop { g with pc := g.pc + 3, stack := v.toList ++ rest }) target → Steps p.tables e below (T.setTop g) target := by
  obtain ⟨mk, methM, hnamed, hmethM, hstM, habM⟩ := Cond.instanceMethod_spec hinst
  obtain ⟨m8, methM', cM, hn8, hmethM', -, -, -, -, -, -, hsigM⟩ := Cond.codeWith_spec hcode
  cases Option.some.inj (hn8.symm.trans hnamed)
  cases hmethM.symm.trans hmethM'
  obtain ⟨c2, r2, m2, q1, q2, q3, q4, kP, hkP, hkPi⟩ := Cond.selects_spec hsel
  cases hcls.symm.trans q1
  cases (State.methodFound?_of_named hnamed hy).symm.trans q2
  cases hnamed.symm.trans q3
  have hselP : selectMethod e.platform s.vm cellB.cls mk = .method mk := by rw [Launch.admits_selectMethod X.admits]; exact q4
  obtain ⟨vm₁, X₁, hstep₁⟩ := X.invokevirtual hexec hown hlink hnamed hmethM hstM hkP hkPi hy (a := b) (cell := cellB) hcell
    (fun z h => by rw [h] at hobj; cases hobj) hselP hmethM habM hkP hkPi (g := g) hg (argsL := argsL) (rest := rest) (hlen _ hsigM) hstack hdg
  obtain ⟨v, B, X', hpost, hsteps⟩ := hK m meth c ⟨T.setVm vm₁, locs, cells, slots⟩ { g with stack := rest } (.invokevirtual index) mk (Value.ref b :: argsL).toArray X₁ hg hsize hdg hW (X₁.named hnamed) (hpre vm₁ X₁.warmed)
  exact ⟨v, vm₁, B, X₁.warmed, X', hpost, fun target h => hstep₁ _ fun acts => by rw [doInvoke_state]; exact hsteps.trans h⟩
abbrev vx_CVW (R : Room) (s : State) (args : Array Value) (own C : String) (index : Nat) (y : MethodName) (bytes : ByteArray) (maxL : Nat) (ret : Option FieldType) (hh : List (Nat × Nat × Nat × Nat)) (ws : List Cond) (rm : Room) (mc ms n : Nat) : Prop :=
  (rm.cells = mc ∧ rm.slots = ms ∧ rm.frames + 1 ≤ R.frames ∧ 8 + (maxL + 11) + rm.locals ≤ R.locals ∧ (∀ w ∈ ws, ∀ (a' : Array Value) (U : State), s.WarmedH U.vm → w.before a' U = true) ∧ Cond.codeWith y bytes maxL ret hh ∈ ws) ∧
  (Cond.codeWith y bytes maxL ret hh).before args s = true ∧ (Cond.initialized y.cls).before args s = true ∧ (y.cls ≠ "java/lang/invoke/MethodHandle" ∧ y.cls ≠ "java/lang/invoke/VarHandle") ∧
  (∀ sig, parseMethodDescriptor y.desc = some sig → n = sig.parameters.length) ∧ (Cond.methodLink own index y).before args s = true ∧ (Cond.instanceMethod y).before args s = true ∧ (Cond.selects C y y).before args s = true
theorem vx_cwVW {own C : String} {index maxL mc ms : Nat} {y : MethodName} {bytes : ByteArray} {ret : Option FieldType} {hh : List (Nat × Nat × Nat × Nat)} {Ts ws ws' : List Cond} {rm : Room} (n : Nat) (ht : ∀ w ∈ Ts, w.before args s = true) (hT : GoodIn Ts (wsV own index C y ws)) (hw : ws = Cond.codeWith y bytes maxL ret hh :: ws') (hrc : rm.cells = mc) (hrs : rm.slots = ms)
    (hd : y.cls = C ∧ y.cls ≠ "java/lang/invoke/MethodHandle" ∧ y.cls ≠ "java/lang/invoke/VarHandle" ∧ (parseMethodDescriptor y.desc).map (fun d => d.parameters.length) = some n) (hR : rm.frames + 1 ≤ R.frames ∧ 8 + (maxL + 11) + rm.locals ≤ R.locals) :
    vx_CVW R s args own C index y bytes maxL ret hh ws rm mc ms n := by
  obtain ⟨hC, hd⟩ := hd
  subst hC
  have ok : ∀ w ∈ wsV own index y.cls y ws, w.before args s = true := fun w h => ht w (hT w h).1
  have hG : GoodIn Ts ws := fun w h => hT w (by unfold wsV; exact List.mem_append_right _ h)
  have hc : Cond.codeWith y bytes maxL ret hh ∈ ws := by rw [hw]; exact List.mem_cons_self
  refine ⟨⟨hrc, hrs, hR.1, hR.2, pay_in ht hG, hc⟩, ht _ (hG _ hc).1, ok _ (by simp [wsV]), ⟨hd.1, hd.2.1⟩, fun sig h => ?_, ok _ (by simp [wsV]), ok _ (by simp [wsV]), ok _ (by simp [wsV])⟩
  have h2 := hd.2.2
  rw [h] at h2
  exact (Option.some.inj h2).symm
theorem vx_runVW {y : MethodName} {bytes cc : ByteArray} {maxL nL mc ms n index : Nat} {ret : Option FieldType} {hh : List (Nat × Nat × Nat × Nat)} {ws : List Cond} {rm : Room} {Pc : Array Value → State → Prop} {Qc : Array Value → State → Outcome → State → Prop} {free : Addr → Prop} {Ts : List Cond} {own C : String} {b : Addr} {As rest : List Value} {g : JFrame}
    (S : CallFix p m c cc nL s args Ts own) (hM : Met l y ws rm Pc Qc mc ms free) (cw : vx_CVW R s args own C index y bytes maxL ret hh ws rm mc ms n) (hp : PreV s H C b Pc As)
    (hg : g.method = m) (hn : As.length = n) (hsize : g.locals.size = nL) (hstack : g.stack = As.reverse ++ .ref b :: rest) (hW : 2 * g.monitorRoom + (rest.map fun v => v.category).sum ≤ 8) (hdg : decode cc g.pc = .ok (.invokevirtual index, 3)) (hf : cells + mc ≤ R.cells ∧ slots + ms ≤ R.slots) :
    va_Run p l e R s m args below meth c H locs cells slots mc ms g rest (Qc (Value.ref b :: As).toArray) free := by
  obtain ⟨⟨hrc, hrs, hfr, hlo, hws, hcw⟩, hcode, hini, hy, hlen, hl, hin, hse⟩ := cw
  have hK : Back l R p e below s args y 3 8 (PreOf R mc ms Pc) (PostOf Qc mc ms free) := va_backW (hh := hh) (bytes := bytes) (maxL := maxL) (ret := ret) hM hp.1 hrc hrs hfr hlo hws hcw (fun a' U hW => word_at hW (Or.inl (by first | rfl | simp [Cond.onTables, Cond.keeps, Cond.steady])) hini)
  obtain ⟨hx, hb, hml, ho, -⟩ := S
  obtain ⟨-, ⟨cellB, hcB, hoB, hclB⟩, hPc⟩ := hp
  intro T hT X
  obtain ⟨v, vm₁, ⟨U', l2, c2, s2⟩, hW₁, X', ⟨g', mk, t, L, e1, e2, hq, h1, hL, h2, h3⟩, st⟩ := vx_callVW X hx (C := C) (hh := hh) (bytes := bytes) (maxL := maxL) (ret := ret) ho hl hin hse hcode hy hK (by rw [hT]; exact hcB) hoB hclB hg (hsize.trans hml.symm) (argsL := As) (rest := rest) (fun sig h => hn.trans (hlen sig h)) hstack hW (by rw [hb]; exact hdg)
    (fun vm₁ hW₁ => ⟨hf.1, hf.2, hPc (T.setVm vm₁) hT hW₁⟩)
  dsimp only [Pt.U, Pt.locs, Pt.cells, Pt.slots] at X' e1 e2 h1 h2 h3 st
  subst h1; subst h2; subst h3
  exact ⟨v, (T.setVm vm₁).calling g' mk (Value.ref b :: As).toArray, t, U', L, hT, X', hL, e1, e2, hq, st⟩
section
variable {y : MethodName} {bytes cc : ByteArray} {maxL nL mc ms n index : Nat} {ret : Option FieldType} {ws : List Cond} {rm : Room} {Pc : Array Value → State → Prop} {Qc : Array Value → State → Outcome → State → Prop} {XC : String → State → State → Prop} {free : Addr → Prop} {Ts : List Cond} {own C : String} {b : Addr} {As rest : List Value} {g : JFrame}
theorem vx_runVX {hh : List (Nat × Nat × Nat × Nat)} (S : CallFix p m c cc nL s args Ts own) (hM : vx_Met l y ws rm Pc Qc XC mc ms free) (cw : vx_CVW R s args own C index y bytes maxL ret hh ws rm mc ms n) (hp : PreV s H C b Pc As)
    (hg : g.method = m) (hn : As.length = n) (hsize : g.locals.size = nL) (hstack : g.stack = As.reverse ++ .ref b :: rest) (hW : 2 * g.monitorRoom + (rest.map fun v => v.category).sum ≤ 8) (hdg : decode cc g.pc = .ok (.invokevirtual index, 3)) (hf : cells + mc ≤ R.cells ∧ slots + ms ≤ R.slots) :
    vx_Run p l e R s m args below meth c H locs cells slots mc ms g rest (Qc (Value.ref b :: As).toArray) XC free := by
  obtain ⟨⟨hrc, hrs, hfr, hlo, hws, hcw⟩, hcode, hini, hy, hlen, hl, hin, hse⟩ := cw
  have hK : vx_Back l R p e below s args y 3 8 (PreOf R mc ms Pc) (PostOf Qc mc ms free) (vx_Post XC mc ms free) := vx_backW (hh := hh) (bytes := bytes) (maxL := maxL) (ret := ret) hM hp.1 hrc hrs hfr hlo hws hcw (fun a' U hW => word_at hW (Or.inl (by first | rfl | simp [Cond.onTables, Cond.keeps, Cond.steady])) hini)
  obtain ⟨hx, hb, hml, ho, -⟩ := S
  obtain ⟨-, ⟨cellB, hcB, hoB, hclB⟩, hPc⟩ := hp
  intro T hT X
  rcases vx_callVX X hx (C := C) (hh := hh) (bytes := bytes) (maxL := maxL) (ret := ret) ho hl hin hse hcode hy hK (by rw [hT]; exact hcB) hoB hclB hg (hsize.trans hml.symm) (argsL := As) (rest := rest) (fun sig h => hn.trans (hlen sig h)) hstack hW (by rw [hb]; exact hdg)
    (fun vm₁ hW₁ => ⟨hf.1, hf.2, hPc (T.setVm vm₁) hT hW₁⟩) with ⟨v, vm₁, ⟨U', l2, c2, s2⟩, hW₁, X', ⟨g', mk, t, L, e1, e2, hq, h1, hL, h2, h3⟩, st⟩ | ⟨q, vm₁, ⟨U', l2, c2, s2⟩, hW₁, X', ⟨g', mk, t, L, E, ce, e1, e2, hq, hce, hcv, hcl, h1, hL, h2, h3⟩, st⟩
  · dsimp only [Pt.U, Pt.locs, Pt.cells, Pt.slots] at X' e1 e2 h1 h2 h3 st
    subst h1; subst h2; subst h3
    exact Or.inl ⟨v, (T.setVm vm₁).calling g' mk (Value.ref b :: As).toArray, t, U', L, hT, X', hL, e1, e2, hq, st⟩
  · dsimp only [Pt.U, Pt.locs, Pt.cells, Pt.slots] at X' e1 e2 h1 h2 h3 st hcl
    subst h1; subst h2; subst h3
    exact Or.inr ⟨q, (T.setVm vm₁).calling g' mk (Value.ref b :: As).toArray, t, U', L, E, ce, hT, X', hL, e1, e2, hq, hce, hcv, vx_cls hW₁ hcl, st⟩
theorem vx_runSX {hh : List (Nat × Nat × Nat × Nat)} (S : CallFix p m c cc nL s args Ts own) (hM : vx_Met l y ws rm Pc Qc XC mc ms free) (cw : vx_CSW R s args own index y bytes maxL ret hh ws rm mc ms n) (hp : PreS s H Pc As)
    (hg : g.method = m) (hn : As.length = n) (hsize : g.locals.size = nL) (hstack : g.stack = As.reverse ++ rest) (hW : 2 * g.monitorRoom + (rest.map fun v => v.category).sum ≤ 8) (hdg : decode cc g.pc = .ok (.invokestatic index, 3)) (hf : cells + mc ≤ R.cells ∧ slots + ms ≤ R.slots) :
    vx_Run p l e R s m args below meth c H locs cells slots mc ms g rest (Qc As.toArray) XC free := by
  obtain ⟨⟨hrc, hrs, hfr, hlo, hws, hcw⟩, hcode, hini, hy, hlen, hl, hstt⟩ := cw
  have hK : vx_Back l R p e below s args y 3 8 (PreOf R mc ms Pc) (PostOf Qc mc ms free) (vx_Post XC mc ms free) := vx_backW (hh := hh) (bytes := bytes) (maxL := maxL) (ret := ret) hM hp.1 hrc hrs hfr hlo hws hcw (fun a' U hW => word_at hW (Or.inl (by first | rfl | simp [Cond.onTables, Cond.keeps, Cond.steady])) hini)
  obtain ⟨hx, hb, hml, ho, -⟩ := S
  intro T hT X
  rcases vx_callSX X hx (hh := hh) (bytes := bytes) (maxL := maxL) (ret := ret) ho hl hstt hini hcode hy hK hg (hsize.trans hml.symm) (argsL := As) (rest := rest) (fun sig h => hn.trans (hlen sig h)) hstack hW (by rw [hb]; exact hdg)
    (fun vm₁ hW₁ => ⟨hf.1, hf.2, hp.2 (T.setVm vm₁) hT hW₁⟩) with ⟨v, vm₁, ⟨U', l2, c2, s2⟩, hW₁, X', ⟨g', mk, t, L, e1, e2, hq, h1, hL, h2, h3⟩, st⟩ | ⟨q, vm₁, ⟨U', l2, c2, s2⟩, hW₁, X', ⟨g', mk, t, L, E, ce, e1, e2, hq, hce, hcv, hcl, h1, hL, h2, h3⟩, st⟩
  · dsimp only [Pt.U, Pt.locs, Pt.cells, Pt.slots] at X' e1 e2 h1 h2 h3 st
    subst h1; subst h2; subst h3
    exact Or.inl ⟨v, (T.setVm vm₁).calling g' mk As.toArray, t, U', L, hT, X', hL, e1, e2, hq, st⟩
  · dsimp only [Pt.U, Pt.locs, Pt.cells, Pt.slots] at X' e1 e2 h1 h2 h3 st hcl
    subst h1; subst h2; subst h3
    exact Or.inr ⟨q, (T.setVm vm₁).calling g' mk As.toArray, t, U', L, E, ce, hT, X', hL, e1, e2, hq, hce, hcv, vx_cls hW₁ hcl, st⟩
end
end VXH
theorem vx_ofWH {l : Launch} {y : MethodName} {ws ws' : List Cond} {rm : Room} {Pc : Array Value → State → Prop} {Qc : Array Value → State → Outcome → State → Prop} {XC : String → State → State → Prop} {mc ms : Nat} {free : Addr → Prop} {cc : ByteArray} {maxL : Nat} {ret : Option FieldType} {hh : List (Nat × Nat × Nat × Nat)}
    (hy : plainName y.cls = true) (hw : ws = Cond.codeWith y cc maxL ret hh :: ws')
    (body : ∀ p e s m args below meth c s₁, BodyLoose p l y (headSpec ws rm) cc maxL ret e s m args below meth c s₁ → c.maxLocals = maxL → Pc args s →
      W p l e (headSpec ws rm).room s m args below meth c s.heap [] 0 0 (vx_MQ below Qc XC args s mc ms free) (entryFrame m args maxL)) : vx_Met l y ws rm Pc Qc XC mc ms free := by
  refine MetFree.of_bodyS (code := cc) (maxLocals := maxL) (ret := ret) hy ?_ ?_
  · intro args s m h hn
    obtain ⟨m9, meth, c, hn9, h1, h2, h3, h4, -, h5, h6, -⟩ := Cond.codeWith_spec (atoms_spec (ws := ws) h _ (by rw [hw]; exact List.mem_cons_self))
    cases hn.symm.trans hn9
    exact ⟨meth, c, h1, h2, h3, h4, h5, h6⟩
  · intro p e s m args below meth c s₁ B hml hP _
    have hh0 : s₁.heap = s.heap := by rw [B.state]; rfl
    obtain ⟨t, a1, o, b1, b2, b3⟩ := body p e s m args below meth c s₁ B hml hP s₁ hh0 (Stand.of_body B)
    exact ⟨t, o, a1, b1, b2, b3⟩
/-! ===== END ===== -/
end
section
/-! abstract values, heaps and the judgement G: a walk over numbers, cell numbers and an abstract heap; a row an instruction -/
section GDEFS
abbrev gV : Type := Int ⊕ (Option Nat ⊕ (Int ⊕ Unit))
abbrev gI (x : Int) : gV := .inl x
abbrev gR (o : Option Nat) : gV := .inr (.inl o)
abbrev gL (x : Int) : gV := .inr (.inr (.inl x))
abbrev gU : gV := .inr (.inr (.inr ()))
/-- numbers of kinds, of arrays, the script's place, the base of the new cells -/
abbrev gE : Type := va_G × (Nat → ClassId) × Nat × Nat
/-- tags, ints, references, how many cells, whether none but these was made -/
abbrev gH : Type := (Nat → Nat ⊕ (Nat × Nat)) × (Nat → Nat → Int) × (Nat → Nat → Option Nat) × Nat × Bool
/-- launch, words, kinds of objects, kinds with arrays, texts, calls among nest mates -/
abbrev gP : Type := Launch × List Cond × List vw_C × List Nat × List (String × Nat × String) × List (String × Nat × MethodName × String)
/-- a method: owner, code, how many places, frames and words of room, name, answer, handlers -/
abbrev gM : Type := String × ByteArray × Nat × Nat × Nat × String × Option FieldType × List (Nat × Nat × Nat × Nat)
abbrev gIAE : String := "java/lang/IllegalArgumentException"
def ga (Γ : gE) (n : Nat) : Nat := if n = 0 then Γ.2.2.1 else Γ.2.2.2 + n
def gr (Γ : gE) (v : gV) (w : Value) : Prop := match v with
  | .inl x => ∃ y : Int32, w = .int y ∧ y.toInt = x
  | .inr (.inl o) => w = va_rf (o.map (ga Γ))
  | .inr (.inr (.inl x)) => ∃ y : Int64, w = .long y ∧ y.toInt = x
  | .inr (.inr (.inr _)) => True
def gs (Γ : gE) : List gV → List Value → Prop
  | [], [] => True
  | v :: vs, w :: ws => gr Γ v w ∧ gs Γ vs ws
  | _, _ => False
def gl (Γ : gE) (nL : Nat) (loc : List gV) (ls : Array Slot) : Prop := ∃ lv : List (Nat × Value), lv_has ls nL lv ∧ (∀ (j : Nat) (x : Int), loc[j]? = some (gI x) → ∃ y : Int32, (j, Value.int y) ∈ lv ∧ y.toInt = x) ∧ ∀ (j : Nat) (o : Option Nat), loc[j]? = some (gR o) → (j, va_rf (o.map (ga Γ))) ∈ lv
def gfv (Γ : gE) (d : String) (x : Int) (o : Option Nat) (v : Value) : Prop := if d = "I" then ∃ y : Int32, v = .int y ∧ y.toInt = x else v = va_rf (o.map (ga Γ))
/-- the cell at a, by its tag -/
def gcl (π : gP) (Γ : gE) (s : State) (fi : Nat → Int) (fr : Nat → Option Nat) (H : Heap) (a : Nat) : Nat ⊕ (Nat × Nat) → Prop
  | .inl ci => ∃ r : vw_C, π.2.2.1[ci]? = some r ∧ ∃ V : Nat → Value, t_OB a (Γ.1.1 ci) r.2.2 (Γ.1.2 ci) H V ∧ ∀ k, k < r.2.2 → gfv Γ (r.2.1 k).2.2.1 (fi k) (fr k) (V k)
  | .inr (0, len) => ∃ f : Nat → Int32, H[a]? = some (arrV (Γ.2.1 0) len (fun j => .int (f j))) ∧ ∀ j, j < len → (f j).toInt = fi j
  | .inr (1, len) => ∃ f : Nat → Int64, H[a]? = some (arrV (Γ.2.1 1) len (fun j => .long (f j))) ∧ ∀ j, j < len → (f j).toInt = fi j
  | .inr (2, len) => ∃ xs : Nat → Int32, va_X a len xs s H ∧ ∀ j, j < len → (xs j).toInt = fi j
  | .inr (k + 3, len) => ∃ f : Nat → Option Nat, H[a]? = some (arrV (Γ.2.1 (k + 3)) len (fun j => va_rf (f j))) ∧ ∀ j, j < len → f j = (fr j).map (ga Γ)
theorem gcl.moved {π : gP} {Γ : gE} {s U : State} {fi : Nat → Int} {fr : Nat → Option Nat} {H : Heap} {a : Nat} (hv : s.vm.Alike U.vm) : ∀ {t : Nat ⊕ (Nat × Nat)}, gcl π Γ s fi fr H a t → gcl π Γ U fi fr H a t
  | .inl _, h => h
  | .inr (0, _), h => h
  | .inr (1, _), h => h
  | .inr (2, _), ⟨xs, h1, h2⟩ => ⟨xs, h1.moved hv, h2⟩
  | .inr (_ + 3, _), h => h
theorem gcl.kept {π : gP} {Γ : gE} {s : State} {fi : Nat → Int} {fr : Nat → Option Nat} {H H1 : Heap} {a : Nat} (hq : H1[a]? = H[a]?) : ∀ {t : Nat ⊕ (Nat × Nat)}, gcl π Γ s fi fr H a t → gcl π Γ s fi fr H1 a t
  | .inl _, ⟨r, hr, V, hV, hk⟩ => ⟨r, hr, V, hV.kept hq, hk⟩
  | .inr (0, _), ⟨f, h1, h2⟩ => ⟨f, by rw [hq]; exact h1, h2⟩
  | .inr (1, _), ⟨f, h1, h2⟩ => ⟨f, by rw [hq]; exact h1, h2⟩
  | .inr (2, _), ⟨xs, h1, h2⟩ => ⟨xs, h1.kept hq, h2⟩
  | .inr (_ + 3, _), ⟨f, h1, h2⟩ => ⟨f, by rw [hq]; exact h1, h2⟩
theorem gcl.lt {π : gP} {Γ : gE} {s : State} {fi : Nat → Int} {fr : Nat → Option Nat} {H : Heap} {a : Nat} : ∀ {t : Nat ⊕ (Nat × Nat)}, gcl π Γ s fi fr H a t → a < H.size
  | .inl _, ⟨r, hr, V, ⟨cl9, h1, h2⟩, hk⟩ => (Array.getElem?_eq_some_iff.mp h1).1
  | .inr (0, _), ⟨f, h1, h2⟩ => (Array.getElem?_eq_some_iff.mp h1).1
  | .inr (1, _), ⟨f, h1, h2⟩ => (Array.getElem?_eq_some_iff.mp h1).1
  | .inr (2, _), ⟨xs, ⟨scr, h1, _⟩, h2⟩ => (Array.getElem?_eq_some_iff.mp h1).1
  | .inr (_ + 3, _), ⟨f, h1, h2⟩ => (Array.getElem?_eq_some_iff.mp h1).1
/-- words of a throw that are moved one by one -/
def gNG : List Cond := [.declares (Bundle.initS "java/lang/RuntimeException"), .declares (Bundle.initS "java/lang/Exception"), .declares (Bundle.initS Bundle.tN), .castable gIAE gIAE]
theorem gNG_on : ∀ w ∈ gNG, w.onTables = true := by
  intro w hw
  simp only [gNG, List.mem_cons, List.not_mem_nil, or_false] at hw
  rcases hw with rfl | rfl | rfl | rfl <;> rfl
/-- what the tables say at a state -/
def gK (π : gP) (Γ : gE) (s : State) : Prop :=
  (∀ (ci : Nat) (r : vw_C), π.2.2.1[ci]? = some r → u_Kn s r.1 r.2.1 r.2.2 (Γ.1.1 ci) (Γ.1.2 ci)) ∧
  (ArrOfT s (Γ.2.1 0) .int ∧ s.vm.findClass ("[" ++ FieldType.int.toString) = some (Γ.2.1 0)) ∧
  (ArrOfT s (Γ.2.1 1) .long ∧ s.vm.findClass ("[" ++ FieldType.long.toString) = some (Γ.2.1 1)) ∧
  (∀ ci ∈ π.2.2.2.1, ∀ r : vw_C, π.2.2.1[ci]? = some r → ArrOfT s (Γ.2.1 (ci + 3)) (.object r.1) ∧ va_RA s (Γ.2.1 (ci + 3)) (.object r.1) ∧ va_AO r.1 s) ∧
  (∀ q ∈ π.2.2.2.2.1, ∃ sa, vk_R q.1 q.2.1 q.2.2 sa s) ∧ (∀ q ∈ π.2.2.2.2.2, va_Nw (.methodLinkNest q.1 q.2.1 q.2.2.1 q.2.2.2) s) ∧ ∀ w ∈ gNG, va_Nw w s
theorem gK.moved {π : gP} {Γ : gE} {s U : State} (hW : s.WarmedH U.vm) (h : gK π Γ s) : gK π Γ U := by
  obtain ⟨h1, ⟨h2, h3⟩, ⟨h4, h5⟩, h6, h7, h8, h9⟩ := h
  have hv := hW.alike
  refine ⟨fun ci r hr => u_Kn_moved hv (h1 ci r hr), ⟨arrOfT_moved hv h2, by rw [hv.findClass]; exact h3⟩, ⟨arrOfT_moved hv h4, by rw [hv.findClass]; exact h5⟩, fun ci hc r hr => ⟨arrOfT_moved hv (h6 ci hc r hr).1, (h6 ci hc r hr).2.1.moved hv, (h6 ci hc r hr).2.2.moved hv⟩, fun q hq => ?_, fun q hq => va_Nw.warmM hW (h8 q hq), fun w hw => ?_⟩
  · obtain ⟨sa, hs⟩ := h7 q hq
    exact ⟨sa, vk_R.warm hW hs⟩
  · have h10 := h9 w hw
    simp only [gNG, List.mem_cons, List.not_mem_nil, or_false] at hw
    rcases hw with rfl | rfl | rfl | rfl
    · exact va_Nw.warmD hW h10
    · exact va_Nw.warmD hW h10
    · exact va_Nw.warmD hW h10
    · exact va_Nw.warmC hW h10
abbrev gfree (Γ : gE) : Nat → Prop := fun q => Γ.2.2.2 < q
/-- the two statics of Throwable -/
def gZ (Γ : gE) (s : State) (H : Heap) : Prop := vx_Zq Bundle.tN "UNASSIGNED_STACK" Bundle.steD (gfree Γ) s H ∧ vx_Zq Bundle.tN "SUPPRESSED_SENTINEL" Bundle.listD (gfree Γ) s H
/-- the heap holds h -/
def gHR (π : gP) (Γ : gE) (s : State) (h : gH) (H : Heap) : Prop :=
  (∀ n, n < h.2.2.2.1 → gcl π Γ s (h.2.1 n) (h.2.2.1 n) H (ga Γ n) (h.1 n)) ∧ Γ.2.2.1 ≤ Γ.2.2.2 ∧ (h.2.2.2.2 = true → H.size = Γ.2.2.2 + h.2.2.2.1)
theorem gHR.moved {π : gP} {Γ : gE} {s U : State} {h : gH} {H : Heap} (hv : s.vm.Alike U.vm) (x : gHR π Γ s h H) : gHR π Γ U h H := ⟨fun n hn => (x.1 n hn).moved hv, x.2⟩
def gsetI (h : gH) (n k : Nat) (x : Int) : gH := (h.1, fun a b => if a = n ∧ b = k then x else h.2.1 a b, h.2.2)
def gsetR (h : gH) (n k : Nat) (x : Option Nat) : gH := (h.1, h.2.1, fun a b => if a = n ∧ b = k then x else h.2.2.1 a b, h.2.2.2)
def gnew (h : gH) (t : Nat ⊕ (Nat × Nat)) : gH := (fun a => if a = h.2.2.2.1 then t else h.1 a, fun a b => if a = h.2.2.2.1 then 0 else h.2.1 a b, fun a b => if a = h.2.2.2.1 then none else h.2.2.1 a b, h.2.2.2.1 + 1, h.2.2.2.2)
def gstale (h : gH) : gH := (h.1, h.2.1, h.2.2.1, h.2.2.2.1, false)
theorem ga_inj {Γ : gE} {a b : Nat} (h0 : Γ.2.2.1 ≤ Γ.2.2.2) (h : ga Γ a = ga Γ b) : a = b := by
  unfold ga at h
  split at h <;> split at h <;> omega
theorem ga_free {Γ : gE} {n : Nat} (hn : n ≠ 0) : gfree Γ (ga Γ n) := by
  show Γ.2.2.2 < ga Γ n
  unfold ga
  rw [if_neg hn]
  omega
/-- one cell changed -/
theorem gHR.upd {π : gP} {Γ : gE} {s : State} {h h' : gH} {H H' : Heap} (n : Nat) (x : gHR π Γ s h H) (e2 : H'.size = H.size) (e3 : ∀ q : Nat, q ≠ ga Γ n → H'[q]? = H[q]?) (t1 : h'.1 = h.1) (t2 : h'.2.2.2 = h.2.2.2)
    (t3 : ∀ a, a ≠ n → h'.2.1 a = h.2.1 a) (t4 : ∀ a, a ≠ n → h'.2.2.1 a = h.2.2.1 a) (k : gcl π Γ s (h'.2.1 n) (h'.2.2.1 n) H' (ga Γ n) (h.1 n)) : gHR π Γ s h' H' := by
  obtain ⟨x1, x2, x3⟩ := x
  refine ⟨fun a ha => ?_, x2, fun hf => ?_⟩
  · rw [t2] at ha
    rw [t1]
    by_cases e : a = n
    · subst e
      exact k
    · rw [t3 a e, t4 a e]
      exact (x1 a ha).kept (e3 _ fun z => e (ga_inj x2 z))
  · rw [t2] at hf ⊢
    rw [e2]
    exact x3 hf
/-- a new cell -/
theorem gHR.new {π : gP} {Γ : gE} {s : State} {h : gH} {H H' : Heap} {t : Nat ⊕ (Nat × Nat)} (x : gHR π Γ s h H) (hn : h.2.2.2.1 ≠ 0) (hf : h.2.2.2.2 = true) (e2 : H'.size = H.size + 1) (e3 : ∀ q : Nat, q < H.size → H'[q]? = H[q]?)
    (k : gcl π Γ s (fun _ => 0) (fun _ => none) H' H.size t) : gHR π Γ s (gnew h t) H' ∧ ga Γ h.2.2.2.1 = H.size := by
  obtain ⟨x1, x2, x3⟩ := x
  have hz := x3 hf
  have hg : ga Γ h.2.2.2.1 = H.size := by unfold ga; rw [if_neg hn]; omega
  refine ⟨⟨fun a ha => ?_, x2, fun _ => ?_⟩, hg⟩
  · have ha : a < h.2.2.2.1 + 1 := ha
    by_cases e : a = h.2.2.2.1
    · subst e
      simp only [gnew, if_true]
      rw [hg]
      exact k
    · simp only [gnew, e, if_false]
      have h9 := x1 a (by omega)
      exact h9.kept (e3 _ h9.lt)
  · show H'.size = Γ.2.2.2 + (h.2.2.2.1 + 1)
    omega
theorem gHR.stale {π : gP} {Γ : gE} {s : State} {h : gH} {H : Heap} (x : gHR π Γ s h H) : gHR π Γ s (gstale h) H := ⟨x.1, x.2.1, fun z => by cases z⟩
/-- behind writes elsewhere -/
theorem gHR.grown {π : gP} {Γ : gE} {s : State} {h : gH} {H H' : Heap} (x : gHR π Γ s h H) (e3 : ∀ q : Nat, q < H.size → H'[q]? = H[q]?) : gHR π Γ s (gstale h) H' := ⟨fun n hn => (x.1 n hn).kept (e3 _ (x.1 n hn).lt), x.2.1, fun z => by cases z⟩
/-- the frame of a method's walk -/
def gC (π : gP) (Γ : gE) (mi : gM) (p : Program) (R : Room) (s : State) (m : MethodId) (args : Array Value) (meth : Method) (c : Code) : Prop :=
  p.tables.exec = Jvm.exec ∧ c.code = mi.2.1 ∧ c.maxLocals = mi.2.2.1 ∧ s.vm.findClass mi.1 = some m.cls ∧ (∀ w ∈ π.2.1, w.before args s = true) ∧ meth.locks = false ∧ mi.2.2.2.1 ≤ R.frames ∧ mi.2.2.2.2.1 ≤ R.locals ∧
  meth.name = mi.2.2.2.2.2.1 ∧ meth.sig.returnType = mi.2.2.2.2.2.2.1 ∧ c.exceptionTable.toList = tableOf mi.2.2.2.2.2.2.2 ∧ gK π Γ s ∧ gZ Γ s s.heap ∧ π.1.stackTraces = false
def gro (Γ : gE) : Option gV → Option Value → Prop
  | none, none => True
  | some v, some w => gr Γ v w
  | _, _ => False
def gQc (π : gP) (Γ : gE) (Q : Option (Option gV) → gH → Prop) : Array Value → State → Outcome → State → Prop := fun _ st o t => ∃ (r : Option gV) (h : gH) (w : Option Value), Q (some r) h ∧ o = .returned w ∧ gro Γ r w ∧ gHR π Γ t h t.heap ∧ va_F (gfree Γ) st t
def gXC (π : gP) (Γ : gE) (Q : Option (Option gV) → gH → Prop) : String → State → State → Prop := fun E st t => E = gIAE ∧ ∃ h : gH, Q none h ∧ gHR π Γ t h t.heap ∧ va_F (gfree Γ) st t
/-- how the method's walk may end -/
def gEnd (π : gP) (Γ : gE) (mi : gM) (Q : Option (Option gV) → gH → Prop) (p : Program) (e : Env) (R : Room) (s : State) (m : MethodId) (args : Array Value) (below : List Frame) (meth : Method) (c : Code) (QE : State → Prop) : Prop :=
  (∀ (r : Option gV) (w : List Value) (h : gH) (H : Heap) (locs : List Loc) (cells slots pc : Nat) (ls : Array Slot), Q (some r) h → gs Γ r.toList w → gHR π Γ s h H → va_S (gfree Γ) s.heap H locs → cells ≤ R.cells → slots ≤ R.slots →
    ((decode mi.2.1 pc = .ok (.ireturn, 1) ∧ ∃ x : Int, r = some (gI x) ∧ (mi.2.2.2.2.2.2.1 = some .int ∨ (mi.2.2.2.2.2.2.1 = some .boolean ∧ (x = 0 ∨ x = 1)))) ∨
     (decode mi.2.1 pc = .ok (.areturn, 1) ∧ ∃ (o : Option Nat) (n : String), r = some (gR o) ∧ mi.2.2.2.2.2.2.1 = some (.object n)) ∨
     (decode mi.2.1 pc = .ok (.return_, 1) ∧ r = none ∧ mi.2.2.2.2.2.2.1 = none)) →
    W p π.1 e R s m args below meth c H locs cells slots QE (F0 m pc ls w)) ∧
  ∀ h, Q none h → QE = vx_MQ below (gQc π Γ Q) (gXC π Γ Q) args s R.cells R.slots (gfree Γ)
/-- THE JUDGEMENT: from pc, with these places, this stack, this heap, at most mc cells and ms slots more, the method ends with Q -/
def G (π : gP) (mi : gM) (pc : Nat) (loc stk : List gV) (h : gH) (mc ms : Nat) (Q : Option (Option gV) → gH → Prop) : Prop :=
  ∀ (Γ : gE) (p : Program) (e : Env) (R : Room) (s : State) (m : MethodId) (args : Array Value) (below : List Frame) (meth : Method) (c : Code) (QE : State → Prop) (H : Heap) (locs : List Loc) (cells slots : Nat) (ls : Array Slot) (st : List Value),
    gC π Γ mi p R s m args meth c → gEnd π Γ mi Q p e R s m args below meth c QE → gHR π Γ s h H → gl Γ mi.2.2.1 loc ls → gs Γ stk st → va_S (gfree Γ) s.heap H locs → cells + mc ≤ R.cells → slots + ms ≤ R.slots →
    W p π.1 e R s m args below meth c H locs cells slots QE (F0 m pc ls st)
/-- an exception stands over the frame at pc -/
def GX (π : gP) (mi : gM) (pc : Nat) (loc : List gV) (h : gH) (mc ms : Nat) (Q : Option (Option gV) → gH → Prop) : Prop :=
  ∀ (Γ : gE) (p : Program) (e : Env) (R : Room) (s : State) (m : MethodId) (args : Array Value) (below : List Frame) (meth : Method) (c : Code) (QE : State → Prop) (H : Heap) (locs : List Loc) (cells slots : Nat) (ls : Array Slot) (rest : List Value) (ce : Cell) (q : Addr),
    gC π Γ mi p R s m args meth c → gEnd π Γ mi Q p e R s m args below meth c QE → gHR π Γ s h H → gl Γ mi.2.2.1 loc ls → va_S (gfree Γ) s.heap H locs → cells + mc ≤ R.cells → slots + ms ≤ R.slots →
    H[q]? = some ce → ce.vm = .none → s.vm.findClass gIAE = some ce.cls →
    vx_W p π.1 e R s m args below meth c H locs cells slots QE (F0 m pc ls rest) q
def gPc (π : gP) (Γ : gE) (as : List gV) (h : gH) : Array Value → State → Prop := fun a U => ∃ vs : List Value, a = vs.toArray ∧ gs Γ as vs ∧ gK π Γ U ∧ gZ Γ U U.heap ∧ gHR π Γ U h U.heap
def gcw (mi : gM) (y : MethodName) : Cond := match mi.2.2.2.2.2.2.2 with
  | [] => .code y mi.2.1 mi.2.2.1 mi.2.2.2.2.2.2.1
  | hh => .codeWith y mi.2.1 mi.2.2.1 mi.2.2.2.2.2.2.1 hh
/-- A CONTRACT: y, called with these arguments over this heap, ends with Q -/
def gMet (π : gP) (mi : gM) (y : MethodName) (as : List gV) (h : gH) (mc ms : Nat) (Q : Option (Option gV) → gH → Prop) : Prop :=
  π.1.stackTraces = false → ∀ Γ : gE, vx_Met π.1 y (gcw mi y :: π.2.1) { frames := mi.2.2.2.1, cells := mc, slots := ms, locals := mi.2.2.2.2.1 } (gPc π Γ as h) (gQc π Γ Q) (gXC π Γ Q) mc ms (gfree Γ)
end GDEFS
section GLEM
theorem gs_int {Γ : gE} {a : Int} {vs : List gV} {st : List Value} (h : gs Γ (gI a :: vs) st) : ∃ (y : Int32) (r : List Value), st = .int y :: r ∧ y.toInt = a ∧ gs Γ vs r := by
  cases st with
  | nil => exact h.elim
  | cons w r => obtain ⟨⟨y, rfl, hy⟩, hr⟩ := h; exact ⟨y, r, rfl, hy, hr⟩
theorem gs_long {Γ : gE} {a : Int} {vs : List gV} {st : List Value} (h : gs Γ (gL a :: vs) st) : ∃ (y : Int64) (r : List Value), st = .long y :: r ∧ y.toInt = a ∧ gs Γ vs r := by
  cases st with
  | nil => exact h.elim
  | cons w r => obtain ⟨⟨y, rfl, hy⟩, hr⟩ := h; exact ⟨y, r, rfl, hy, hr⟩
theorem gs_ref {Γ : gE} {o : Option Nat} {vs : List gV} {st : List Value} (h : gs Γ (gR o :: vs) st) : ∃ r : List Value, st = va_rf (o.map (ga Γ)) :: r ∧ gs Γ vs r := by
  cases st with
  | nil => exact h.elim
  | cons w r => obtain ⟨h1, hr⟩ := h; exact ⟨r, by rw [← show w = va_rf (o.map (ga Γ)) from h1], hr⟩
theorem gs_nil {Γ : gE} {st : List Value} (h : gs Γ [] st) : st = [] := by
  cases st with
  | nil => rfl
  | cons w r => exact h.elim
theorem gs_app {Γ : gE} : ∀ {as bs : List gV} {st : List Value}, gs Γ (as ++ bs) st → ∃ s1 s2 : List Value, st = s1 ++ s2 ∧ gs Γ as s1 ∧ gs Γ bs s2
  | [], _, st, h => ⟨[], st, rfl, trivial, h⟩
  | _ :: _, _, [], h => h.elim
  | _ :: _, _, w :: _, h => by
    obtain ⟨s1, s2, rfl, h1, h2⟩ := gs_app h.2
    exact ⟨w :: s1, s2, rfl, ⟨h.1, h1⟩, h2⟩
theorem gs_cat {Γ : gE} : ∀ {as bs : List gV} {s1 s2 : List Value}, gs Γ as s1 → gs Γ bs s2 → gs Γ (as ++ bs) (s1 ++ s2)
  | [], _, [], _, _, h => h
  | [], _, _ :: _, _, h, _ => h.elim
  | _ :: _, _, [], _, h, _ => h.elim
  | _ :: _, _, _ :: _, _, h, h2 => ⟨h.1, gs_cat h.2 h2⟩
theorem gs_rev {Γ : gE} : ∀ {as : List gV} {st : List Value}, gs Γ as st → gs Γ as.reverse st.reverse
  | [], [], _ => trivial
  | [], _ :: _, h => h.elim
  | _ :: _, [], h => h.elim
  | _ :: _, _ :: _, h => by
    rw [List.reverse_cons, List.reverse_cons]
    exact gs_cat (gs_rev h.2) ⟨h.1, trivial⟩
theorem gs_len {Γ : gE} : ∀ {as : List gV} {st : List Value}, gs Γ as st → st.length = as.length
  | [], [], _ => rfl
  | [], _ :: _, h => h.elim
  | _ :: _, [], h => h.elim
  | _ :: _, _ :: _, h => by rw [List.length_cons, List.length_cons, gs_len h.2]
/-- room on the operand stack -/
def gcs : List gV → Nat
  | [] => 0
  | .inl _ :: r => gcs r + 1
  | .inr (.inl _) :: r => gcs r + 1
  | _ :: r => gcs r + 2
theorem gs_room {Γ : gE} : ∀ {as : List gV} {st : List Value}, gs Γ as st → (st.map fun v => v.category).sum ≤ gcs as
  | [], [], _ => Nat.le_refl _
  | [], _ :: _, h => h.elim
  | _ :: _, [], h => h.elim
  | .inl _ :: _, _ :: _, h => by
    obtain ⟨⟨y, rfl, -⟩, h2⟩ := h
    have := gs_room h2
    have hc : (Value.int y).category = 1 := rfl
    simp only [List.map_cons, List.sum_cons, hc, gcs]
    omega
  | .inr (.inl o) :: _, w :: _, h => by
    obtain ⟨h1, h2⟩ := h
    have := gs_room h2
    have hc : w.category = 1 := by
      have h1 : w = va_rf (o.map (ga Γ)) := h1
      rw [h1]
      cases o <;> rfl
    simp only [List.map_cons, List.sum_cons, hc, gcs]
    omega
  | .inr (.inr _) :: _, w :: _, h => by
    obtain ⟨h1, h2⟩ := h
    have := gs_room h2
    have hc := lv_cat w
    simp only [List.map_cons, List.sum_cons, gcs]
    omega
theorem gl_set {Γ : gE} {nL i : Nat} {loc : List gV} {ls' : Array Slot} {lv : List (Nat × Value)} {v : gV} {w : Value} (h : (∀ (j : Nat) (x : Int), loc[j]? = some (gI x) → ∃ y : Int32, (j, Value.int y) ∈ lv ∧ y.toInt = x) ∧ ∀ (j : Nat) (o : Option Nat), loc[j]? = some (gR o) → (j, va_rf (o.map (ga Γ))) ∈ lv)
    (h2 : lv_has ls' nL ((i, w) :: lv.filter (fun q => !(q.1 == i) && !(q.1 + 1 == i && q.2.category == 2)))) (hv : gr Γ v w) : gl Γ nL (loc.set i v) ls' := by
  refine ⟨_, h2, fun j x hj => ?_, fun j o hj => ?_⟩
  · rw [List.getElem?_set] at hj
    split at hj
    · rename_i e
      subst e
      split at hj
      · cases Option.some.inj hj
        obtain ⟨y, rfl, hy⟩ := hv
        exact ⟨y, List.mem_cons_self, hy⟩
      · cases hj
    · rename_i e
      obtain ⟨y, hm, hy⟩ := h.1 j x hj
      refine ⟨y, List.mem_cons_of_mem _ (List.mem_filter.mpr ⟨hm, ?_⟩), hy⟩
      simp [Value.category, Ne.symm e]
  · rw [List.getElem?_set] at hj
    split at hj
    · rename_i e
      subst e
      split at hj
      · cases Option.some.inj hj
        have hv : w = va_rf (o.map (ga Γ)) := hv
        rw [hv]
        exact List.mem_cons_self
      · cases hj
    · rename_i e
      refine List.mem_cons_of_mem _ (List.mem_filter.mpr ⟨h.2 j o hj, ?_⟩)
      cases o <;> simp [Value.category, va_rf, Ne.symm e]
end GLEM

section GROW
def gadd (a b : Int) : Int := (Int32.ofInt a + Int32.ofInt b).toInt
def gsub (a b : Int) : Int := (Int32.ofInt a - Int32.ofInt b).toInt
def gmul (a b : Int) : Int := (Int32.ofInt a * Int32.ofInt b).toInt
def gand (a b : Int) : Int := (Int32.ofInt a &&& Int32.ofInt b).toInt
def gor (a b : Int) : Int := (Int32.ofInt a ||| Int32.ofInt b).toInt
def gxor (a b : Int) : Int := (Int32.ofInt a ^^^ Int32.ofInt b).toInt
def gshl (a b : Int) : Int := (Int32.ofInt a <<< (Int32.ofInt b &&& 31)).toInt
def gshr (a b : Int) : Int := (Int32.ofInt a >>> (Int32.ofInt b &&& 31)).toInt
def gdiv (a b : Int) : Int := (Int32.ofInt a / Int32.ofInt b).toInt
def grem (a b : Int) : Int := (Int32.ofInt a - Int32.ofInt a / Int32.ofInt b * Int32.ofInt b).toInt
def gcmp (a b : Int) : Int := if b < a then 1 else if a = b then 0 else -1
variable {π : gP} {mi : gM} {pc : Nat} {loc stk : List gV} {h : gH} {mc ms : Nat} {Q : Option (Option gV) → gH → Prop}
theorem g_iadd {a b : Int} (hd : decode mi.2.1 pc = .ok (.iadd, 1)) (k : G π mi (pc + 1) loc (gI (gadd a b) :: stk) h mc ms Q) : G π mi pc loc (gI b :: gI a :: stk) h mc ms Q := by
  intro Γ p e R s m args below meth c QE H locs cells slots ls st hC hE hH hl hs hS h1 h2
  obtain ⟨y, st, e9, hy, hs9⟩ := gs_int hs; subst e9; clear hs; have hs := hs9; clear hs9
  obtain ⟨x, st, e9, hx, hs9⟩ := gs_int hs; subst e9; clear hs; have hs := hs9; clear hs9
  exact lv_iadd hC.1 hC.2.1 hd (k Γ p e R s m args below meth c QE H locs cells slots ls _ hC hE hH hl ⟨⟨_, rfl, by rw [← hx, ← hy]; simp only [gadd, Int32.ofInt_toInt]⟩, hs⟩ hS h1 h2)
theorem g_isub {a b : Int} (hd : decode mi.2.1 pc = .ok (.isub, 1)) (k : G π mi (pc + 1) loc (gI (gsub a b) :: stk) h mc ms Q) : G π mi pc loc (gI b :: gI a :: stk) h mc ms Q := by
  intro Γ p e R s m args below meth c QE H locs cells slots ls st hC hE hH hl hs hS h1 h2
  obtain ⟨y, st, e9, hy, hs9⟩ := gs_int hs; subst e9; clear hs; have hs := hs9; clear hs9
  obtain ⟨x, st, e9, hx, hs9⟩ := gs_int hs; subst e9; clear hs; have hs := hs9; clear hs9
  exact lv_isub hC.1 hC.2.1 hd (k Γ p e R s m args below meth c QE H locs cells slots ls _ hC hE hH hl ⟨⟨_, rfl, by rw [← hx, ← hy]; simp only [gsub, Int32.ofInt_toInt]⟩, hs⟩ hS h1 h2)
theorem g_imul {a b : Int} (hd : decode mi.2.1 pc = .ok (.imul, 1)) (k : G π mi (pc + 1) loc (gI (gmul a b) :: stk) h mc ms Q) : G π mi pc loc (gI b :: gI a :: stk) h mc ms Q := by
  intro Γ p e R s m args below meth c QE H locs cells slots ls st hC hE hH hl hs hS h1 h2
  obtain ⟨y, st, e9, hy, hs9⟩ := gs_int hs; subst e9; clear hs; have hs := hs9; clear hs9
  obtain ⟨x, st, e9, hx, hs9⟩ := gs_int hs; subst e9; clear hs; have hs := hs9; clear hs9
  exact lv_imul hC.1 hC.2.1 hd (k Γ p e R s m args below meth c QE H locs cells slots ls _ hC hE hH hl ⟨⟨_, rfl, by rw [← hx, ← hy]; simp only [gmul, Int32.ofInt_toInt]⟩, hs⟩ hS h1 h2)
theorem g_iand {a b : Int} (hd : decode mi.2.1 pc = .ok (.iand, 1)) (k : G π mi (pc + 1) loc (gI (gand a b) :: stk) h mc ms Q) : G π mi pc loc (gI b :: gI a :: stk) h mc ms Q := by
  intro Γ p e R s m args below meth c QE H locs cells slots ls st hC hE hH hl hs hS h1 h2
  obtain ⟨y, st, e9, hy, hs9⟩ := gs_int hs; subst e9; clear hs; have hs := hs9; clear hs9
  obtain ⟨x, st, e9, hx, hs9⟩ := gs_int hs; subst e9; clear hs; have hs := hs9; clear hs9
  exact lv_iand hC.1 hC.2.1 hd (k Γ p e R s m args below meth c QE H locs cells slots ls _ hC hE hH hl ⟨⟨_, rfl, by rw [← hx, ← hy]; simp only [gand, Int32.ofInt_toInt]⟩, hs⟩ hS h1 h2)
theorem g_ior {a b : Int} (hd : decode mi.2.1 pc = .ok (.ior, 1)) (k : G π mi (pc + 1) loc (gI (gor a b) :: stk) h mc ms Q) : G π mi pc loc (gI b :: gI a :: stk) h mc ms Q := by
  intro Γ p e R s m args below meth c QE H locs cells slots ls st hC hE hH hl hs hS h1 h2
  obtain ⟨y, st, e9, hy, hs9⟩ := gs_int hs; subst e9; clear hs; have hs := hs9; clear hs9
  obtain ⟨x, st, e9, hx, hs9⟩ := gs_int hs; subst e9; clear hs; have hs := hs9; clear hs9
  exact lv_ior hC.1 hC.2.1 hd (k Γ p e R s m args below meth c QE H locs cells slots ls _ hC hE hH hl ⟨⟨_, rfl, by rw [← hx, ← hy]; simp only [gor, Int32.ofInt_toInt]⟩, hs⟩ hS h1 h2)
theorem g_ixor {a b : Int} (hd : decode mi.2.1 pc = .ok (.ixor, 1)) (k : G π mi (pc + 1) loc (gI (gxor a b) :: stk) h mc ms Q) : G π mi pc loc (gI b :: gI a :: stk) h mc ms Q := by
  intro Γ p e R s m args below meth c QE H locs cells slots ls st hC hE hH hl hs hS h1 h2
  obtain ⟨y, st, e9, hy, hs9⟩ := gs_int hs; subst e9; clear hs; have hs := hs9; clear hs9
  obtain ⟨x, st, e9, hx, hs9⟩ := gs_int hs; subst e9; clear hs; have hs := hs9; clear hs9
  exact lv_ixor hC.1 hC.2.1 hd (k Γ p e R s m args below meth c QE H locs cells slots ls _ hC hE hH hl ⟨⟨_, rfl, by rw [← hx, ← hy]; simp only [gxor, Int32.ofInt_toInt]⟩, hs⟩ hS h1 h2)
theorem g_ishl {a b : Int} (hd : decode mi.2.1 pc = .ok (.ishl, 1)) (k : G π mi (pc + 1) loc (gI (gshl a b) :: stk) h mc ms Q) : G π mi pc loc (gI b :: gI a :: stk) h mc ms Q := by
  intro Γ p e R s m args below meth c QE H locs cells slots ls st hC hE hH hl hs hS h1 h2
  obtain ⟨y, st, e9, hy, hs9⟩ := gs_int hs; subst e9; clear hs; have hs := hs9; clear hs9
  obtain ⟨x, st, e9, hx, hs9⟩ := gs_int hs; subst e9; clear hs; have hs := hs9; clear hs9
  exact lv_ishl hC.1 hC.2.1 hd (k Γ p e R s m args below meth c QE H locs cells slots ls _ hC hE hH hl ⟨⟨_, rfl, by rw [← hx, ← hy]; simp only [gshl, Int32.ofInt_toInt]⟩, hs⟩ hS h1 h2)
theorem g_ishr {a b : Int} (hd : decode mi.2.1 pc = .ok (.ishr, 1)) (k : G π mi (pc + 1) loc (gI (gshr a b) :: stk) h mc ms Q) : G π mi pc loc (gI b :: gI a :: stk) h mc ms Q := by
  intro Γ p e R s m args below meth c QE H locs cells slots ls st hC hE hH hl hs hS h1 h2
  obtain ⟨y, st, e9, hy, hs9⟩ := gs_int hs; subst e9; clear hs; have hs := hs9; clear hs9
  obtain ⟨x, st, e9, hx, hs9⟩ := gs_int hs; subst e9; clear hs; have hs := hs9; clear hs9
  exact lv_ishr hC.1 hC.2.1 hd (k Γ p e R s m args below meth c QE H locs cells slots ls _ hC hE hH hl ⟨⟨_, rfl, by rw [← hx, ← hy]; simp only [gshr, Int32.ofInt_toInt]⟩, hs⟩ hS h1 h2)
theorem g_idiv {a b : Int} (hd : decode mi.2.1 pc = .ok (.idiv, 1)) (hne : b ≠ 0) (k : G π mi (pc + 1) loc (gI (gdiv a b) :: stk) h mc ms Q) : G π mi pc loc (gI b :: gI a :: stk) h mc ms Q := by
  intro Γ p e R s m args below meth c QE H locs cells slots ls st hC hE hH hl hs hS h1 h2
  obtain ⟨y, st, e9, hy, hs9⟩ := gs_int hs; subst e9; clear hs; have hs := hs9; clear hs9
  obtain ⟨x, st, e9, hx, hs9⟩ := gs_int hs; subst e9; clear hs; have hs := hs9; clear hs9
  exact lv_idiv hC.1 hC.2.1 hd (fun z => hne (by rw [← hy, z]; rfl)) (k Γ p e R s m args below meth c QE H locs cells slots ls _ hC hE hH hl ⟨⟨_, rfl, by rw [← hx, ← hy]; simp only [gdiv, Int32.ofInt_toInt]⟩, hs⟩ hS h1 h2)
theorem g_irem {a b : Int} (hd : decode mi.2.1 pc = .ok (.irem, 1)) (hne : b ≠ 0) (k : G π mi (pc + 1) loc (gI (grem a b) :: stk) h mc ms Q) : G π mi pc loc (gI b :: gI a :: stk) h mc ms Q := by
  intro Γ p e R s m args below meth c QE H locs cells slots ls st hC hE hH hl hs hS h1 h2
  obtain ⟨y, st, e9, hy, hs9⟩ := gs_int hs; subst e9; clear hs; have hs := hs9; clear hs9
  obtain ⟨x, st, e9, hx, hs9⟩ := gs_int hs; subst e9; clear hs; have hs := hs9; clear hs9
  exact lv_irem hC.1 hC.2.1 hd (fun z => hne (by rw [← hy, z]; rfl)) (k Γ p e R s m args below meth c QE H locs cells slots ls _ hC hE hH hl ⟨⟨_, rfl, by rw [← hx, ← hy]; simp only [grem, Int32.ofInt_toInt]⟩, hs⟩ hS h1 h2)
theorem g_iconst {n x : Int} (hd : decode mi.2.1 pc = .ok (.iconst n, 1)) (hv : (Int32.ofInt n).toInt = x) (k : G π mi (pc + 1) loc (gI x :: stk) h mc ms Q) : G π mi pc loc stk h mc ms Q := by
  intro Γ p e R s m args below meth c QE H locs cells slots ls st hC hE hH hl hs hS h1 h2
  exact lv_iconst hC.1 hC.2.1 hd rfl (k Γ p e R s m args below meth c QE H locs cells slots ls _ hC hE hH hl ⟨⟨_, rfl, hv⟩, hs⟩ hS h1 h2)
theorem g_bipush {n x : Int} (hd : decode mi.2.1 pc = .ok (.bipush n, 2)) (hv : ((Int8.ofInt n).toInt32).toInt = x) (k : G π mi (pc + 2) loc (gI x :: stk) h mc ms Q) : G π mi pc loc stk h mc ms Q := by
  intro Γ p e R s m args below meth c QE H locs cells slots ls st hC hE hH hl hs hS h1 h2
  exact lv_bipush hC.1 hC.2.1 hd rfl (k Γ p e R s m args below meth c QE H locs cells slots ls _ hC hE hH hl ⟨⟨_, rfl, hv⟩, hs⟩ hS h1 h2)
theorem g_sipush {n x : Int} (hd : decode mi.2.1 pc = .ok (.sipush n, 3)) (hv : ((Int16.ofInt n).toInt32).toInt = x) (k : G π mi (pc + 3) loc (gI x :: stk) h mc ms Q) : G π mi pc loc stk h mc ms Q := by
  intro Γ p e R s m args below meth c QE H locs cells slots ls st hC hE hH hl hs hS h1 h2
  exact lv_sipush hC.1 hC.2.1 hd rfl (k Γ p e R s m args below meth c QE H locs cells slots ls _ hC hE hH hl ⟨⟨_, rfl, hv⟩, hs⟩ hS h1 h2)
theorem g_null (hd : decode mi.2.1 pc = .ok (.aconst_null, 1)) (k : G π mi (pc + 1) loc (gR none :: stk) h mc ms Q) : G π mi pc loc stk h mc ms Q := by
  intro Γ p e R s m args below meth c QE H locs cells slots ls st hC hE hH hl hs hS h1 h2
  exact lv_null hC.1 hC.2.1 hd (k Γ p e R s m args below meth c QE H locs cells slots ls _ hC hE hH hl ⟨rfl, hs⟩ hS h1 h2)
theorem g_lconst {n : Fin 2} {x : Int} (hd : decode mi.2.1 pc = .ok (.lconst n, 1)) (hv : (Int64.ofNat (n : Nat)).toInt = x) (k : G π mi (pc + 1) loc (gL x :: stk) h mc ms Q) : G π mi pc loc stk h mc ms Q := by
  intro Γ p e R s m args below meth c QE H locs cells slots ls st hC hE hH hl hs hS h1 h2
  exact lv_lconst hC.1 hC.2.1 hd rfl (k Γ p e R s m args below meth c QE H locs cells slots ls _ hC hE hH hl ⟨⟨_, rfl, hv⟩, hs⟩ hS h1 h2)
theorem g_i2l {a : Int} (hd : decode mi.2.1 pc = .ok (.i2l, 1)) (k : G π mi (pc + 1) loc (gL a :: stk) h mc ms Q) : G π mi pc loc (gI a :: stk) h mc ms Q := by
  intro Γ p e R s m args below meth c QE H locs cells slots ls st hC hE hH hl hs hS h1 h2
  obtain ⟨y, st, e9, hy, hs9⟩ := gs_int hs; subst e9; clear hs; have hs := hs9; clear hs9
  exact lv_i2l hC.1 hC.2.1 hd rfl (k Γ p e R s m args below meth c QE H locs cells slots ls _ hC hE hH hl ⟨⟨_, rfl, by rw [Int32.toInt_toInt64]; exact hy⟩, hs⟩ hS h1 h2)
theorem g_lcmp {a b : Int} (hd : decode mi.2.1 pc = .ok (.lcmp, 1)) (k : G π mi (pc + 1) loc (gI (gcmp a b) :: stk) h mc ms Q) : G π mi pc loc (gL b :: gL a :: stk) h mc ms Q := by
  intro Γ p e R s m args below meth c QE H locs cells slots ls st hC hE hH hl hs hS h1 h2
  obtain ⟨y, st, e9, hy, hs9⟩ := gs_long hs; subst e9; clear hs; have hs := hs9; clear hs9
  obtain ⟨x, st, e9, hx, hs9⟩ := gs_long hs; subst e9; clear hs; have hs := hs9; clear hs9
  refine W.lcmp hC.1 hC.2.1 hd (k Γ p e R s m args below meth c QE H locs cells slots ls _ hC hE hH hl ⟨⟨_, rfl, ?_⟩, hs⟩ hS h1 h2)
  rw [← hx, ← hy]
  unfold lg_cmp gcmp
  simp only [gt_iff_lt, Int64.lt_iff_toInt_lt, ← Int64.toInt_inj]
  split
  · rfl
  · split <;> rfl
theorem g_iload_n {k : Fin 4} {i : Nat} {x : Int} (hd : decode mi.2.1 pc = .ok (.iload_n k, 1)) (hi : (k : Nat) = i) (hx : loc[i]? = some (gI x)) (kk : G π mi (pc + 1) loc (gI x :: stk) h mc ms Q) : G π mi pc loc stk h mc ms Q := by
  intro Γ p e R s m args below meth c QE H locs cells slots ls st hC hE hH hl hs hS h1 h2
  obtain ⟨lv, v1, v2, v3⟩ := id hl
  obtain ⟨y, hm, hy⟩ := v2 i x hx
  exact lv_iload_n hC.1 hC.2.1 hd hi (v1.2.2 _ hm) (kk Γ p e R s m args below meth c QE H locs cells slots ls _ hC hE hH hl ⟨⟨_, rfl, hy⟩, hs⟩ hS h1 h2)
theorem g_iload {i : Nat} {x : Int} (hd : decode mi.2.1 pc = .ok (.iload i, 2)) (hx : loc[i]? = some (gI x)) (kk : G π mi (pc + 2) loc (gI x :: stk) h mc ms Q) : G π mi pc loc stk h mc ms Q := by
  intro Γ p e R s m args below meth c QE H locs cells slots ls st hC hE hH hl hs hS h1 h2
  obtain ⟨lv, v1, v2, v3⟩ := id hl
  obtain ⟨y, hm, hy⟩ := v2 i x hx
  exact lv_iload hC.1 hC.2.1 hd (v1.2.2 _ hm) (kk Γ p e R s m args below meth c QE H locs cells slots ls _ hC hE hH hl ⟨⟨_, rfl, hy⟩, hs⟩ hS h1 h2)
theorem g_aload_n {k : Fin 4} {i : Nat} {o : Option Nat} (hd : decode mi.2.1 pc = .ok (.aload_n k, 1)) (hi : (k : Nat) = i) (hx : loc[i]? = some (gR o)) (kk : G π mi (pc + 1) loc (gR o :: stk) h mc ms Q) : G π mi pc loc stk h mc ms Q := by
  intro Γ p e R s m args below meth c QE H locs cells slots ls st hC hE hH hl hs hS h1 h2
  obtain ⟨lv, v1, v2, v3⟩ := id hl
  have hm := v1.2.2 _ (v3 i o hx)
  have k9 := kk Γ p e R s m args below meth c QE H locs cells slots ls (va_rf (o.map (ga Γ)) :: st) hC hE hH hl ⟨rfl, hs⟩ hS h1 h2
  cases o with
  | none => exact lv_aload_nN hC.1 hC.2.1 hd hi hm k9
  | some n => exact lv_aload_n hC.1 hC.2.1 hd hi hm k9
theorem g_aload {i : Nat} {o : Option Nat} (hd : decode mi.2.1 pc = .ok (.aload i, 2)) (hx : loc[i]? = some (gR o)) (kk : G π mi (pc + 2) loc (gR o :: stk) h mc ms Q) : G π mi pc loc stk h mc ms Q := by
  intro Γ p e R s m args below meth c QE H locs cells slots ls st hC hE hH hl hs hS h1 h2
  obtain ⟨lv, v1, v2, v3⟩ := id hl
  have hm := v1.2.2 _ (v3 i o hx)
  have k9 := kk Γ p e R s m args below meth c QE H locs cells slots ls (va_rf (o.map (ga Γ)) :: st) hC hE hH hl ⟨rfl, hs⟩ hS h1 h2
  cases o with
  | none => exact lv_aloadN hC.1 hC.2.1 hd hm k9
  | some n => exact lv_aload hC.1 hC.2.1 hd hm k9
theorem g_istore_n {k : Fin 4} {i : Nat} {x : Int} (hd : decode mi.2.1 pc = .ok (.istore_n k, 1)) (hi : (k : Nat) = i) (hn : i < mi.2.2.1) (kk : G π mi (pc + 1) (loc.set i (gI x)) stk h mc ms Q) : G π mi pc loc (gI x :: stk) h mc ms Q := by
  intro Γ p e R s m args below meth c QE H locs cells slots ls st hC hE hH hl hs hS h1 h2
  obtain ⟨y, st, e9, hy, hs9⟩ := gs_int hs; subst e9; clear hs; have hs := hs9; clear hs9
  obtain ⟨lv, v1, v2⟩ := hl
  exact lv_istore_n hC.1 hC.2.1 hd hi v1 hn rfl fun ls' h9 => kk Γ p e R s m args below meth c QE H locs cells slots ls' _ hC hE hH (gl_set v2 h9 ⟨_, rfl, hy⟩) hs hS h1 h2
theorem g_istore {i : Nat} {x : Int} (hd : decode mi.2.1 pc = .ok (.istore i, 2)) (hn : i < mi.2.2.1) (kk : G π mi (pc + 2) (loc.set i (gI x)) stk h mc ms Q) : G π mi pc loc (gI x :: stk) h mc ms Q := by
  intro Γ p e R s m args below meth c QE H locs cells slots ls st hC hE hH hl hs hS h1 h2
  obtain ⟨y, st, e9, hy, hs9⟩ := gs_int hs; subst e9; clear hs; have hs := hs9; clear hs9
  obtain ⟨lv, v1, v2⟩ := hl
  exact lv_istore hC.1 hC.2.1 hd v1 hn rfl fun ls' h9 => kk Γ p e R s m args below meth c QE H locs cells slots ls' _ hC hE hH (gl_set v2 h9 ⟨_, rfl, hy⟩) hs hS h1 h2
theorem g_astore_n {k : Fin 4} {i : Nat} {o : Option Nat} (hd : decode mi.2.1 pc = .ok (.astore_n k, 1)) (hi : (k : Nat) = i) (hn : i < mi.2.2.1) (kk : G π mi (pc + 1) (loc.set i (gR o)) stk h mc ms Q) : G π mi pc loc (gR o :: stk) h mc ms Q := by
  intro Γ p e R s m args below meth c QE H locs cells slots ls st hC hE hH hl hs hS h1 h2
  obtain ⟨st, e9, hs9⟩ := gs_ref hs; subst e9; clear hs; have hs := hs9; clear hs9
  obtain ⟨lv, v1, v2⟩ := hl
  cases o with
  | none => exact lv_astore_nN hC.1 hC.2.1 hd hi v1 hn rfl fun ls' h9 => kk Γ p e R s m args below meth c QE H locs cells slots ls' _ hC hE hH (gl_set v2 h9 rfl) hs hS h1 h2
  | some n => exact lv_astore_n hC.1 hC.2.1 hd hi v1 hn rfl fun ls' h9 => kk Γ p e R s m args below meth c QE H locs cells slots ls' _ hC hE hH (gl_set v2 h9 rfl) hs hS h1 h2
theorem g_astore {i : Nat} {o : Option Nat} (hd : decode mi.2.1 pc = .ok (.astore i, 2)) (hn : i < mi.2.2.1) (kk : G π mi (pc + 2) (loc.set i (gR o)) stk h mc ms Q) : G π mi pc loc (gR o :: stk) h mc ms Q := by
  intro Γ p e R s m args below meth c QE H locs cells slots ls st hC hE hH hl hs hS h1 h2
  obtain ⟨st, e9, hs9⟩ := gs_ref hs; subst e9; clear hs; have hs := hs9; clear hs9
  obtain ⟨lv, v1, v2⟩ := hl
  cases o with
  | none => exact lv_astoreN hC.1 hC.2.1 hd v1 hn rfl fun ls' h9 => kk Γ p e R s m args below meth c QE H locs cells slots ls' _ hC hE hH (gl_set v2 h9 rfl) hs hS h1 h2
  | some n => exact lv_astore hC.1 hC.2.1 hd v1 hn rfl fun ls' h9 => kk Γ p e R s m args below meth c QE H locs cells slots ls' _ hC hE hH (gl_set v2 h9 rfl) hs hS h1 h2
theorem g_iinc {i : Nat} {n x : Int} (hd : decode mi.2.1 pc = .ok (.iinc i n, 3)) (hn : i < mi.2.2.1) (hx : loc[i]? = some (gI x)) (kk : G π mi (pc + 3) (loc.set i (gI (gadd x n))) stk h mc ms Q) : G π mi pc loc stk h mc ms Q := by
  intro Γ p e R s m args below meth c QE H locs cells slots ls st hC hE hH hl hs hS h1 h2
  obtain ⟨lv, v1, v2⟩ := hl
  obtain ⟨y, hm, hy⟩ := v2.1 i x hx
  obtain ⟨j, hj⟩ := List.mem_iff_getElem?.mp hm
  exact lv_iinc hC.1 hC.2.1 hd v1 hj rfl hn rfl fun ls' h9 => kk Γ p e R s m args below meth c QE H locs cells slots ls' _ hC hE hH (gl_set v2 h9 ⟨_, rfl, by rw [← hy]; simp only [gadd, Int32.ofInt_toInt]⟩) hs hS h1 h2
theorem g_dup {v : gV} (hv : (∃ x, v = gI x) ∨ ∃ o, v = gR o) (hd : decode mi.2.1 pc = .ok (.dup, 1)) (k : G π mi (pc + 1) loc (v :: v :: stk) h mc ms Q) : G π mi pc loc (v :: stk) h mc ms Q := by
  intro Γ p e R s m args below meth c QE H locs cells slots ls st hC hE hH hl hs hS h1 h2
  rcases hv with ⟨x, rfl⟩ | ⟨o, rfl⟩
  · obtain ⟨y, st, e9, hy, hs9⟩ := gs_int hs; subst e9; clear hs; have hs := hs9; clear hs9
    exact lv_dup hC.1 hC.2.1 hd rfl (k Γ p e R s m args below meth c QE H locs cells slots ls _ hC hE hH hl ⟨⟨_, rfl, hy⟩, ⟨_, rfl, hy⟩, hs⟩ hS h1 h2)
  · obtain ⟨st, e9, hs9⟩ := gs_ref hs; subst e9; clear hs; have hs := hs9; clear hs9
    exact lv_dup hC.1 hC.2.1 hd (by cases o <;> rfl) (k Γ p e R s m args below meth c QE H locs cells slots ls _ hC hE hH hl ⟨rfl, rfl, hs⟩ hS h1 h2)
theorem g_dup2 {x : Int} {o : Option Nat} (hd : decode mi.2.1 pc = .ok (.dup2, 1)) (k : G π mi (pc + 1) loc (gI x :: gR o :: gI x :: gR o :: stk) h mc ms Q) : G π mi pc loc (gI x :: gR o :: stk) h mc ms Q := by
  intro Γ p e R s m args below meth c QE H locs cells slots ls st hC hE hH hl hs hS h1 h2
  obtain ⟨y, st, e9, hy, hs9⟩ := gs_int hs; subst e9; clear hs; have hs := hs9; clear hs9
  obtain ⟨st, e9, hs9⟩ := gs_ref hs; subst e9; clear hs; have hs := hs9; clear hs9
  exact lv_dup2_11 hC.1 hC.2.1 hd rfl (by cases o <;> rfl) (k Γ p e R s m args below meth c QE H locs cells slots ls _ hC hE hH hl ⟨⟨_, rfl, hy⟩, rfl, ⟨_, rfl, hy⟩, rfl, hs⟩ hS h1 h2)
theorem g_goto {off : Int} {tgt : Nat} (hd : decode mi.2.1 pc = .ok (.goto off, 3)) (ht : (pc : Int) + off = (tgt : Int)) (k : G π mi tgt loc stk h mc ms Q) : G π mi pc loc stk h mc ms Q := by
  intro Γ p e R s m args below meth c QE H locs cells slots ls st hC hE hH hl hs hS h1 h2
  exact lv_goto hC.1 hC.2.1 hd ht (k Γ p e R s m args below meth c QE H locs cells slots ls _ hC hE hH hl hs hS h1 h2)
theorem g_icmp_eq {a b off : Int} {tgt : Nat} (hd : decode mi.2.1 pc = .ok (.if_icmp .eq off, 3)) (ht : (pc : Int) + off = (tgt : Int)) (kt : a = b → G π mi tgt loc stk h mc ms Q) (kf : a ≠ b → G π mi (pc + 3) loc stk h mc ms Q) : G π mi pc loc (gI b :: gI a :: stk) h mc ms Q := by
  intro Γ p e R s m args below meth c QE H locs cells slots ls st hC hE hH hl hs hS h1 h2
  obtain ⟨y, st, e9, hy, hs9⟩ := gs_int hs; subst e9; clear hs; have hs := hs9; clear hs9
  obtain ⟨x, st, e9, hx, hs9⟩ := gs_int hs; subst e9; clear hs; have hs := hs9; clear hs9
  refine lv_icmp_eq hC.1 hC.2.1 hd ht (fun z => (kt ?_ Γ p e R s m args below meth c QE H locs cells slots ls _ hC hE hH hl hs hS h1 h2)) (fun z => (kf ?_ Γ p e R s m args below meth c QE H locs cells slots ls _ hC hE hH hl hs hS h1 h2))
  · simp only [Int32.lt_iff_toInt_lt, Int32.le_iff_toInt_le, ← Int32.toInt_inj] at z
    omega
  · simp only [Int32.lt_iff_toInt_lt, Int32.le_iff_toInt_le, ← Int32.toInt_inj] at z
    omega
theorem g_icmp_ne {a b off : Int} {tgt : Nat} (hd : decode mi.2.1 pc = .ok (.if_icmp .ne off, 3)) (ht : (pc : Int) + off = (tgt : Int)) (kt : a ≠ b → G π mi tgt loc stk h mc ms Q) (kf : a = b → G π mi (pc + 3) loc stk h mc ms Q) : G π mi pc loc (gI b :: gI a :: stk) h mc ms Q := by
  intro Γ p e R s m args below meth c QE H locs cells slots ls st hC hE hH hl hs hS h1 h2
  obtain ⟨y, st, e9, hy, hs9⟩ := gs_int hs; subst e9; clear hs; have hs := hs9; clear hs9
  obtain ⟨x, st, e9, hx, hs9⟩ := gs_int hs; subst e9; clear hs; have hs := hs9; clear hs9
  refine lv_icmp_ne hC.1 hC.2.1 hd ht (fun z => (kt ?_ Γ p e R s m args below meth c QE H locs cells slots ls _ hC hE hH hl hs hS h1 h2)) (fun z => (kf ?_ Γ p e R s m args below meth c QE H locs cells slots ls _ hC hE hH hl hs hS h1 h2))
  · simp only [Int32.lt_iff_toInt_lt, Int32.le_iff_toInt_le, ← Int32.toInt_inj] at z
    omega
  · simp only [Int32.lt_iff_toInt_lt, Int32.le_iff_toInt_le, ← Int32.toInt_inj] at z
    omega
theorem g_icmp_lt {a b off : Int} {tgt : Nat} (hd : decode mi.2.1 pc = .ok (.if_icmp .lt off, 3)) (ht : (pc : Int) + off = (tgt : Int)) (kt : a < b → G π mi tgt loc stk h mc ms Q) (kf : b ≤ a → G π mi (pc + 3) loc stk h mc ms Q) : G π mi pc loc (gI b :: gI a :: stk) h mc ms Q := by
  intro Γ p e R s m args below meth c QE H locs cells slots ls st hC hE hH hl hs hS h1 h2
  obtain ⟨y, st, e9, hy, hs9⟩ := gs_int hs; subst e9; clear hs; have hs := hs9; clear hs9
  obtain ⟨x, st, e9, hx, hs9⟩ := gs_int hs; subst e9; clear hs; have hs := hs9; clear hs9
  refine lv_icmp_lt hC.1 hC.2.1 hd ht (fun z => (kt ?_ Γ p e R s m args below meth c QE H locs cells slots ls _ hC hE hH hl hs hS h1 h2)) (fun z => (kf ?_ Γ p e R s m args below meth c QE H locs cells slots ls _ hC hE hH hl hs hS h1 h2))
  · simp only [Int32.lt_iff_toInt_lt, Int32.le_iff_toInt_le, ← Int32.toInt_inj] at z
    omega
  · simp only [Int32.lt_iff_toInt_lt, Int32.le_iff_toInt_le, ← Int32.toInt_inj] at z
    omega
theorem g_icmp_ge {a b off : Int} {tgt : Nat} (hd : decode mi.2.1 pc = .ok (.if_icmp .ge off, 3)) (ht : (pc : Int) + off = (tgt : Int)) (kt : b ≤ a → G π mi tgt loc stk h mc ms Q) (kf : a < b → G π mi (pc + 3) loc stk h mc ms Q) : G π mi pc loc (gI b :: gI a :: stk) h mc ms Q := by
  intro Γ p e R s m args below meth c QE H locs cells slots ls st hC hE hH hl hs hS h1 h2
  obtain ⟨y, st, e9, hy, hs9⟩ := gs_int hs; subst e9; clear hs; have hs := hs9; clear hs9
  obtain ⟨x, st, e9, hx, hs9⟩ := gs_int hs; subst e9; clear hs; have hs := hs9; clear hs9
  refine lv_icmp_ge hC.1 hC.2.1 hd ht (fun z => (kt ?_ Γ p e R s m args below meth c QE H locs cells slots ls _ hC hE hH hl hs hS h1 h2)) (fun z => (kf ?_ Γ p e R s m args below meth c QE H locs cells slots ls _ hC hE hH hl hs hS h1 h2))
  · simp only [Int32.lt_iff_toInt_lt, Int32.le_iff_toInt_le, ← Int32.toInt_inj] at z
    omega
  · simp only [Int32.lt_iff_toInt_lt, Int32.le_iff_toInt_le, ← Int32.toInt_inj] at z
    omega
theorem g_icmp_gt {a b off : Int} {tgt : Nat} (hd : decode mi.2.1 pc = .ok (.if_icmp .gt off, 3)) (ht : (pc : Int) + off = (tgt : Int)) (kt : b < a → G π mi tgt loc stk h mc ms Q) (kf : a ≤ b → G π mi (pc + 3) loc stk h mc ms Q) : G π mi pc loc (gI b :: gI a :: stk) h mc ms Q := by
  intro Γ p e R s m args below meth c QE H locs cells slots ls st hC hE hH hl hs hS h1 h2
  obtain ⟨y, st, e9, hy, hs9⟩ := gs_int hs; subst e9; clear hs; have hs := hs9; clear hs9
  obtain ⟨x, st, e9, hx, hs9⟩ := gs_int hs; subst e9; clear hs; have hs := hs9; clear hs9
  refine lv_icmp_gt hC.1 hC.2.1 hd ht (fun z => (kt ?_ Γ p e R s m args below meth c QE H locs cells slots ls _ hC hE hH hl hs hS h1 h2)) (fun z => (kf ?_ Γ p e R s m args below meth c QE H locs cells slots ls _ hC hE hH hl hs hS h1 h2))
  · simp only [Int32.lt_iff_toInt_lt, Int32.le_iff_toInt_le, ← Int32.toInt_inj] at z
    omega
  · simp only [Int32.lt_iff_toInt_lt, Int32.le_iff_toInt_le, ← Int32.toInt_inj] at z
    omega
theorem g_icmp_le {a b off : Int} {tgt : Nat} (hd : decode mi.2.1 pc = .ok (.if_icmp .le off, 3)) (ht : (pc : Int) + off = (tgt : Int)) (kt : a ≤ b → G π mi tgt loc stk h mc ms Q) (kf : b < a → G π mi (pc + 3) loc stk h mc ms Q) : G π mi pc loc (gI b :: gI a :: stk) h mc ms Q := by
  intro Γ p e R s m args below meth c QE H locs cells slots ls st hC hE hH hl hs hS h1 h2
  obtain ⟨y, st, e9, hy, hs9⟩ := gs_int hs; subst e9; clear hs; have hs := hs9; clear hs9
  obtain ⟨x, st, e9, hx, hs9⟩ := gs_int hs; subst e9; clear hs; have hs := hs9; clear hs9
  refine lv_icmp_le hC.1 hC.2.1 hd ht (fun z => (kt ?_ Γ p e R s m args below meth c QE H locs cells slots ls _ hC hE hH hl hs hS h1 h2)) (fun z => (kf ?_ Γ p e R s m args below meth c QE H locs cells slots ls _ hC hE hH hl hs hS h1 h2))
  · simp only [Int32.lt_iff_toInt_lt, Int32.le_iff_toInt_le, ← Int32.toInt_inj] at z
    omega
  · simp only [Int32.lt_iff_toInt_lt, Int32.le_iff_toInt_le, ← Int32.toInt_inj] at z
    omega
theorem g_zero : (0 : Int32).toInt = 0 := rfl
theorem g_if_eq {a off : Int} {tgt : Nat} (hd : decode mi.2.1 pc = .ok (.ifCond .eq off, 3)) (ht : (pc : Int) + off = (tgt : Int)) (kt : a = 0 → G π mi tgt loc stk h mc ms Q) (kf : a ≠ 0 → G π mi (pc + 3) loc stk h mc ms Q) : G π mi pc loc (gI a :: stk) h mc ms Q := by
  intro Γ p e R s m args below meth c QE H locs cells slots ls st hC hE hH hl hs hS h1 h2
  obtain ⟨x, st, e9, hx, hs9⟩ := gs_int hs; subst e9; clear hs; have hs := hs9; clear hs9
  refine lv_if_eq hC.1 hC.2.1 hd ht (fun z => (kt ?_ Γ p e R s m args below meth c QE H locs cells slots ls _ hC hE hH hl hs hS h1 h2)) (fun z => (kf ?_ Γ p e R s m args below meth c QE H locs cells slots ls _ hC hE hH hl hs hS h1 h2))
  · simp only [Int32.lt_iff_toInt_lt, Int32.le_iff_toInt_le, ← Int32.toInt_inj, g_zero] at z
    omega
  · simp only [Int32.lt_iff_toInt_lt, Int32.le_iff_toInt_le, ← Int32.toInt_inj, g_zero] at z
    omega
theorem g_if_ne {a off : Int} {tgt : Nat} (hd : decode mi.2.1 pc = .ok (.ifCond .ne off, 3)) (ht : (pc : Int) + off = (tgt : Int)) (kt : a ≠ 0 → G π mi tgt loc stk h mc ms Q) (kf : a = 0 → G π mi (pc + 3) loc stk h mc ms Q) : G π mi pc loc (gI a :: stk) h mc ms Q := by
  intro Γ p e R s m args below meth c QE H locs cells slots ls st hC hE hH hl hs hS h1 h2
  obtain ⟨x, st, e9, hx, hs9⟩ := gs_int hs; subst e9; clear hs; have hs := hs9; clear hs9
  refine lv_if_ne hC.1 hC.2.1 hd ht (fun z => (kt ?_ Γ p e R s m args below meth c QE H locs cells slots ls _ hC hE hH hl hs hS h1 h2)) (fun z => (kf ?_ Γ p e R s m args below meth c QE H locs cells slots ls _ hC hE hH hl hs hS h1 h2))
  · simp only [Int32.lt_iff_toInt_lt, Int32.le_iff_toInt_le, ← Int32.toInt_inj, g_zero] at z
    omega
  · simp only [Int32.lt_iff_toInt_lt, Int32.le_iff_toInt_le, ← Int32.toInt_inj, g_zero] at z
    omega
theorem g_if_lt {a off : Int} {tgt : Nat} (hd : decode mi.2.1 pc = .ok (.ifCond .lt off, 3)) (ht : (pc : Int) + off = (tgt : Int)) (kt : a < 0 → G π mi tgt loc stk h mc ms Q) (kf : 0 ≤ a → G π mi (pc + 3) loc stk h mc ms Q) : G π mi pc loc (gI a :: stk) h mc ms Q := by
  intro Γ p e R s m args below meth c QE H locs cells slots ls st hC hE hH hl hs hS h1 h2
  obtain ⟨x, st, e9, hx, hs9⟩ := gs_int hs; subst e9; clear hs; have hs := hs9; clear hs9
  refine lv_if_lt hC.1 hC.2.1 hd ht (fun z => (kt ?_ Γ p e R s m args below meth c QE H locs cells slots ls _ hC hE hH hl hs hS h1 h2)) (fun z => (kf ?_ Γ p e R s m args below meth c QE H locs cells slots ls _ hC hE hH hl hs hS h1 h2))
  · simp only [Int32.lt_iff_toInt_lt, Int32.le_iff_toInt_le, ← Int32.toInt_inj, g_zero] at z
    omega
  · simp only [Int32.lt_iff_toInt_lt, Int32.le_iff_toInt_le, ← Int32.toInt_inj, g_zero] at z
    omega
theorem g_if_ge {a off : Int} {tgt : Nat} (hd : decode mi.2.1 pc = .ok (.ifCond .ge off, 3)) (ht : (pc : Int) + off = (tgt : Int)) (kt : 0 ≤ a → G π mi tgt loc stk h mc ms Q) (kf : a < 0 → G π mi (pc + 3) loc stk h mc ms Q) : G π mi pc loc (gI a :: stk) h mc ms Q := by
  intro Γ p e R s m args below meth c QE H locs cells slots ls st hC hE hH hl hs hS h1 h2
  obtain ⟨x, st, e9, hx, hs9⟩ := gs_int hs; subst e9; clear hs; have hs := hs9; clear hs9
  refine lv_if_ge hC.1 hC.2.1 hd ht (fun z => (kt ?_ Γ p e R s m args below meth c QE H locs cells slots ls _ hC hE hH hl hs hS h1 h2)) (fun z => (kf ?_ Γ p e R s m args below meth c QE H locs cells slots ls _ hC hE hH hl hs hS h1 h2))
  · simp only [Int32.lt_iff_toInt_lt, Int32.le_iff_toInt_le, ← Int32.toInt_inj, g_zero] at z
    omega
  · simp only [Int32.lt_iff_toInt_lt, Int32.le_iff_toInt_le, ← Int32.toInt_inj, g_zero] at z
    omega
theorem g_if_gt {a off : Int} {tgt : Nat} (hd : decode mi.2.1 pc = .ok (.ifCond .gt off, 3)) (ht : (pc : Int) + off = (tgt : Int)) (kt : 0 < a → G π mi tgt loc stk h mc ms Q) (kf : a ≤ 0 → G π mi (pc + 3) loc stk h mc ms Q) : G π mi pc loc (gI a :: stk) h mc ms Q := by
  intro Γ p e R s m args below meth c QE H locs cells slots ls st hC hE hH hl hs hS h1 h2
  obtain ⟨x, st, e9, hx, hs9⟩ := gs_int hs; subst e9; clear hs; have hs := hs9; clear hs9
  refine lv_if_gt hC.1 hC.2.1 hd ht (fun z => (kt ?_ Γ p e R s m args below meth c QE H locs cells slots ls _ hC hE hH hl hs hS h1 h2)) (fun z => (kf ?_ Γ p e R s m args below meth c QE H locs cells slots ls _ hC hE hH hl hs hS h1 h2))
  · simp only [Int32.lt_iff_toInt_lt, Int32.le_iff_toInt_le, ← Int32.toInt_inj, g_zero] at z
    omega
  · simp only [Int32.lt_iff_toInt_lt, Int32.le_iff_toInt_le, ← Int32.toInt_inj, g_zero] at z
    omega
theorem g_if_le {a off : Int} {tgt : Nat} (hd : decode mi.2.1 pc = .ok (.ifCond .le off, 3)) (ht : (pc : Int) + off = (tgt : Int)) (kt : a ≤ 0 → G π mi tgt loc stk h mc ms Q) (kf : 0 < a → G π mi (pc + 3) loc stk h mc ms Q) : G π mi pc loc (gI a :: stk) h mc ms Q := by
  intro Γ p e R s m args below meth c QE H locs cells slots ls st hC hE hH hl hs hS h1 h2
  obtain ⟨x, st, e9, hx, hs9⟩ := gs_int hs; subst e9; clear hs; have hs := hs9; clear hs9
  refine lv_if_le hC.1 hC.2.1 hd ht (fun z => (kt ?_ Γ p e R s m args below meth c QE H locs cells slots ls _ hC hE hH hl hs hS h1 h2)) (fun z => (kf ?_ Γ p e R s m args below meth c QE H locs cells slots ls _ hC hE hH hl hs hS h1 h2))
  · simp only [Int32.lt_iff_toInt_lt, Int32.le_iff_toInt_le, ← Int32.toInt_inj, g_zero] at z
    omega
  · simp only [Int32.lt_iff_toInt_lt, Int32.le_iff_toInt_le, ← Int32.toInt_inj, g_zero] at z
    omega
theorem g_ifnull {o : Option Nat} {off : Int} {tgt : Nat} (hd : decode mi.2.1 pc = .ok (.ifnull off, 3)) (ht : (pc : Int) + off = (tgt : Int)) (kt : o = none → G π mi tgt loc stk h mc ms Q) (kf : ∀ n, o = some n → G π mi (pc + 3) loc stk h mc ms Q) : G π mi pc loc (gR o :: stk) h mc ms Q := by
  intro Γ p e R s m args below meth c QE H locs cells slots ls st hC hE hH hl hs hS h1 h2
  obtain ⟨st, e9, hs9⟩ := gs_ref hs; subst e9; clear hs; have hs := hs9; clear hs9
  cases o with
  | none => exact lv_ifnullN hC.1 hC.2.1 hd ht (kt rfl Γ p e R s m args below meth c QE H locs cells slots ls _ hC hE hH hl hs hS h1 h2)
  | some n => exact lv_ifnull hC.1 hC.2.1 hd (kf n rfl Γ p e R s m args below meth c QE H locs cells slots ls _ hC hE hH hl hs hS h1 h2)
theorem g_ifnonnull {o : Option Nat} {off : Int} {tgt : Nat} (hd : decode mi.2.1 pc = .ok (.ifnonnull off, 3)) (ht : (pc : Int) + off = (tgt : Int)) (kt : ∀ n, o = some n → G π mi tgt loc stk h mc ms Q) (kf : o = none → G π mi (pc + 3) loc stk h mc ms Q) : G π mi pc loc (gR o :: stk) h mc ms Q := by
  intro Γ p e R s m args below meth c QE H locs cells slots ls st hC hE hH hl hs hS h1 h2
  obtain ⟨st, e9, hs9⟩ := gs_ref hs; subst e9; clear hs; have hs := hs9; clear hs9
  cases o with
  | none => exact lv_ifnonnullN hC.1 hC.2.1 hd (kf rfl Γ p e R s m args below meth c QE H locs cells slots ls _ hC hE hH hl hs hS h1 h2)
  | some n => exact lv_ifnonnull hC.1 hC.2.1 hd ht (kt n rfl Γ p e R s m args below meth c QE H locs cells slots ls _ hC hE hH hl hs hS h1 h2)
theorem ga_opt {Γ : gE} {a b : Option Nat} (h0 : Γ.2.2.1 ≤ Γ.2.2.2) (h : a.map (ga Γ) = b.map (ga Γ)) : a = b := by
  cases a <;> cases b <;> simp at h ⊢
  exact ga_inj h0 h
theorem g_acmp_eq {a b : Option Nat} {off : Int} {tgt : Nat} (hd : decode mi.2.1 pc = .ok (.if_acmp .eq off, 3)) (ht : (pc : Int) + off = (tgt : Int)) (kt : a = b → G π mi tgt loc stk h mc ms Q) (kf : a ≠ b → G π mi (pc + 3) loc stk h mc ms Q) : G π mi pc loc (gR b :: gR a :: stk) h mc ms Q := by
  intro Γ p e R s m args below meth c QE H locs cells slots ls st hC hE hH hl hs hS h1 h2
  obtain ⟨st, e9, hs9⟩ := gs_ref hs; subst e9; clear hs; have hs := hs9; clear hs9
  obtain ⟨st, e9, hs9⟩ := gs_ref hs; subst e9; clear hs; have hs := hs9; clear hs9
  exact lv_acmp_eq hC.1 hC.2.1 hd ht (fun z => (kt (ga_opt hH.2.1 z) Γ p e R s m args below meth c QE H locs cells slots ls _ hC hE hH hl hs hS h1 h2)) (fun z => (kf (fun q => z (by rw [q])) Γ p e R s m args below meth c QE H locs cells slots ls _ hC hE hH hl hs hS h1 h2))
theorem g_acmp_ne {a b : Option Nat} {off : Int} {tgt : Nat} (hd : decode mi.2.1 pc = .ok (.if_acmp .ne off, 3)) (ht : (pc : Int) + off = (tgt : Int)) (kt : a ≠ b → G π mi tgt loc stk h mc ms Q) (kf : a = b → G π mi (pc + 3) loc stk h mc ms Q) : G π mi pc loc (gR b :: gR a :: stk) h mc ms Q := by
  intro Γ p e R s m args below meth c QE H locs cells slots ls st hC hE hH hl hs hS h1 h2
  obtain ⟨st, e9, hs9⟩ := gs_ref hs; subst e9; clear hs; have hs := hs9; clear hs9
  obtain ⟨st, e9, hs9⟩ := gs_ref hs; subst e9; clear hs; have hs := hs9; clear hs9
  exact lv_acmp_ne hC.1 hC.2.1 hd ht (fun z => (kt (fun q => z (by rw [q])) Γ p e R s m args below meth c QE H locs cells slots ls _ hC hE hH hl hs hS h1 h2)) (fun z => (kf (ga_opt hH.2.1 z) Γ p e R s m args below meth c QE H locs cells slots ls _ hC hE hH hl hs hS h1 h2))
theorem g_tableIn {dflt lo hi : Int} {offs : Array Int} {len tgt : Nat} {off a : Int} (hd : decode mi.2.1 pc = .ok (.tableswitch dflt lo hi offs, len)) (c1 : lo ≤ a) (c2 : a ≤ hi) (ho : offs[(a - lo).toNat]? = some off) (ht : (pc : Int) + off = (tgt : Int)) (k : G π mi tgt loc stk h mc ms Q) : G π mi pc loc (gI a :: stk) h mc ms Q := by
  intro Γ p e R s m args below meth c QE H locs cells slots ls st hC hE hH hl hs hS h1 h2
  obtain ⟨x, st, e9, hx, hs9⟩ := gs_int hs; subst e9; clear hs; have hs := hs9; clear hs9
  subst hx
  exact lv_tableIn hC.1 hC.2.1 hd (by omega) (by omega) ho ht (k Γ p e R s m args below meth c QE H locs cells slots ls _ hC hE hH hl hs hS h1 h2)
theorem g_tableOut {dflt lo hi : Int} {offs : Array Int} {len tgt : Nat} {a : Int} (hd : decode mi.2.1 pc = .ok (.tableswitch dflt lo hi offs, len)) (c1 : a < lo ∨ hi < a) (ht : (pc : Int) + dflt = (tgt : Int)) (k : G π mi tgt loc stk h mc ms Q) : G π mi pc loc (gI a :: stk) h mc ms Q := by
  intro Γ p e R s m args below meth c QE H locs cells slots ls st hC hE hH hl hs hS h1 h2
  obtain ⟨x, st, e9, hx, hs9⟩ := gs_int hs; subst e9; clear hs; have hs := hs9; clear hs9
  subst hx
  exact lv_tableOut hC.1 hC.2.1 hd c1 ht (k Γ p e R s m args below meth c QE H locs cells slots ls _ hC hE hH hl hs hS h1 h2)
end GROW
end
section
/-! the judgement G: fields, arrays, new cells, ends, calls, throws -/
section GHEAP
variable {π : gP} {mi : gM} {pc : Nat} {loc stk : List gV} {h : gH} {mc ms : Nat} {Q : Option (Option gV) → gH → Prop}
/-- a field's words: number ci of the kind, k of the field -/
def gF (π : gP) (own : String) (idx ci k : Nat) (r : vw_C) : Prop := π.2.2.1[ci]? = some r ∧ k < r.2.2 ∧ (∀ w ∈ u_ws r.1 r.2.1 r.2.2, w ∈ π.2.1) ∧ Cond.fieldLink own idx (r.2.1 k).1 (r.2.1 k).2.1 (r.2.1 k).2.2.1 ∈ π.2.1
/-- the fields of a kind: their types, their names apart -/
def gT (r : vw_C) (ty : Nat → FieldType) : Prop := (∀ k, k < r.2.2 → parseFieldDescriptor (r.2.1 k).2.2.1 = some (ty k)) ∧ ∀ a, a < r.2.2 → ∀ b, b < r.2.2 → a ≠ b → (r.2.1 a).2.1 ≠ (r.2.1 b).2.1
theorem g_obj {Γ : gE} {s : State} {H : Heap} {n ci : Nat} {r : vw_C} (hH : gHR π Γ s h H) (hn : n < h.2.2.2.1) (ht : h.1 n = .inl ci) (hr : π.2.2.1[ci]? = some r) : ∃ V : Nat → Value, t_OB (ga Γ n) (Γ.1.1 ci) r.2.2 (Γ.1.2 ci) H V ∧ ∀ k, k < r.2.2 → gfv Γ (r.2.1 k).2.2.1 (h.2.1 n k) (h.2.2.1 n k) (V k) := by
  have h9 := hH.1 n hn
  rw [ht] at h9
  obtain ⟨r', hr', V, hV, hk⟩ := h9
  cases Option.some.inj (hr'.symm.trans hr)
  exact ⟨V, hV, hk⟩
theorem g_getV {Γ : gE} {p : Program} {e : Env} {R : Room} {s : State} {m : MethodId} {args : Array Value} {below : List Frame} {meth : Method} {c : Code} {QE : State → Prop} {H : Heap} {locs : List Loc} {cells slots : Nat} {ls : Array Slot} {st : List Value} {ci k idx a : Nat} {r : vw_C} {V : Nat → Value}
    (hC : gC π Γ mi p R s m args meth c) (hd : decode mi.2.1 pc = .ok (.getfield idx, 3)) (hF : gF π mi.1 idx ci k r) (hV : t_OB a (Γ.1.1 ci) r.2.2 (Γ.1.2 ci) H V)
    (kk : W p π.1 e R s m args below meth c H locs cells slots QE (F0 m (pc + 3) ls (V k :: st))) : W p π.1 e R s m args below meth c H locs cells slots QE (F0 m pc ls (.ref a :: st)) := by
  obtain ⟨hx, hb, -, hown, hts, -, -, -, -, -, -, hK, -⟩ := hC
  obtain ⟨f1, f2, f3, f4⟩ := hF
  obtain ⟨cell, q1, q2, q3, q4⟩ := hV
  obtain ⟨hS, hfc, kC, hkC, hkind⟩ := hK.1 ci r f1
  obtain ⟨cf, kf, fi, f, hi, hsl⟩ := hS k f2
  exact W.getf hx hb hown (hts _ f4) hi (u_facts hfc hkC (u_lays hts f3 f2) hi).1 q1 (by rw [q3]; exact fun h => by cases h) (v := V k) (by rw [hsl, q4 k f2]) rfl rfl hd kk
theorem g_getI {ci k idx n : Nat} {r : vw_C} {x : Int} (hd : decode mi.2.1 pc = .ok (.getfield idx, 3)) (hF : gF π mi.1 idx ci k r) (hi : (r.2.1 k).2.2.1 = "I") (ht : h.1 n = .inl ci) (hn : n < h.2.2.2.1) (hv : h.2.1 n k = x) (kk : G π mi (pc + 3) loc (gI x :: stk) h mc ms Q) : G π mi pc loc (gR (some n) :: stk) h mc ms Q := by
  subst hv
  intro Γ p e R s m args below meth c QE H locs cells slots ls st hC hE hH hl hs hS h1 h2
  obtain ⟨st, e9, hs9⟩ := gs_ref hs; subst e9; clear hs; have hs := hs9; clear hs9
  obtain ⟨V, hV, hk⟩ := g_obj hH hn ht hF.1
  have h9 := hk k hF.2.1
  rw [gfv, if_pos hi] at h9
  exact g_getV hC hd hF hV (kk Γ p e R s m args below meth c QE H locs cells slots ls _ hC hE hH hl ⟨h9, hs⟩ hS h1 h2)
theorem g_getR {ci k idx n : Nat} {r : vw_C} {o : Option Nat} (hd : decode mi.2.1 pc = .ok (.getfield idx, 3)) (hF : gF π mi.1 idx ci k r) (hi : (r.2.1 k).2.2.1 ≠ "I") (ht : h.1 n = .inl ci) (hn : n < h.2.2.2.1) (hv : h.2.2.1 n k = o) (kk : G π mi (pc + 3) loc (gR o :: stk) h mc ms Q) : G π mi pc loc (gR (some n) :: stk) h mc ms Q := by
  subst hv
  intro Γ p e R s m args below meth c QE H locs cells slots ls st hC hE hH hl hs hS h1 h2
  obtain ⟨st, e9, hs9⟩ := gs_ref hs; subst e9; clear hs; have hs := hs9; clear hs9
  obtain ⟨V, hV, hk⟩ := g_obj hH hn ht hF.1
  have h9 := hk k hF.2.1
  rw [gfv, if_neg hi] at h9
  exact g_getV hC hd hF hV (kk Γ p e R s m args below meth c QE H locs cells slots ls _ hC hE hH hl ⟨h9, hs⟩ hS h1 h2)
theorem g_putV {Γ : gE} {p : Program} {e : Env} {R : Room} {s : State} {m : MethodId} {args : Array Value} {below : List Frame} {meth : Method} {c : Code} {QE : State → Prop} {H : Heap} {locs : List Loc} {cells slots : Nat} {ls : Array Slot} {st : List Value} {ci k idx a : Nat} {r : vw_C} {V : Nat → Value} {ty : Nat → FieldType} {v : Value}
    (hC : gC π Γ mi p R s m args meth c) (hd : decode mi.2.1 pc = .ok (.putfield idx, 3)) (hF : gF π mi.1 idx ci k r) (hT : gT r ty) (hfin : (r.2.1 k).2.2.2 = false ∨ ((r.2.1 k).2.2.2 = true ∧ mi.2.2.2.2.2.1 = "<init>" ∧ (r.2.1 k).1 = mi.1)) (hn : narrow (ty k) v = v) (hfit : fits (ty k) v = true) (hV : t_OB a (Γ.1.1 ci) r.2.2 (Γ.1.2 ci) H V)
    (kk : ∀ (H' : Heap) (j : Nat), t_OB a (Γ.1.1 ci) r.2.2 (Γ.1.2 ci) H' (updV V k v) → H'.size = H.size → (∀ q : Nat, q ≠ a → H'[q]? = H[q]?) → W p π.1 e R s m args below meth c H' (locs ++ [⟨a, j⟩]) cells slots QE (F0 m (pc + 3) ls st)) : W p π.1 e R s m args below meth c H locs cells slots QE (F0 m pc ls (v :: .ref a :: st)) := by
  obtain ⟨hx, hb, -, hown, hts, -, -, -, hname, -, -, hK, -⟩ := hC
  obtain ⟨f1, f2, f3, f4⟩ := hF
  obtain ⟨cell, q1, q2, q3, q4⟩ := hV
  obtain ⟨hS, hfc, kC, hkC, hkind⟩ := hK.1 ci r f1
  have hap : ∀ x y, x < r.2.2 → y < r.2.2 → x ≠ y → (Γ.1.2 ci) x ≠ (Γ.1.2 ci) y := by
    intro x y hx hy hne
    obtain ⟨_, _, _, fa, hia, ea⟩ := hS x hx
    obtain ⟨_, _, _, fb, hib, eb⟩ := hS y hy
    rw [← ea, ← eb]
    refine u_apart (u_lays hts f3 hx) (u_lays hts f3 hy) hia hib ?_
    rw [(State.fieldFound?_type hia (hT.1 x hx)).1, (State.fieldFound?_type hib (hT.1 y hy)).1]
    exact hT.2 x hx y hy hne
  obtain ⟨cf, kf, fi, f, hi, hsl⟩ := hS k f2
  have hst := (u_facts hfc hkC (u_lays hts f3 f2) hi).1
  have hlay := hts _ (f3 _ (u_in_lay f2))
  unfold u_lay at hlay
  rcases hfin with hfin | ⟨hfin, hinit, hdecl⟩
  · rw [if_neg (by rw [hfin]; decide)] at hlay
    have h6 := u_store hfc hkC hkind hlay hi (hT.1 k f2) hn hfit
    refine W.putK hx hb (f := f) ⟨hown, hts _ f4, ⟨_, _, _, hi⟩, hst⟩ (by rw [q2]; exact h6) q1 q3 (by rw [hsl]; exact k2_hasslot (q4 k f2)) rfl rfl hd fun H' e1 e2 e3 => ?_
    rw [hsl] at e1
    exact kk H' _ ⟨_, e1, q2, q3, t_set q4 hap f2 v⟩ e2 e3
  · rw [if_pos hfin] at hlay
    have hcf : m.cls = cf := by
      obtain ⟨_, _, c', _, _, _, -, -, hf', -, -, -, hown2, -⟩ := Cond.laysFinal_spec hlay
      have e1 : c' = cf := by have := hi.symm.trans hf'; simp at this; exact this.1.symm
      rw [hdecl] at hown2
      rw [← e1]; exact Option.some.inj (hown.symm.trans hown2)
    have h6 := u_fits hfc hkC hkind (Or.inr hlay) hi (hT.1 k f2) hn hfit
    refine W.putFinK hx hb hown (hts _ f4) hi hst hcf (hname.trans hinit) (by rw [q2]; exact h6) q1 q3 (by rw [hsl]; exact k2_hasslot (q4 k f2)) rfl rfl hd fun H' e1 e2 e3 => ?_
    rw [hsl] at e1
    exact kk H' _ ⟨_, e1, q2, q3, t_set q4 hap f2 v⟩ e2 e3
theorem g_putI {ci k idx n : Nat} {r : vw_C} {ty : Nat → FieldType} {x : Int} (hd : decode mi.2.1 pc = .ok (.putfield idx, 3)) (hF : gF π mi.1 idx ci k r) (hT : gT r ty) (hi : (r.2.1 k).2.2.1 = "I" ∧ ty k = .int) (hfin : (r.2.1 k).2.2.2 = false ∨ ((r.2.1 k).2.2.2 = true ∧ mi.2.2.2.2.2.1 = "<init>" ∧ (r.2.1 k).1 = mi.1)) (ht : h.1 n = .inl ci) (hn : n < h.2.2.2.1) (h0 : n ≠ 0) (kk : G π mi (pc + 3) loc stk (gsetI h n k x) mc ms Q) : G π mi pc loc (gI x :: gR (some n) :: stk) h mc ms Q := by
  intro Γ p e R s m args below meth c QE H locs cells slots ls st hC hE hH hl hs hS h1 h2
  obtain ⟨y, st, e9, hy, hs9⟩ := gs_int hs; subst e9; clear hs; have hs := hs9; clear hs9
  obtain ⟨st, e9, hs9⟩ := gs_ref hs; subst e9; clear hs; have hs := hs9; clear hs9
  obtain ⟨V, hV, hk⟩ := g_obj hH hn ht hF.1
  refine g_putV (v := .int y) hC hd hF hT hfin (by rw [hi.2]; rfl) (by rw [hi.2]; rfl) hV fun H' j e1 e2 e3 => ?_
  refine kk Γ p e R s m args below meth c QE H' _ cells slots ls st hC hE (hH.upd n e2 e3 rfl rfl (fun a ha => ?_) (fun _ _ => rfl) ?_) hl hs (hS.put e2 e3 (ga_free h0)) h1 h2
  · funext b
    simp [gsetI, ha]
  · rw [ht]
    refine ⟨r, hF.1, _, e1, fun q hq => ?_⟩
    by_cases e : q = k
    · subst e
      rw [gfv, if_pos hi.1]
      exact ⟨y, by simp [updV], by simp [gsetI, hy]⟩
    · have h9 := hk q hq
      simp only [gsetI, updV, e, and_false, if_false]
      exact h9
theorem g_putR {ci k idx n : Nat} {r : vw_C} {ty : Nat → FieldType} {o : Option Nat} (hd : decode mi.2.1 pc = .ok (.putfield idx, 3)) (hF : gF π mi.1 idx ci k r) (hT : gT r ty) (hi : (r.2.1 k).2.2.1 ≠ "I" ∧ ((∃ C, ty k = .object C) ∨ ∃ t, ty k = .array t)) (hfin : (r.2.1 k).2.2.2 = false ∨ ((r.2.1 k).2.2.2 = true ∧ mi.2.2.2.2.2.1 = "<init>" ∧ (r.2.1 k).1 = mi.1)) (ht : h.1 n = .inl ci) (hn : n < h.2.2.2.1) (h0 : n ≠ 0) (kk : G π mi (pc + 3) loc stk (gsetR h n k o) mc ms Q) : G π mi pc loc (gR o :: gR (some n) :: stk) h mc ms Q := by
  intro Γ p e R s m args below meth c QE H locs cells slots ls st hC hE hH hl hs hS h1 h2
  obtain ⟨st, e9, hs9⟩ := gs_ref hs; subst e9; clear hs; have hs := hs9; clear hs9
  obtain ⟨st, e9, hs9⟩ := gs_ref hs; subst e9; clear hs; have hs := hs9; clear hs9
  obtain ⟨V, hV, hk⟩ := g_obj hH hn ht hF.1
  refine g_putV (v := va_rf (o.map (ga Γ))) hC hd hF hT hfin ?_ ?_ hV fun H' j e1 e2 e3 => ?_
  · rcases hi.2 with ⟨C, e⟩ | ⟨t, e⟩ <;> rw [e] <;> cases o <;> rfl
  · rcases hi.2 with ⟨C, e⟩ | ⟨t, e⟩ <;> rw [e] <;> cases o <;> rfl
  refine kk Γ p e R s m args below meth c QE H' _ cells slots ls st hC hE (hH.upd n e2 e3 rfl rfl (fun _ _ => rfl) (fun a ha => ?_) ?_) hl hs (hS.put e2 e3 (ga_free h0)) h1 h2
  · funext b
    simp [gsetR, ha]
  · rw [ht]
    refine ⟨r, hF.1, _, e1, fun q hq => ?_⟩
    by_cases e : q = k
    · subst e
      rw [gfv, if_neg hi.1]
      simp [updV, gsetR]
    · have h9 := hk q hq
      simp only [gsetR, updV, e, and_false, if_false]
      exact h9
/-- an index inside -/
theorem g_in {y : Int32} {j : Int} {len : Nat} (hy : y.toInt = j) (h1 : 0 ≤ j) (h2 : j < len) : vp_in y len ∧ y.toNatClampNeg = j.toNat := by
  have h9 : y.toNatClampNeg = j.toNat := by rw [← hy]; rfl
  refine ⟨?_, h9⟩
  rintro (z | z)
  · rw [Int32.lt_iff_toInt_lt, hy, g_zero] at z
    omega
  · rw [h9] at z
    omega
theorem g_iald {n len : Nat} {j x : Int} (hd : decode mi.2.1 pc = .ok (.iaload, 1)) (ht : h.1 n = .inr (0, len)) (hn : n < h.2.2.2.1) (c1 : 0 ≤ j) (c2 : j < len) (hv : h.2.1 n j.toNat = x) (kk : G π mi (pc + 1) loc (gI x :: stk) h mc ms Q) : G π mi pc loc (gI j :: gR (some n) :: stk) h mc ms Q := by
  subst hv
  intro Γ p e R s m args below meth c QE H locs cells slots ls st hC hE hH hl hs hS h1 h2
  obtain ⟨y, st, e9, hy, hs9⟩ := gs_int hs; subst e9; clear hs; have hs := hs9; clear hs9
  obtain ⟨st, e9, hs9⟩ := gs_ref hs; subst e9; clear hs; have hs := hs9; clear hs9
  have h9 := hH.1 n hn
  rw [ht] at h9
  obtain ⟨f, g1, g2⟩ := h9
  obtain ⟨i1, i2⟩ := g_in hy c1 c2
  have hlt : j.toNat < len := by omega
  exact W.iald (v := .int (f j.toNat)) hC.1 hC.2.1 g1 (hC.2.2.2.2.2.2.2.2.2.2.2.1.2.1.1 len _) (fun q => by cases q) (by rw [arrV_size]; exact i1) (by rw [i2, arrV_read _ _ hlt]) rfl rfl hd (kk Γ p e R s m args below meth c QE H locs cells slots ls _ hC hE hH hl ⟨⟨_, rfl, g2 _ hlt⟩, hs⟩ hS h1 h2)
theorem g_ialdS {n len : Nat} {j x : Int} (hd : decode mi.2.1 pc = .ok (.iaload, 1)) (ht : h.1 n = .inr (2, len)) (hn : n < h.2.2.2.1) (c1 : 0 ≤ j) (c2 : j < len) (hv : h.2.1 n j.toNat = x) (kk : G π mi (pc + 1) loc (gI x :: stk) h mc ms Q) : G π mi pc loc (gI j :: gR (some n) :: stk) h mc ms Q := by
  subst hv
  intro Γ p e R s m args below meth c QE H locs cells slots ls st hC hE hH hl hs hS h1 h2
  obtain ⟨y, st, e9, hy, hs9⟩ := gs_int hs; subst e9; clear hs; have hs := hs9; clear hs9
  obtain ⟨st, e9, hs9⟩ := gs_ref hs; subst e9; clear hs; have hs := hs9; clear hs9
  have h9 := hH.1 n hn
  rw [ht] at h9
  obtain ⟨xs, ⟨scr, g1, g2, g3, g4, g5⟩, g6⟩ := h9
  obtain ⟨i1, i2⟩ := g_in hy c1 c2
  have hlt : j.toNat < len := by omega
  exact W.iald (v := .int (xs j.toNat)) hC.1 hC.2.1 g1 g2 g3 (by rw [g4]; exact i1) (by rw [i2]; exact g5 _ hlt) rfl rfl hd (kk Γ p e R s m args below meth c QE H locs cells slots ls _ hC hE hH hl ⟨⟨_, rfl, g6 _ hlt⟩, hs⟩ hS h1 h2)
theorem g_alenS {n len : Nat} (hlen : len < 2147483648) (hd : decode mi.2.1 pc = .ok (.arraylength, 1)) (ht : h.1 n = .inr (2, len)) (hn : n < h.2.2.2.1) (kk : G π mi (pc + 1) loc (gI (len : Int) :: stk) h mc ms Q) : G π mi pc loc (gR (some n) :: stk) h mc ms Q := by
  intro Γ p e R s m args below meth c QE H locs cells slots ls st hC hE hH hl hs hS h1 h2
  obtain ⟨st, e9, hs9⟩ := gs_ref hs; subst e9; clear hs; have hs := hs9; clear hs9
  have h9 := hH.1 n hn
  rw [ht] at h9
  obtain ⟨xs, ⟨scr, g1, g2, g3, g4, g5⟩, g6⟩ := h9
  refine W.alen (n := Int32.ofNat len) hC.1 hC.2.1 g1 g2 (by rw [g4] <;> rfl) rfl rfl hd (kk Γ p e R s m args below meth c QE H locs cells slots ls _ hC hE hH hl ⟨⟨_, rfl, ?_⟩, hs⟩ hS h1 h2)
  exact Int32.toInt_ofNat_of_lt hlen
theorem g_lald {n len : Nat} {j x : Int} (hd : decode mi.2.1 pc = .ok (.laload, 1)) (ht : h.1 n = .inr (1, len)) (hn : n < h.2.2.2.1) (c1 : 0 ≤ j) (c2 : j < len) (hv : h.2.1 n j.toNat = x) (kk : G π mi (pc + 1) loc (gL x :: stk) h mc ms Q) : G π mi pc loc (gI j :: gR (some n) :: stk) h mc ms Q := by
  subst hv
  intro Γ p e R s m args below meth c QE H locs cells slots ls st hC hE hH hl hs hS h1 h2
  obtain ⟨y, st, e9, hy, hs9⟩ := gs_int hs; subst e9; clear hs; have hs := hs9; clear hs9
  obtain ⟨st, e9, hs9⟩ := gs_ref hs; subst e9; clear hs; have hs := hs9; clear hs9
  have h9 := hH.1 n hn
  rw [ht] at h9
  obtain ⟨f, g1, g2⟩ := h9
  obtain ⟨i1, i2⟩ := g_in hy c1 c2
  have hlt : j.toNat < len := by omega
  exact W.lald (v := .long (f j.toNat)) hC.1 hC.2.1 g1 (hC.2.2.2.2.2.2.2.2.2.2.2.1.2.2.1.1 len _) (fun q => by cases q) (by rw [arrV_size]; exact i1) (by rw [i2, arrV_read _ _ hlt]) rfl rfl hd (kk Γ p e R s m args below meth c QE H locs cells slots ls _ hC hE hH hl ⟨⟨_, rfl, g2 _ hlt⟩, hs⟩ hS h1 h2)
theorem g_aald {n len ci : Nat} {j : Int} {r : vw_C} {o : Option Nat} (hr : π.2.2.1[ci]? = some r ∧ ci ∈ π.2.2.2.1) (hd : decode mi.2.1 pc = .ok (.aaload, 1)) (ht : h.1 n = .inr (ci + 3, len)) (hn : n < h.2.2.2.1) (c1 : 0 ≤ j) (c2 : j < len) (hv : h.2.2.1 n j.toNat = o) (kk : G π mi (pc + 1) loc (gR o :: stk) h mc ms Q) : G π mi pc loc (gI j :: gR (some n) :: stk) h mc ms Q := by
  subst hv
  intro Γ p e R s m args below meth c QE H locs cells slots ls st hC hE hH hl hs hS h1 h2
  obtain ⟨y, st, e9, hy, hs9⟩ := gs_int hs; subst e9; clear hs; have hs := hs9; clear hs9
  obtain ⟨st, e9, hs9⟩ := gs_ref hs; subst e9; clear hs; have hs := hs9; clear hs9
  have h9 := hH.1 n hn
  rw [ht] at h9
  obtain ⟨f, g1, g2⟩ := h9
  obtain ⟨i1, i2⟩ := g_in hy c1 c2
  have hlt : j.toNat < len := by omega
  have hK := (hC.2.2.2.2.2.2.2.2.2.2.2.1.2.2.2.1 ci hr.2 r hr.1).1
  exact W.aald (v := va_rf (f j.toNat)) (ty := .object r.1) hC.1 hC.2.1 g1 (hK len _) rfl (fun q => by cases q) (by rw [arrV_size]; exact i1) (by rw [i2, arrV_read _ _ hlt]) rfl rfl hd (kk Γ p e R s m args below meth c QE H locs cells slots ls _ hC hE hH hl ⟨by rw [g2 _ hlt]; rfl, hs⟩ hS h1 h2)
theorem g_iast {n len : Nat} {j x : Int} (hd : decode mi.2.1 pc = .ok (.iastore, 1)) (ht : h.1 n = .inr (0, len)) (hn : n < h.2.2.2.1) (h0 : n ≠ 0) (c1 : 0 ≤ j) (c2 : j < len) (kk : G π mi (pc + 1) loc stk (gsetI h n j.toNat x) mc ms Q) : G π mi pc loc (gI x :: gI j :: gR (some n) :: stk) h mc ms Q := by
  intro Γ p e R s m args below meth c QE H locs cells slots ls st hC hE hH hl hs hS h1 h2
  obtain ⟨z, st, e9, hz, hs9⟩ := gs_int hs; subst e9; clear hs; have hs := hs9; clear hs9
  obtain ⟨y, st, e9, hy, hs9⟩ := gs_int hs; subst e9; clear hs; have hs := hs9; clear hs9
  obtain ⟨st, e9, hs9⟩ := gs_ref hs; subst e9; clear hs; have hs := hs9; clear hs9
  have h9 := hH.1 n hn
  rw [ht] at h9
  obtain ⟨f, g1, g2⟩ := h9
  obtain ⟨i1, i2⟩ := g_in hy c1 c2
  have hlt : j.toNat < len := by omega
  refine W.iast hC.1 hC.2.1 g1 (hC.2.2.2.2.2.2.2.2.2.2.2.1.2.1.1 len _) (fun q => by cases q) (by rw [arrV_size]; exact i1) rfl rfl hd fun H' e1 e2 e3 => ?_
  refine kk Γ p e R s m args below meth c QE H' _ cells slots ls st hC hE (hH.upd n e2 e3 rfl rfl (fun a ha => ?_) (fun _ _ => rfl) ?_) hl hs (hS.put e2 e3 (ga_free h0)) h1 h2
  · funext b
    simp [gsetI, ha]
  · rw [ht]
    refine ⟨fun q => if q = j.toNat then z else f q, ?_, fun q hq => ?_⟩
    · rw [e1, i2, arrV_store]
      congr 2
      funext q
      by_cases e : q = j.toNat <;> simp [updV, e]
    · by_cases e : q = j.toNat
      · simp [gsetI, e, hz]
      · simp [gsetI, e, g2 q hq]
theorem g_last {n len : Nat} {j x : Int} (hd : decode mi.2.1 pc = .ok (.lastore, 1)) (ht : h.1 n = .inr (1, len)) (hn : n < h.2.2.2.1) (h0 : n ≠ 0) (c1 : 0 ≤ j) (c2 : j < len) (kk : G π mi (pc + 1) loc stk (gsetI h n j.toNat x) mc ms Q) : G π mi pc loc (gL x :: gI j :: gR (some n) :: stk) h mc ms Q := by
  intro Γ p e R s m args below meth c QE H locs cells slots ls st hC hE hH hl hs hS h1 h2
  obtain ⟨z, st, e9, hz, hs9⟩ := gs_long hs; subst e9; clear hs; have hs := hs9; clear hs9
  obtain ⟨y, st, e9, hy, hs9⟩ := gs_int hs; subst e9; clear hs; have hs := hs9; clear hs9
  obtain ⟨st, e9, hs9⟩ := gs_ref hs; subst e9; clear hs; have hs := hs9; clear hs9
  have h9 := hH.1 n hn
  rw [ht] at h9
  obtain ⟨f, g1, g2⟩ := h9
  obtain ⟨i1, i2⟩ := g_in hy c1 c2
  have hlt : j.toNat < len := by omega
  refine W.last hC.1 hC.2.1 g1 (hC.2.2.2.2.2.2.2.2.2.2.2.1.2.2.1.1 len _) (fun q => by cases q) (by rw [arrV_size]; exact i1) rfl rfl hd fun H' e1 e2 e3 => ?_
  refine kk Γ p e R s m args below meth c QE H' _ cells slots ls st hC hE (hH.upd n e2 e3 rfl rfl (fun a ha => ?_) (fun _ _ => rfl) ?_) hl hs (hS.put e2 e3 (ga_free h0)) h1 h2
  · funext b
    simp [gsetI, ha]
  · rw [ht]
    refine ⟨fun q => if q = j.toNat then z else f q, ?_, fun q hq => ?_⟩
    · rw [e1, i2, arrV_store]
      congr 2
      funext q
      by_cases e : q = j.toNat <;> simp [updV, e]
    · by_cases e : q = j.toNat
      · simp [gsetI, e, hz]
      · simp [gsetI, e, g2 q hq]
theorem g_aast {n len ci : Nat} {j : Int} {r : vw_C} {o : Option Nat} (hr : π.2.2.1[ci]? = some r ∧ ci ∈ π.2.2.2.1) (hd : decode mi.2.1 pc = .ok (.aastore, 1)) (ht : h.1 n = .inr (ci + 3, len)) (hn : n < h.2.2.2.1) (h0 : n ≠ 0) (c1 : 0 ≤ j) (c2 : j < len) (ho : ∀ v, o = some v → h.1 v = .inl ci ∧ v < h.2.2.2.1) (kk : G π mi (pc + 1) loc stk (gsetR h n j.toNat o) mc ms Q) : G π mi pc loc (gR o :: gI j :: gR (some n) :: stk) h mc ms Q := by
  intro Γ p e R s m args below meth c QE H locs cells slots ls st hC hE hH hl hs hS h1 h2
  obtain ⟨st, e9, hs9⟩ := gs_ref hs; subst e9; clear hs; have hs := hs9; clear hs9
  obtain ⟨y, st, e9, hy, hs9⟩ := gs_int hs; subst e9; clear hs; have hs := hs9; clear hs9
  obtain ⟨st, e9, hs9⟩ := gs_ref hs; subst e9; clear hs; have hs := hs9; clear hs9
  have h9 := hH.1 n hn
  rw [ht] at h9
  obtain ⟨f, g1, g2⟩ := h9
  obtain ⟨i1, i2⟩ := g_in hy c1 c2
  have hlt : j.toNat < len := by omega
  have hK := hC.2.2.2.2.2.2.2.2.2.2.2.1.2.2.2.1 ci hr.2 r hr.1
  have key : ∀ (H' : Heap) (j9 : Nat), H'[ga Γ n]? = some ((arrV (Γ.2.1 (ci + 3)) len (fun j => va_rf (f j))).setSlot y.toNatClampNeg (va_rf (o.map (ga Γ)))) → H'.size = H.size → (∀ q : Nat, q ≠ ga Γ n → H'[q]? = H[q]?) → W p π.1 e R s m args below meth c H' (locs ++ [⟨ga Γ n, j9⟩]) cells slots QE (F0 m (pc + 1) ls st) := by
    intro H' j9 e1 e2 e3
    refine kk Γ p e R s m args below meth c QE H' _ cells slots ls st hC hE (hH.upd n e2 e3 rfl rfl (fun _ _ => rfl) (fun a ha => ?_) ?_) hl hs (hS.put e2 e3 (ga_free h0)) h1 h2
    · funext b
      simp [gsetR, ha]
    · rw [ht]
      refine ⟨fun q => if q = j.toNat then o.map (ga Γ) else f q, ?_, fun q hq => ?_⟩
      · rw [e1, i2, arrV_store]
        congr 2
        funext q
        by_cases e : q = j.toNat <;> simp [updV, e]
      · by_cases e : q = j.toNat
        · simp [gsetR, e]
        · simp [gsetR, e, g2 q hq]
  cases o with
  | none => exact va_WaastN (C := r.1) hC.1 hC.2.1 g1 (hK.1 len _) (fun h => by cases h) (by rw [arrV_size]; exact i1) rfl rfl hd fun H' e1 e2 e3 => key H' _ e1 e2 e3
  | some v =>
    obtain ⟨w1, w2⟩ := ho v rfl
    obtain ⟨V, ⟨cv, v1, v2, v3, v4⟩, -⟩ := g_obj hH w2 w1 hr.1
    have hcls := (hC.2.2.2.2.2.2.2.2.2.2.2.1.1 ci r hr.1).2
    obtain ⟨kA, comp, k1, k2, k3, -⟩ := hK.2.1
    have hcomp : comp = Γ.1.1 ci := Option.some.inj (k3.symm.trans hcls.1)
    subst hcomp
    obtain ⟨kC, hkC, -⟩ := id hcls.2
    exact W.aast hC.1 hC.2.1 g1 (fun q h => by cases h) (fun h => by cases h) k1 k2 rfl hkC ⟨fun q => i1 (Or.inl q), by rw [arrV_size]; omega⟩ v1 (fun q h => by rw [v3] at h; cases h) (by rw [v2]; exact hkC) (by rw [v2]; exact va_assign hcls) rfl rfl hd fun H' e1 e2 e3 => key H' _ e1 e2 e3
/-- a new object of the kind ci -/
theorem g_new {ci idx N : Nat} {r : vw_C} {ty : Nat → FieldType} (hd : decode mi.2.1 pc = .ok (.new idx, 3)) (hr : π.2.2.1[ci]? = some r ∧ (∀ w ∈ u_ws r.1 r.2.1 r.2.2, w ∈ π.2.1)) (hT : gT r ty) (hw : Cond.classLink mi.1 idx r.1 ∈ π.2.1 ∧ Cond.instantiable r.1 N ∈ π.2.1 ∧ Cond.initialized r.1 ∈ π.2.1)
    (hty : ∀ k, k < r.2.2 → ((r.2.1 k).2.2.1 = "I" ∧ ty k = .int) ∨ ((r.2.1 k).2.2.1 ≠ "I" ∧ ((∃ C, ty k = .object C) ∨ ∃ t, ty k = .array t))) (h0 : h.2.2.2.1 ≠ 0) (hf : h.2.2.2.2 = true) (kk : G π mi (pc + 3) loc (gR (some h.2.2.2.1) :: stk) (gnew h (.inl ci)) mc ms Q) : G π mi pc loc stk h (mc + 1) (ms + N) Q := by
  intro Γ p e R s m args below meth c QE H locs cells slots ls st hC hE hH hl hs hS h1 h2
  obtain ⟨hx, hb, -, hown, hts, -, -, -, -, -, -, hK, -⟩ := id hC
  have hKn := hK.1 ci r hr.1
  refine W.newcK hx hb hown (hts _ hw.1) (hts _ hw.2.1) (hts _ hw.2.2) rfl hd (by omega) (by omega) hKn.2.1 rfl fun H' kC hkC e1 e2 e3 => ?_
  obtain ⟨n1, n2⟩ := hH.new (t := .inl ci) h0 hf e2 e3 ⟨r, hr.1, _, u_born ty hts hr.2 hKn hkC e1 hT.1, fun k hk => by
    rcases hty k hk with ⟨a1, a2⟩ | ⟨a1, ⟨C, a2⟩ | ⟨t, a2⟩⟩
    · rw [gfv, if_pos a1, a2]; exact ⟨0, rfl, rfl⟩
    · rw [gfv, if_neg a1, a2]; rfl
    · rw [gfv, if_neg a1, a2]; rfl⟩
  refine kk Γ p e R s m args below meth c QE H' locs (cells + 1) (slots + N) ls (.ref H.size :: st) hC hE n1 hl ⟨?_, hs⟩ ?_ (by omega) (by omega)
  · show Value.ref H.size = va_rf (some (ga Γ h.2.2.2.1))
    rw [n2]; rfl
  · exact ⟨Nat.le_trans hS.1 (by omega), fun x z1 z2 => (e3 x (Nat.lt_of_lt_of_le z1 hS.1)).trans (hS.2.1 x z1 z2), hS.2.2⟩
theorem g_newI {x : Int} {N : Nat} (hd : decode mi.2.1 pc = .ok (.newarray .int, 2)) (hw : Cond.arrayClass .int ∈ π.2.1) (hN : x = (N : Int)) (hb : N ≤ 100000) (h0 : h.2.2.2.1 ≠ 0) (hf : h.2.2.2.2 = true) (kk : G π mi (pc + 2) loc (gR (some h.2.2.2.1) :: stk) (gnew h (.inr (0, N))) mc ms Q) : G π mi pc loc (gI x :: stk) h (mc + 1) (ms + N) Q := by
  intro Γ p e R s m args below meth c QE H locs cells slots ls st hC hE hH hl hs hS h1 h2
  obtain ⟨y, st, e9, hy, hs9⟩ := gs_int hs; subst e9; clear hs; have hs := hs9; clear hs9
  obtain ⟨hx, hb9, -, hown, hts, -, -, -, -, -, -, hK, -⟩ := id hC
  subst hN
  have hyN : y.toNatClampNeg = N := by show y.toInt.toNat = N; rw [hy]; rfl
  refine W.newa hx hb9 (atype := .int) (hts _ hw) rfl hd rfl (by rw [Int32.lt_iff_toInt_lt, hy, g_zero]; omega) (by rw [hyN]; show N * 4 ≤ _; omega) (by omega) (by rw [hyN]; omega) fun cA kA comp f1 f2 f3 => ?_
  rw [hyN]
  have hcA : cA = Γ.2.1 0 := Option.some.inj (f1.symm.trans hK.2.1.2)
  subst hcA
  have e2 : (H.push ({ cls := Γ.2.1 0, slots := Array.replicate N (defaultValue (newarray.typeOf .int)), vm := .none } : Cell)).size = H.size + 1 := by simp
  have e3 : ∀ q : Nat, q < H.size → (H.push ({ cls := Γ.2.1 0, slots := Array.replicate N (defaultValue (newarray.typeOf .int)), vm := .none } : Cell))[q]? = H[q]? := fun q hq => by rw [Array.getElem?_push, if_neg (Nat.ne_of_lt hq)]
  obtain ⟨n1, n2⟩ := hH.new (t := .inr (0, N)) h0 hf e2 e3 ⟨fun _ => 0, by rw [Array.getElem?_push_size, ← arrV_new]; rfl, fun _ _ => rfl⟩
  refine kk Γ p e R s m args below meth c QE _ locs (cells + 1) (slots + N) ls (.ref H.size :: st) hC hE n1 hl ⟨?_, hs⟩ ?_ (by omega) (by omega)
  · show Value.ref H.size = va_rf (some (ga Γ h.2.2.2.1))
    rw [n2]; rfl
  · exact ⟨Nat.le_trans hS.1 (by omega), fun x z1 z2 => (e3 x (Nat.lt_of_lt_of_le z1 hS.1)).trans (hS.2.1 x z1 z2), hS.2.2⟩
theorem g_newL {x : Int} {N : Nat} (hd : decode mi.2.1 pc = .ok (.newarray .long, 2)) (hw : Cond.arrayClass .long ∈ π.2.1) (hN : x = (N : Int)) (hb : N ≤ 100000) (h0 : h.2.2.2.1 ≠ 0) (hf : h.2.2.2.2 = true) (kk : G π mi (pc + 2) loc (gR (some h.2.2.2.1) :: stk) (gnew h (.inr (1, N))) mc ms Q) : G π mi pc loc (gI x :: stk) h (mc + 1) (ms + N) Q := by
  intro Γ p e R s m args below meth c QE H locs cells slots ls st hC hE hH hl hs hS h1 h2
  obtain ⟨y, st, e9, hy, hs9⟩ := gs_int hs; subst e9; clear hs; have hs := hs9; clear hs9
  obtain ⟨hx, hb9, -, hown, hts, -, -, -, -, -, -, hK, -⟩ := id hC
  subst hN
  have hyN : y.toNatClampNeg = N := by show y.toInt.toNat = N; rw [hy]; rfl
  refine W.newa hx hb9 (atype := .long) (hts _ hw) rfl hd rfl (by rw [Int32.lt_iff_toInt_lt, hy, g_zero]; omega) (by rw [hyN]; show N * 8 ≤ _; omega) (by omega) (by rw [hyN]; omega) fun cA kA comp f1 f2 f3 => ?_
  rw [hyN]
  have hcA : cA = Γ.2.1 1 := Option.some.inj (f1.symm.trans hK.2.2.1.2)
  subst hcA
  have e2 : (H.push ({ cls := Γ.2.1 1, slots := Array.replicate N (defaultValue (newarray.typeOf .long)), vm := .none } : Cell)).size = H.size + 1 := by simp
  have e3 : ∀ q : Nat, q < H.size → (H.push ({ cls := Γ.2.1 1, slots := Array.replicate N (defaultValue (newarray.typeOf .long)), vm := .none } : Cell))[q]? = H[q]? := fun q hq => by rw [Array.getElem?_push, if_neg (Nat.ne_of_lt hq)]
  obtain ⟨n1, n2⟩ := hH.new (t := .inr (1, N)) h0 hf e2 e3 ⟨fun _ => 0, by rw [Array.getElem?_push_size, ← arrV_new]; rfl, fun _ _ => rfl⟩
  refine kk Γ p e R s m args below meth c QE _ locs (cells + 1) (slots + N) ls (.ref H.size :: st) hC hE n1 hl ⟨?_, hs⟩ ?_ (by omega) (by omega)
  · show Value.ref H.size = va_rf (some (ga Γ h.2.2.2.1))
    rw [n2]; rfl
  · exact ⟨Nat.le_trans hS.1 (by omega), fun x z1 z2 => (e3 x (Nat.lt_of_lt_of_le z1 hS.1)).trans (hS.2.1 x z1 z2), hS.2.2⟩
theorem g_newA {x : Int} {N ci idx : Nat} {r : vw_C} (hr : π.2.2.1[ci]? = some r ∧ ci ∈ π.2.2.2.1) (hd : decode mi.2.1 pc = .ok (.anewarray idx, 3)) (hw : Cond.classLink mi.1 idx r.1 ∈ π.2.1) (hN : x = (N : Int)) (hb : N ≤ 100000) (h0 : h.2.2.2.1 ≠ 0) (hf : h.2.2.2.2 = true) (kk : G π mi (pc + 3) loc (gR (some h.2.2.2.1) :: stk) (gnew h (.inr (ci + 3, N))) mc ms Q) : G π mi pc loc (gI x :: stk) h (mc + 1) (ms + N) Q := by
  intro Γ p e R s m args below meth c QE H locs cells slots ls st hC hE hH hl hs hS h1 h2
  obtain ⟨y, st, e9, hy, hs9⟩ := gs_int hs; subst e9; clear hs; have hs := hs9; clear hs9
  obtain ⟨hx, hb9, -, hown, hts, -, -, -, -, -, -, hK, -⟩ := id hC
  subst hN
  have hyN : y.toNatClampNeg = N := by show y.toInt.toNat = N; rw [hy]; rfl
  refine W.anew hx hb9 hown (hts _ hw) (va_AO.use (hK.2.2.2.1 ci hr.2 r hr.1).2.2) rfl hd rfl (by rw [Int32.lt_iff_toInt_lt, hy, g_zero]; omega) (by rw [hyN]; omega) (by omega) (by rw [hyN]; omega) fun cA kA comp f1 f2 f3 f4 => ?_
  rw [hyN]
  obtain ⟨kA9, comp9, r1, r2, r3, r4⟩ := (hK.2.2.2.1 ci hr.2 r hr.1).2.1
  have hcA : cA = Γ.2.1 (ci + 3) := Option.some.inj (f1.symm.trans r4)
  subst hcA
  have e2 : (H.push ({ cls := Γ.2.1 (ci + 3), slots := Array.replicate N .null, vm := .none } : Cell)).size = H.size + 1 := by simp
  have e3 : ∀ q : Nat, q < H.size → (H.push ({ cls := Γ.2.1 (ci + 3), slots := Array.replicate N .null, vm := .none } : Cell))[q]? = H[q]? := fun q hq => by rw [Array.getElem?_push, if_neg (Nat.ne_of_lt hq)]
  obtain ⟨n1, n2⟩ := hH.new (t := .inr (ci + 3, N)) h0 hf e2 e3 ⟨fun _ => none, by rw [Array.getElem?_push_size, ← arrV_new]; rfl, fun _ _ => rfl⟩
  refine kk Γ p e R s m args below meth c QE _ locs (cells + 1) (slots + N) ls (.ref H.size :: st) hC hE n1 hl ⟨?_, hs⟩ ?_ (by omega) (by omega)
  · show Value.ref H.size = va_rf (some (ga Γ h.2.2.2.1))
    rw [n2]; rfl
  · exact ⟨Nat.le_trans hS.1 (by omega), fun x z1 z2 => (e3 x (Nat.lt_of_lt_of_le z1 hS.1)).trans (hS.2.1 x z1 z2), hS.2.2⟩
/-- forget that no other cell was made -/
theorem g_stale (k : G π mi pc loc stk (gstale h) mc ms Q) : G π mi pc loc stk h mc ms Q := fun Γ p e R s m args below meth c QE H locs cells slots ls st hC hE hH hl hs hS h1 h2 => k Γ p e R s m args below meth c QE H locs cells slots ls st hC hE hH.stale hl hs hS h1 h2
theorem g_wide {mc' ms' : Nat} (c1 : mc' ≤ mc) (c2 : ms' ≤ ms) (k : G π mi pc loc stk h mc' ms' Q) : G π mi pc loc stk h mc ms Q := fun Γ p e R s m args below meth c QE H locs cells slots ls st hC hE hH hl hs hS h1 h2 => k Γ p e R s m args below meth c QE H locs cells slots ls st hC hE hH hl hs hS (by omega) (by omega)
end GHEAP
end
section
/-! the judgement G: ends, contracts, calls, throws -/
section GENDS
variable {π : gP} {mi : gM} {pc : Nat} {loc stk : List gV} {h : gH} {mc ms : Nat} {Q : Option (Option gV) → gH → Prop}
theorem g_bool {y : Int32} {x : Int} (hy : y.toInt = x) (hx : x = 0 ∨ x = 1) : narrow .boolean (.int y) = .int y := by
  rcases hx with rfl | rfl
  · have : y = 0 := Int32.toInt_inj.mp (hy.trans rfl)
    subst this; rfl
  · have : y = 1 := Int32.toInt_inj.mp (hy.trans rfl)
    subst this; rfl
theorem gEnd_of {Γ : gE} {p : Program} {e : Env} {R : Room} {s : State} {m : MethodId} {args : Array Value} {below : List Frame} {meth : Method} {c : Code} (hC : gC π Γ mi p R s m args meth c) :
    gEnd π Γ mi Q p e R s m args below meth c (vx_MQ below (gQc π Γ Q) (gXC π Γ Q) args s R.cells R.slots (gfree Γ)) := by
  refine ⟨fun r w h H locs cells slots pc ls hQ hw hH hS hc hsl hret => ?_, fun _ _ => rfl⟩
  refine W.widen hc hsl (vx_ret ?_)
  obtain ⟨hx, hb, -, hown, hts, hlocks, -, -, -, hsig, -⟩ := hC
  rcases hret with ⟨hd, x, rfl, hr⟩ | ⟨hd, o, n, rfl, hr⟩ | ⟨hd, rfl, hr⟩
  · obtain ⟨y, st, rfl, hy, hs⟩ := gs_int hw
    cases gs_nil hs
    have hq : ∀ t : State, t.heap = H → s.WarmedH t.vm → gQc π Γ Q args s (.returned (some (.int y))) t := fun t ht hW => ⟨some (gI x), h, some (.int y), hQ, rfl, ⟨y, rfl, hy⟩, by rw [ht]; exact hH.moved hW.alike, hS.F ht⟩
    rcases hr with hr | ⟨hr, hx9⟩
    · exact W.iret hx hb (hsig.trans hr) hq hS.2.2 hd (hlocks := hlocks)
    · exact W.zret hx hb (hsig.trans hr) (g_bool hy hx9) hq hS.2.2 hd (hlocks := hlocks)
  · obtain ⟨st, rfl, hs⟩ := gs_ref hw
    cases gs_nil hs
    have hq : ∀ t : State, t.heap = H → s.WarmedH t.vm → gQc π Γ Q args s (.returned (some (va_rf (o.map (ga Γ))))) t := fun t ht hW => ⟨some (gR o), h, some (va_rf (o.map (ga Γ))), hQ, rfl, rfl, by rw [ht]; exact hH.moved hW.alike, hS.F ht⟩
    exact W.aret hx hb (hsig.trans hr) (Or.inl ⟨n, rfl⟩) (by cases o with
      | none => exact Or.inl rfl
      | some a => exact Or.inr ⟨_, rfl⟩) hq hS.2.2 hd (hlocks := hlocks)
  · cases gs_nil hw
    have hq : ∀ t : State, t.heap = H → s.WarmedH t.vm → gQc π Γ Q args s (.returned none) t := fun t ht hW => ⟨none, h, none, hQ, rfl, trivial, by rw [ht]; exact hH.moved hW.alike, hS.F ht⟩
    exact W.vret hx hb (hsig.trans hr) hq hS.2.2 hd (hlocks := hlocks)
theorem g_iret {x : Int} (hd : decode mi.2.1 pc = .ok (.ireturn, 1)) (hr : mi.2.2.2.2.2.2.1 = some .int ∨ (mi.2.2.2.2.2.2.1 = some .boolean ∧ (x = 0 ∨ x = 1))) (hQ : Q (some (some (gI x))) h) : G π mi pc loc [gI x] h mc ms Q := by
  intro Γ p e R s m args below meth c QE H locs cells slots ls st hC hE hH hl hs hS h1 h2
  exact hE.1 (some (gI x)) st h H locs cells slots pc ls hQ hs hH hS (by omega) (by omega) (Or.inl ⟨hd, x, rfl, hr⟩)
theorem g_aret {o : Option Nat} {n : String} (hd : decode mi.2.1 pc = .ok (.areturn, 1)) (hr : mi.2.2.2.2.2.2.1 = some (.object n)) (hQ : Q (some (some (gR o))) h) : G π mi pc loc [gR o] h mc ms Q := by
  intro Γ p e R s m args below meth c QE H locs cells slots ls st hC hE hH hl hs hS h1 h2
  exact hE.1 (some (gR o)) st h H locs cells slots pc ls hQ hs hH hS (by omega) (by omega) (Or.inr (Or.inl ⟨hd, o, n, rfl, hr⟩))
theorem g_vret (hd : decode mi.2.1 pc = .ok (.return_, 1)) (hr : mi.2.2.2.2.2.2.1 = none) (hQ : Q (some none) h) : G π mi pc loc [] h mc ms Q := by
  intro Γ p e R s m args below meth c QE H locs cells slots ls st hC hE hH hl hs hS h1 h2
  exact hE.1 none st h H locs cells slots pc ls hQ hs hH hS (by omega) (by omega) (Or.inr (Or.inr ⟨hd, rfl, hr⟩))
theorem g_args {Γ : gE} : ∀ {as : List gV} {vs : List Value} (i : Nat), gs Γ as vs → (∀ v ∈ as, (∃ x, v = gI x) ∨ ∃ o, v = gR o) →
    (∀ (j : Nat) (x : Int), as[j]? = some (gI x) → ∃ y : Int32, (i + j, Value.int y) ∈ lv_args i vs ∧ y.toInt = x) ∧ (∀ (j : Nat) (o : Option Nat), as[j]? = some (gR o) → (i + j, va_rf (o.map (ga Γ))) ∈ lv_args i vs) ∧ (lg_sl vs).length = as.length
  | [], [], i, _, _ => ⟨fun j x h => by simp at h, fun j x h => by simp at h, rfl⟩
  | [], _ :: _, _, h, _ => h.elim
  | _ :: _, [], _, h, _ => h.elim
  | v :: as, w :: vs, i, h, ha => by
    have hc : w.category = 1 := by
      rcases ha v List.mem_cons_self with ⟨x, rfl⟩ | ⟨o, rfl⟩
      · obtain ⟨⟨y, rfl, -⟩, -⟩ := h
        rfl
      · have h1 : w = va_rf (o.map (ga Γ)) := h.1
        rw [h1]
        cases o <;> rfl
    obtain ⟨r1, r2, r3⟩ := g_args (i + 1) h.2 (fun v hv => ha v (List.mem_cons_of_mem _ hv))
    have e : lv_args i (w :: vs) = (i, w) :: lv_args (i + 1) vs := by simp [lv_args, hc]
    refine ⟨fun j x hj => ?_, fun j o hj => ?_, ?_⟩
    · rw [e]
      cases j with
      | zero =>
        cases Option.some.inj hj
        obtain ⟨⟨y, rfl, hy⟩, -⟩ := h
        exact ⟨y, List.mem_cons_self, hy⟩
      | succ j =>
        obtain ⟨y, hm, hy⟩ := r1 j x (by simpa using hj)
        exact ⟨y, List.mem_cons_of_mem _ (by rw [show i + (j + 1) = i + 1 + j by omega]; exact hm), hy⟩
    · rw [e]
      cases j with
      | zero =>
        cases Option.some.inj hj
        have h1 : w = va_rf (o.map (ga Γ)) := h.1
        rw [h1]
        exact List.mem_cons_self
      | succ j => exact List.mem_cons_of_mem _ (by rw [show i + (j + 1) = i + 1 + j by omega]; exact r2 j o (by simpa using hj))
    · have e2 : lg_sl (w :: vs) = Slot.val w :: lg_sl vs := by simp [lg_sl, hc]
      rw [e2, List.length_cons, List.length_cons, r3]
theorem g_pad {as : List gV} {k j : Nat} {v : gV} (h : (as ++ List.replicate k gU)[j]? = some v) (hv : v ≠ gU) : as[j]? = some v := by
  by_cases hj : j < as.length
  · rwa [List.getElem?_append_left hj] at h
  · rw [List.getElem?_append_right (by omega)] at h
    exact absurd (List.eq_of_mem_replicate (List.mem_of_getElem? h)) hv
/-- a contract, out of the walk of its body -/
theorem gMet_of {y : MethodName} {as : List gV} (hy : Jvm.plainName y.cls = true) (hc : y.cls = mi.1) (hnm : y.name = mi.2.2.2.2.2.1) (hh : mi.2.2.2.2.2.2.2 = []) (hlen : as.length ≤ mi.2.2.1) (has : ∀ v ∈ as, (∃ x, v = gI x) ∨ ∃ o, v = gR o)
    (k : G π mi 0 (as ++ List.replicate (mi.2.2.1 - as.length) gU) [] h mc ms Q) : gMet π mi y as h mc ms Q := by
  intro hst Γ
  have hcw : gcw mi y = Cond.code y mi.2.1 mi.2.2.1 mi.2.2.2.2.2.2.1 := by unfold gcw; rw [hh]
  refine vx_ofW (cc := mi.2.1) (maxL := mi.2.2.1) (ret := mi.2.2.2.2.2.2.1) hy (by rw [hcw]) ?_
  intro p e s m args below meth c s₁ B hml htab hP
  obtain ⟨vs, rfl, hs, hK, hZ, hH⟩ := hP
  obtain ⟨a1, a2, a3⟩ := g_args 0 hs has
  have hts := atoms_spec (ws := gcw mi y :: π.2.1) B.pre
  have hC : gC π Γ mi p (headSpec (gcw mi y :: π.2.1) { frames := mi.2.2.2.1, cells := mc, slots := ms, locals := mi.2.2.2.2.1 }).room s m vs.toArray meth c :=
    ⟨B.exec, B.bytes, hml, by rw [← hc]; exact findClass_of_methodNamed B.named, fun w hw => hts w (List.mem_cons_of_mem _ hw), B.notSynchronized, Nat.le_refl _, Nat.le_refl _, by rw [← hnm]; exact (name_of_methodNamed B.named B.method).1, B.returns, by
      rw [hh]
      cases ht : c.exceptionTable.toList with
      | nil => rfl
      | cons z zs => exact (htab z (by rw [ht]; exact List.mem_cons_self)).elim, hK, hZ, hst⟩
  rw [lg_entry_eq]
  refine k Γ p e _ s m vs.toArray below meth c _ s.heap [] 0 0 _ [] hC (gEnd_of hC) hH ?_ trivial va_S.rf (by show 0 + mc ≤ mc; omega) (by show 0 + ms ≤ ms; omega)
  refine ⟨lv_args 0 vs, lv_entry vs (by omega), fun j x hj => ?_, fun j o hj => ?_⟩
  · have h9 := a1 j x (g_pad hj (by intro z; cases z))
    rwa [Nat.zero_add] at h9
  · have h9 := a2 j o (g_pad hj (by intro z; cases z))
    rwa [Nat.zero_add] at h9
/-- .. of a body with handlers -/
theorem gMet_ofH {y : MethodName} {as : List gV} {q0 : Nat × Nat × Nat × Nat} {qs : List (Nat × Nat × Nat × Nat)} (hy : Jvm.plainName y.cls = true) (hc : y.cls = mi.1) (hnm : y.name = mi.2.2.2.2.2.1) (hh : mi.2.2.2.2.2.2.2 = q0 :: qs) (hlen : as.length ≤ mi.2.2.1) (has : ∀ v ∈ as, (∃ x, v = gI x) ∨ ∃ o, v = gR o)
    (k : G π mi 0 (as ++ List.replicate (mi.2.2.1 - as.length) gU) [] h mc ms Q) : gMet π mi y as h mc ms Q := by
  intro hst Γ
  have hcw : gcw mi y = Cond.codeWith y mi.2.1 mi.2.2.1 mi.2.2.2.2.2.2.1 (q0 :: qs) := by unfold gcw; rw [hh]
  refine vx_ofWH (cc := mi.2.1) (maxL := mi.2.2.1) (ret := mi.2.2.2.2.2.2.1) (hh := q0 :: qs) hy (by rw [hcw]) ?_
  intro p e s m args below meth c s₁ B hml hP
  obtain ⟨vs, rfl, hs, hK, hZ, hH⟩ := hP
  obtain ⟨a1, a2, a3⟩ := g_args 0 hs has
  have hts := atoms_spec (ws := gcw mi y :: π.2.1) B.pre
  have hC : gC π Γ mi p (headSpec (gcw mi y :: π.2.1) { frames := mi.2.2.2.1, cells := mc, slots := ms, locals := mi.2.2.2.2.1 }).room s m vs.toArray meth c :=
    ⟨B.exec, B.bytes, hml, by rw [← hc]; exact findClass_of_methodNamed B.named, fun w hw => hts w (List.mem_cons_of_mem _ hw), B.notSynchronized, Nat.le_refl _, Nat.le_refl _, by rw [← hnm]; exact (name_of_methodNamed B.named B.method).1, B.returns, by
      rw [hh]
      exact vx_table (x := y) B (by have h9 := hts _ List.mem_cons_self; rw [hcw] at h9; exact h9), hK, hZ, hst⟩
  rw [lg_entry_eq]
  refine k Γ p e _ s m vs.toArray below meth c _ s.heap [] 0 0 _ [] hC (gEnd_of hC) hH ?_ trivial va_S.rf (by show 0 + mc ≤ mc; omega) (by show 0 + ms ≤ ms; omega)
  refine ⟨lv_args 0 vs, lv_entry vs (by omega), fun j x hj => ?_, fun j o hj => ?_⟩
  · have h9 := a1 j x (g_pad hj (by intro z; cases z))
    rwa [Nat.zero_add] at h9
  · have h9 := a2 j o (g_pad hj (by intro z; cases z))
    rwa [Nat.zero_add] at h9
end GENDS
section GCALL
variable {π : gP} {mi mj : gM} {pc : Nat} {loc stk : List gV} {h : gH} {mc ms mc' ms' : Nat} {Q Q' : Option (Option gV) → gH → Prop}
theorem gPc_blind {Γ : gE} {as : List gV} : FrameBlind (gPc π Γ as h) := by
  intro a U g mk hP
  obtain ⟨vs, h1, h2, h3, h4, h5⟩ := hP
  have hW : U.WarmedH (U.calling g mk a).vm := State.WarmedH.refl U
  exact ⟨vs, h1, h2, gK.moved hW h3, ⟨h4.1.moved hW.alike, h4.2.moved hW.alike⟩, h5.moved hW.alike⟩
theorem gZ.here {Γ : gE} {s U : State} {H : Heap} {locs : List Loc} (hZ : gZ Γ s s.heap) (hS : va_S (gfree Γ) s.heap H locs) (hW : s.WarmedH U.vm) (hU : U.heap = H) : gZ Γ U U.heap := by
  rw [hU]
  exact ⟨vx_Zq.moved hW.alike (hZ.1.kept hS.2.1), vx_Zq.moved hW.alike (hZ.2.kept hS.2.1)⟩
theorem g_pre {Γ : gE} {p : Program} {R : Room} {s : State} {m : MethodId} {args : Array Value} {meth : Method} {c : Code} {H : Heap} {locs : List Loc} {as : List gV} {vs : List Value} (hC : gC π Γ mi p R s m args meth c) (hH : gHR π Γ s h H) (hS : va_S (gfree Γ) s.heap H locs) (hs : gs Γ as vs) :
    ∀ U : State, U.heap = H → s.WarmedH U.vm → gPc π Γ as h vs.toArray U := by
  intro U hU hW
  exact ⟨vs, rfl, hs, gK.moved hW hC.2.2.2.2.2.2.2.2.2.2.2.1, gZ.here hC.2.2.2.2.2.2.2.2.2.2.2.2.1 hS hW hU, by rw [hU]; exact hH.moved hW.alike⟩
/-- behind a call -/
theorem g_back {Γ : gE} {p : Program} {e : Env} {R : Room} {s : State} {m : MethodId} {args : Array Value} {below : List Frame} {meth : Method} {c : Code} {QE : State → Prop} {H : Heap} {locs : List Loc} {cells slots : Nat} {ls : Array Slot} {st0 rest : List Value} {a : Array Value}
    (hr : vx_Run p π.1 e R s m args below meth c H locs cells slots mc' ms' (F0 m pc ls st0) rest (gQc π Γ Q' a) (gXC π Γ Q') (gfree Γ)) (hC : gC π Γ mi p R s m args meth c) (hE : gEnd π Γ mi Q p e R s m args below meth c QE) (hl : gl Γ mi.2.2.1 loc ls) (hs : gs Γ stk rest) (hS : va_S (gfree Γ) s.heap H locs) (h1 : cells + (mc + mc') ≤ R.cells) (h2 : slots + (ms + ms') ≤ R.slots)
    (k : ∀ r h', Q' (some r) h' → G π mi (pc + 3) loc (r.toList ++ stk) h' mc ms Q) (kx : ∀ h', Q' none h' → GX π mi pc loc h' mc ms Q) : W p π.1 e R s m args below meth c H locs cells slots QE (F0 m pc ls st0) := by
  intro T hT X
  have hframe : ∀ (st₀ t T' : State) (L : List Loc), st₀.heap = H → T'.heap = t.heap → (∀ q ∈ L, gfree Γ q.base) → va_F (gfree Γ) st₀ t → va_S (gfree Γ) s.heap T'.heap (locs ++ L) := by
    intro st₀ t T' L e0 e1 hL hF
    refine ⟨?_, fun q z1 z2 => ?_, fun q hq => ?_⟩
    · rw [e1]; exact Nat.le_trans hS.1 (by rw [← e0]; exact hF.1)
    · rw [e1, hF.2 q (by rw [e0]; exact Nat.lt_of_lt_of_le z1 hS.1) z2, e0]
      exact hS.2.1 q z1 z2
    · rcases List.mem_append.mp hq with z | z
      · exact hS.2.2 q z
      · exact hL q z
  rcases hr T hT X with ⟨v, st₀, t, T', L, e0, X', hL, e1, e2, hq, st⟩ | ⟨q, st₀, t, T', L, E, ce, e0, X', hL, e1, e2, hx, hce, hcv, hcl, st⟩
  · obtain ⟨r, h', w, hQ', ho, hro, hH', hF⟩ := hq
    cases ho
    have hv : t.vm.Alike s.vm := by rw [← e2]; exact X'.warmed.alike.symm
    have hH2 : gHR π Γ s h' T'.heap := by rw [e1]; exact hH'.moved hv
    have hs2 : gs Γ (r.toList ++ stk) (v.toList ++ rest) := by
      cases r with
      | none => cases v with
        | none => exact hs
        | some w => exact hro.elim
      | some r => cases v with
        | none => exact hro.elim
        | some w => exact ⟨hro, hs⟩
    obtain ⟨t2, a1, b1⟩ := k r h' hQ' Γ p e R s m args below meth c QE T'.heap (locs ++ L) (cells + mc') (slots + ms') ls (v.toList ++ rest) hC hE hH2 hl hs2 (hframe st₀ t T' L e0 e1 hL hF) (by omega) (by omega) T' rfl X'
    exact ⟨t2, st t2 a1, b1⟩
  · obtain ⟨rfl, h', hQ', hH', hF⟩ := hx
    have hv : t.vm.Alike s.vm := by rw [← e2]; exact X'.warmed.alike.symm
    have hH2 : gHR π Γ s h' T'.heap := by rw [e1]; exact hH'.moved hv
    obtain ⟨t2, a1, b1⟩ := kx h' hQ' Γ p e R s m args below meth c QE T'.heap (locs ++ L) (cells + mc') (slots + ms') ls rest ce q hC hE hH2 hl (hframe st₀ t T' L e0 e1 hL hF) (by omega) (by omega) (by rw [e1]; exact hce) hcv hcl T' rfl X'
    exact ⟨t2, st.trans a1, b1⟩
/-- the words of a call of y, whose method is mj, at index idx of own -/
def gW (π : gP) (own : String) (mj : gM) (idx : Nat) (y : MethodName) (n : Nat) : Prop :=
  gcw mj y ∈ π.2.1 ∧ Cond.initialized y.cls ∈ π.2.1 ∧ Cond.methodLink own idx y ∈ π.2.1 ∧ (y.cls ≠ "java/lang/invoke/MethodHandle" ∧ y.cls ≠ "java/lang/invoke/VarHandle") ∧ (parseMethodDescriptor y.desc).map (fun d => d.parameters.length) = some n ∧ π.2.1.all goodWord = true
theorem g_cb {p : Program} {R : Room} {s : State} {m : MethodId} {args : Array Value} {meth : Method} {c : Code} {Γ : gE} {idx n : Nat} {y : MethodName} (hC : gC π Γ mi p R s m args meth c) (hw : gW π mi.1 mj idx y n) (hh : mj.2.2.2.2.2.2.2 = []) (hR : mj.2.2.2.1 + 1 ≤ mi.2.2.2.1 ∧ 8 + (mj.2.2.1 + 11) + mj.2.2.2.2.1 ≤ mi.2.2.2.2.1) :
    CallB R s args mi.1 idx y mj.2.1 mj.2.2.1 mj.2.2.2.2.2.2.1 (gcw mj y :: π.2.1) { frames := mj.2.2.2.1, cells := mc', slots := ms', locals := mj.2.2.2.2.1 } mc' ms' n := by
  obtain ⟨hx, hb, -, hown, hts, -, hfr, hlo, -⟩ := hC
  obtain ⟨w1, w2, w3, w4, w5, w6⟩ := hw
  have hcw : gcw mj y = Cond.code y mj.2.1 mj.2.2.1 mj.2.2.2.2.2.2.1 := by unfold gcw; rw [hh]
  refine ⟨rfl, rfl, by show mj.2.2.2.1 + 1 ≤ R.frames; omega, by show 8 + (mj.2.2.1 + 11) + mj.2.2.2.2.1 ≤ R.locals; omega, fun w hw a' U hW => ?_, by rw [hcw]; exact List.mem_cons_self, by rw [← hcw]; exact hts _ w1, hts _ w2, w4, fun sig hsig => ?_, hts _ w3⟩
  · have hm : w ∈ π.2.1 := (List.mem_cons.mp hw).elim (fun e => by rw [e]; exact w1) id
    exact word_at hW (good_of_word (List.all_eq_true.mp w6 w hm)) (hts w hm)
  · rw [hsig] at w5
    exact (Option.some.inj w5).symm
theorem g_ls {Γ : gE} {nL : Nat} {ls : Array Slot} (hl : gl Γ nL loc ls) : ls.size = nL := by
  obtain ⟨lv, v1, -⟩ := hl
  exact v1.1
theorem g_r8 {m : MethodId} {ls : Array Slot} {st0 : List Value} {Γ : gE} {rest : List Value} (hs : gs Γ stk rest) (h8 : gcs stk ≤ 8) : 2 * (F0 m pc ls st0).monitorRoom + (rest.map fun v => v.category).sum ≤ 8 := lv_room (Nat.le_trans (gs_room hs) h8)
/-- a virtual call (also of a private method) -/
theorem g_callV {idx n ci : Nat} {y : MethodName} {as : List gV} {r : vw_C} (hd : decode mi.2.1 pc = .ok (.invokevirtual idx, 3)) (hw : gW π mi.1 mj idx y as.length) (hh : mj.2.2.2.2.2.2.2 = []) (hR : mj.2.2.2.1 + 1 ≤ mi.2.2.2.1 ∧ 8 + (mj.2.2.1 + 11) + mj.2.2.2.2.1 ≤ mi.2.2.2.2.1) (hv : Cond.instanceMethod y ∈ π.2.1 ∧ Cond.selects r.1 y y ∈ π.2.1) (hr : π.2.2.1[ci]? = some r)
    (ht : h.1 n = .inl ci) (hn : n < h.2.2.2.1) (h8 : gcs stk ≤ 8) (hM : gMet π mj y (gR (some n) :: as) h mc' ms' Q') (k : ∀ r h', Q' (some r) h' → G π mi (pc + 3) loc (r.toList ++ stk) h' mc ms Q) (kx : ∀ h', Q' none h' → GX π mi pc loc h' mc ms Q) : G π mi pc loc (as.reverse ++ gR (some n) :: stk) h (mc + mc') (ms + ms') Q := by
  intro Γ p e R s m args below meth c QE H locs cells slots ls st hC hE hH hl hs hS h1 h2
  obtain ⟨s1, s2, e9, hs1, hs9⟩ := gs_app hs; subst e9; clear hs; have hs := hs9; clear hs9
  obtain ⟨rest, e9, hs9⟩ := gs_ref hs; subst e9; clear hs; have hs := hs9; clear hs9
  have hs3 := gs_rev hs1
  rw [List.reverse_reverse] at hs3
  obtain ⟨V, ⟨cell, q1, q2, q3, q4⟩, -⟩ := g_obj hH hn ht hr
  have hM9 := hM hC.2.2.2.2.2.2.2.2.2.2.2.2.2 Γ
  refine g_back (vx_runV (C := r.1) (b := ga Γ n) (As := s1.reverse) (rest := rest) ⟨hC.1, hC.2.1, hC.2.2.1, hC.2.2.2.1, hC.2.2.2.2.1⟩ hM9 ⟨g_cb hC hw hh hR, hC.2.2.2.2.1 _ hv.1, hC.2.2.2.2.1 _ hv.2⟩
    ⟨gPc_blind, ⟨cell, q1, by rw [q3]; rfl, by rw [q2]; exact (hC.2.2.2.2.2.2.2.2.2.2.2.1.1 ci r hr).2.1⟩, g_pre hC hH hS ⟨rfl, hs3⟩⟩ rfl (gs_len hs3) (g_ls hl) (by rw [List.reverse_reverse]; rfl) (g_r8 hs h8) hd ⟨by omega, by omega⟩) hC hE hl hs hS h1 h2 k kx
/-- a contract that throws nothing -/
theorem gMet_met {y : MethodName} {as : List gV} {Γ : gE} (hst : π.1.stackTraces = false) (hM : gMet π mj y as h mc' ms' Q') (hnx : ∀ k, ¬ Q' none k) : Met π.1 y (gcw mj y :: π.2.1) { frames := mj.2.2.2.1, cells := mc', slots := ms', locals := mj.2.2.2.2.1 } (gPc π Γ as h) (gQc π Γ Q') mc' ms' (gfree Γ) := by
  intro p e ha hc hk s m args below hf happ hP hK
  obtain ⟨n, o, h1, h2, h3, h4⟩ := hM hst Γ p e ha hc hk s m args below hf happ hP hK
  refine ⟨n, o, h1, h2, h3, ?_⟩
  rcases h4 with h4 | ⟨q, -, E, ce, L, ⟨-, k, hk, -⟩, -⟩
  · exact h4
  · exact absurd hk (hnx k)
/-- a constructor -/
theorem g_callI {idx n : Nat} {y : MethodName} {as : List gV} (hd : decode mi.2.1 pc = .ok (.invokespecial idx, 3)) (hw : gW π mi.1 mj idx y as.length) (hh : mj.2.2.2.2.2.2.2 = [] ∧ mj.2.2.2.2.2.2.1 = none) (hR : mj.2.2.2.1 + 1 ≤ mi.2.2.2.1 ∧ 8 + (mj.2.2.1 + 11) + mj.2.2.2.2.1 ≤ mi.2.2.2.2.1) (hv : y.name = "<init>" ∧ Cond.instanceMethod y ∈ π.2.1)
    (h8 : gcs stk ≤ 8) (hM : gMet π mj y (gR (some n) :: as) h mc' ms' Q') (hnx : ∀ k, ¬ Q' none k) (k : ∀ r h', Q' (some r) h' → G π mi (pc + 3) loc (r.toList ++ stk) h' mc ms Q) : G π mi pc loc (as.reverse ++ gR (some n) :: stk) h (mc + mc') (ms + ms') Q := by
  intro Γ p e R s m args below meth c QE H locs cells slots ls st hC hE hH hl hs hS h1 h2
  obtain ⟨s1, s2, e9, hs1, hs9⟩ := gs_app hs; subst e9; clear hs; have hs := hs9; clear hs9
  obtain ⟨rest, e9, hs9⟩ := gs_ref hs; subst e9; clear hs; have hs := hs9; clear hs9
  have hs3 := gs_rev hs1
  rw [List.reverse_reverse] at hs3
  have hM9 := gMet_met (Γ := Γ) hC.2.2.2.2.2.2.2.2.2.2.2.2.2 hM hnx
  have hcb := g_cb (mc' := mc') (ms' := ms') hC hw hh.1 hR
  rw [hh.2] at hcb
  have hrun := va_runI (e := e) (below := below) (meth := meth) (H := H) (locs := locs) (cells := cells) (slots := slots) (g := F0 m pc ls (s1 ++ va_rf (Option.map (ga Γ) (some n)) :: rest)) (b := ga Γ n) (As := s1.reverse) (rest := rest) ⟨hC.1, hC.2.1, hC.2.2.1, hC.2.2.2.1, hC.2.2.2.2.1⟩ hM9 ⟨hcb, hv.1, hC.2.2.2.2.1 _ hv.2⟩
    ⟨gPc_blind, g_pre hC hH hS ⟨rfl, hs3⟩⟩ rfl (gs_len hs3) (g_ls hl) (by rw [List.reverse_reverse]; rfl) (g_r8 hs h8) hd ⟨by omega, by omega⟩
  exact g_back (a := (Value.ref (ga Γ n) :: s1.reverse).toArray) (fun T hT X => Or.inl (hrun T hT X)) hC hE hl hs hS h1 h2 k (fun h' z => absurd z (hnx h'))
/-- a static call -/
theorem g_callS {idx : Nat} {y : MethodName} {as : List gV} (hd : decode mi.2.1 pc = .ok (.invokestatic idx, 3)) (hw : gW π mi.1 mj idx y as.length) (hh : mj.2.2.2.2.2.2.2 = []) (hR : mj.2.2.2.1 + 1 ≤ mi.2.2.2.1 ∧ 8 + (mj.2.2.1 + 11) + mj.2.2.2.2.1 ≤ mi.2.2.2.2.1) (hv : Cond.static y ∈ π.2.1)
    (h8 : gcs stk ≤ 8) (hM : gMet π mj y as h mc' ms' Q') (k : ∀ r h', Q' (some r) h' → G π mi (pc + 3) loc (r.toList ++ stk) h' mc ms Q) (kx : ∀ h', Q' none h' → GX π mi pc loc h' mc ms Q) : G π mi pc loc (as.reverse ++ stk) h (mc + mc') (ms + ms') Q := by
  intro Γ p e R s m args below meth c QE H locs cells slots ls st hC hE hH hl hs hS h1 h2
  obtain ⟨s1, rest, e9, hs1, hs9⟩ := gs_app hs; subst e9; clear hs; have hs := hs9; clear hs9
  have hs3 := gs_rev hs1
  rw [List.reverse_reverse] at hs3
  have hM9 := hM hC.2.2.2.2.2.2.2.2.2.2.2.2.2 Γ
  refine g_back (vx_runS (As := s1.reverse) (rest := rest) ⟨hC.1, hC.2.1, hC.2.2.1, hC.2.2.2.1, hC.2.2.2.2.1⟩ hM9 ⟨g_cb hC hw hh hR, hC.2.2.2.2.1 _ hv⟩
    ⟨gPc_blind, g_pre hC hH hS hs3⟩ rfl (gs_len hs3) (g_ls hl) (by rw [List.reverse_reverse]) (g_r8 hs h8) hd ⟨by omega, by omega⟩) hC hE hl hs hS h1 h2 k kx
/-- a static call of a method with handlers -/
theorem g_callSH {idx : Nat} {y : MethodName} {as : List gV} {q0 : Nat × Nat × Nat × Nat} {qs : List (Nat × Nat × Nat × Nat)} (hd : decode mi.2.1 pc = .ok (.invokestatic idx, 3)) (hw : gW π mi.1 mj idx y as.length) (hh : mj.2.2.2.2.2.2.2 = q0 :: qs) (hR : mj.2.2.2.1 + 1 ≤ mi.2.2.2.1 ∧ 8 + (mj.2.2.1 + 11) + mj.2.2.2.2.1 ≤ mi.2.2.2.2.1) (hv : Cond.static y ∈ π.2.1)
    (h8 : gcs stk ≤ 8) (hM : gMet π mj y as h mc' ms' Q') (k : ∀ r h', Q' (some r) h' → G π mi (pc + 3) loc (r.toList ++ stk) h' mc ms Q) (kx : ∀ h', Q' none h' → GX π mi pc loc h' mc ms Q) : G π mi pc loc (as.reverse ++ stk) h (mc + mc') (ms + ms') Q := by
  intro Γ p e R s m args below meth c QE H locs cells slots ls st hC hE hH hl hs hS h1 h2
  obtain ⟨s1, rest, e9, hs1, hs9⟩ := gs_app hs; subst e9; clear hs; have hs := hs9; clear hs9
  have hs3 := gs_rev hs1
  rw [List.reverse_reverse] at hs3
  have hM9 := hM hC.2.2.2.2.2.2.2.2.2.2.2.2.2 Γ
  obtain ⟨hx, hb, hml, hown, hts, -, hfr, hlo, -⟩ := id hC
  obtain ⟨w1, w2, w3, w4, w5, w6⟩ := hw
  have hcw : gcw mj y = Cond.codeWith y mj.2.1 mj.2.2.1 mj.2.2.2.2.2.2.1 (q0 :: qs) := by unfold gcw; rw [hh]
  refine g_back (vx_runSX (hh := q0 :: qs) (bytes := mj.2.1) (maxL := mj.2.2.1) (ret := mj.2.2.2.2.2.2.1) (As := s1.reverse) (rest := rest) ⟨hx, hb, hml, hown, hts⟩ hM9
    ⟨⟨rfl, rfl, by show mj.2.2.2.1 + 1 ≤ R.frames; omega, by show 8 + (mj.2.2.1 + 11) + mj.2.2.2.2.1 ≤ R.locals; omega, fun w hw a' U hW => ?_, by rw [hcw]; exact List.mem_cons_self⟩, by rw [← hcw]; exact hts _ w1, hts _ w2, w4, fun sig hsig => ?_, hts _ w3, hts _ hv⟩
    ⟨gPc_blind, g_pre hC hH hS hs3⟩ rfl (gs_len hs3) (g_ls hl) (by rw [List.reverse_reverse]) (g_r8 hs h8) hd ⟨by omega, by omega⟩) hC hE hl hs hS h1 h2 k kx
  · have hm : w ∈ π.2.1 := (List.mem_cons.mp hw).elim (fun e => by rw [e]; exact w1) id
    exact word_at hW (good_of_word (List.all_eq_true.mp w6 w hm)) (hts w hm)
  · rw [hsig] at w5
    exact (Option.some.inj w5).symm
/-- a constructor of a nest mate -/
theorem g_callIN {idx n : Nat} {y : MethodName} {as : List gV} {host : String} (hd : decode mi.2.1 pc = .ok (.invokespecial idx, 3)) (hw : gcw mj y ∈ π.2.1 ∧ Cond.initialized y.cls ∈ π.2.1 ∧ (mi.1, idx, y, host) ∈ π.2.2.2.2.2 ∧ (y.cls ≠ "java/lang/invoke/MethodHandle" ∧ y.cls ≠ "java/lang/invoke/VarHandle") ∧ (parseMethodDescriptor y.desc).map (fun d => d.parameters.length) = some as.length ∧ π.2.1.all goodWord = true) (hh : mj.2.2.2.2.2.2.2 = [] ∧ mj.2.2.2.2.2.2.1 = none) (hR : mj.2.2.2.1 + 1 ≤ mi.2.2.2.1 ∧ 8 + (mj.2.2.1 + 11) + mj.2.2.2.2.1 ≤ mi.2.2.2.2.1) (hv : y.name = "<init>" ∧ Cond.instanceMethod y ∈ π.2.1)
    (h8 : gcs stk ≤ 8) (hM : gMet π mj y (gR (some n) :: as) h mc' ms' Q') (hnx : ∀ k, ¬ Q' none k) (k : ∀ r h', Q' (some r) h' → G π mi (pc + 3) loc (r.toList ++ stk) h' mc ms Q) : G π mi pc loc (as.reverse ++ gR (some n) :: stk) h (mc + mc') (ms + ms') Q := by
  intro Γ p e R s m args below meth c QE H locs cells slots ls st hC hE hH hl hs hS h1 h2
  obtain ⟨s1, s2, e9, hs1, hs9⟩ := gs_app hs; subst e9; clear hs; have hs := hs9; clear hs9
  obtain ⟨rest, e9, hs9⟩ := gs_ref hs; subst e9; clear hs; have hs := hs9; clear hs9
  have hs3 := gs_rev hs1
  rw [List.reverse_reverse] at hs3
  have hM9 := gMet_met (Γ := Γ) hC.2.2.2.2.2.2.2.2.2.2.2.2.2 hM hnx
  obtain ⟨hx, hb, hml, hown, hts, -, hfr, hlo, -, -, -, hK, -⟩ := id hC
  obtain ⟨w1, w2, w3, w4, w5, w6⟩ := hw
  have hcw : gcw mj y = Cond.code y mj.2.1 mj.2.2.1 none := by unfold gcw; rw [hh.1, hh.2]
  have hrun := va_runIN (e := e) (below := below) (meth := meth) (H := H) (locs := locs) (cells := cells) (slots := slots) (g := F0 m pc ls (s1 ++ va_rf (Option.map (ga Γ) (some n)) :: rest)) (host := host) (bytes := mj.2.1) (maxL := mj.2.2.1) (b := ga Γ n) (As := s1.reverse) (rest := rest) (R := R) ⟨hx, hb, hml, hown, hts⟩ hM9
    ⟨⟨⟨rfl, rfl, by show mj.2.2.2.1 + 1 ≤ R.frames; omega, by show 8 + (mj.2.2.1 + 11) + mj.2.2.2.2.1 ≤ R.locals; omega, fun w hw a' U hW => (by
        have hm : w ∈ π.2.1 := (List.mem_cons.mp hw).elim (fun e => by rw [e]; exact w1) id
        exact word_at hW (good_of_word (List.all_eq_true.mp w6 w hm)) (hts w hm)), by rw [hcw]; exact List.mem_cons_self⟩, by rw [← hcw]; exact hts _ w1, hts _ w2, w4, fun sig hsig => (by
        rw [hsig] at w5
        exact (Option.some.inj w5).symm), va_Nw.use rfl (hK.2.2.2.2.2.1 _ w3)⟩, hv.1, hts _ hv.2⟩
    ⟨gPc_blind, g_pre hC hH hS ⟨rfl, hs3⟩⟩ rfl (gs_len hs3) (g_ls hl) (by rw [List.reverse_reverse]; rfl) (g_r8 hs h8) hd ⟨by omega, by omega⟩
  exact g_back (a := (Value.ref (ga Γ n) :: s1.reverse).toArray) (fun T hT X => Or.inl (hrun T hT X)) hC hE hl hs hS h1 h2 k (fun h' z => absurd z (hnx h'))
/-- Object's constructor -/
theorem g_objInit {idx n : Nat} (hd : decode mi.2.1 pc = .ok (.invokespecial idx, 3)) (hw : Cond.methodLink mi.1 idx Lib.objectInit ∈ π.2.1 ∧ Cond.instanceMethod Lib.objectInit ∈ π.2.1 ∧ Cond.code Lib.objectInit ⟨#[0xb1]⟩ 1 none ∈ π.2.1) (hR : 1 ≤ mi.2.2.2.1 ∧ gcs stk + 12 ≤ mi.2.2.2.2.1) (k : G π mi (pc + 3) loc stk h mc ms Q) : G π mi pc loc (gR (some n) :: stk) h mc ms Q := by
  intro Γ p e R s m args below meth c QE H locs cells slots ls st hC hE hH hl hs hS h1 h2
  obtain ⟨rest, e9, hs9⟩ := gs_ref hs; subst e9; clear hs; have hs := hs9; clear hs9
  have hr := gs_room hs
  obtain ⟨hx, hb, hml, hown, hts, -, hfr, hlo, -⟩ := id hC
  exact W.objInit hx hb hown (hts _ hw.1) (hts _ hw.2.1) (hts _ hw.2.2) rfl (by rw [hml]; exact g_ls hl) rfl hd (by omega) (by show 2 * 0 + _ + 12 ≤ _; omega) (k Γ p e R s m args below meth c QE H locs cells slots ls rest hC hE hH hl hs hS h1 h2)
theorem g_max {idx : Nat} {a b : Int} (hd : decode mi.2.1 pc = .ok (.invokestatic idx, 3)) (hw : Cond.methodLink mi.1 idx Lib.Math.max.name ∈ π.2.1 ∧ Cond.static Lib.Math.max.name ∈ π.2.1 ∧ Cond.initialized "java/lang/Math" ∈ π.2.1 ∧ Cond.code Lib.Math.max.name Lib.Math.max.code 2 (some .int) ∈ π.2.1) (hR : 1 ≤ mi.2.2.2.1 ∧ gcs stk + 13 ≤ mi.2.2.2.2.1) (k : G π mi (pc + 3) loc (gI (max a b) :: stk) h mc ms Q) : G π mi pc loc (gI b :: gI a :: stk) h mc ms Q := by
  intro Γ p e R s m args below meth c QE H locs cells slots ls st hC hE hH hl hs hS h1 h2
  obtain ⟨y, st, e9, hy, hs9⟩ := gs_int hs; subst e9; clear hs; have hs := hs9; clear hs9
  obtain ⟨x, rest, e9, hx9, hs9⟩ := gs_int hs; subst e9; clear hs; have hs := hs9; clear hs9
  have hr := gs_room hs
  obtain ⟨hx, hb, hml, hown, hts, -, hfr, hlo, -⟩ := id hC
  refine va_mmax hx hb (by rw [hml, g_ls hl]) hown (hts _ hw.1) (hts _ hw.2.1) (hts _ hw.2.2.1) (hts _ hw.2.2.2) (by omega) (by omega) (by omega) (by omega) hd (k Γ p e R s m args below meth c QE H locs cells slots ls _ hC hE hH hl ⟨⟨_, rfl, ?_⟩, hs⟩ hS h1 h2)
  rw [← hx9, ← hy]
  split
  · rename_i z; rw [Int32.lt_iff_toInt_lt] at z; omega
  · rename_i z; rw [Int32.lt_iff_toInt_lt] at z; omega
theorem g_min {idx : Nat} {a b : Int} (hd : decode mi.2.1 pc = .ok (.invokestatic idx, 3)) (hw : Cond.methodLink mi.1 idx Lib.Math.min.name ∈ π.2.1 ∧ Cond.static Lib.Math.min.name ∈ π.2.1 ∧ Cond.initialized "java/lang/Math" ∈ π.2.1 ∧ Cond.code Lib.Math.min.name Lib.Math.min.code 2 (some .int) ∈ π.2.1) (hR : 1 ≤ mi.2.2.2.1 ∧ gcs stk + 13 ≤ mi.2.2.2.2.1) (k : G π mi (pc + 3) loc (gI (min a b) :: stk) h mc ms Q) : G π mi pc loc (gI b :: gI a :: stk) h mc ms Q := by
  intro Γ p e R s m args below meth c QE H locs cells slots ls st hC hE hH hl hs hS h1 h2
  obtain ⟨y, st, e9, hy, hs9⟩ := gs_int hs; subst e9; clear hs; have hs := hs9; clear hs9
  obtain ⟨x, rest, e9, hx9, hs9⟩ := gs_int hs; subst e9; clear hs; have hs := hs9; clear hs9
  have hr := gs_room hs
  obtain ⟨hx, hb, hml, hown, hts, -, hfr, hlo, -⟩ := id hC
  refine va_mmin hx hb (by rw [hml, g_ls hl]) hown (hts _ hw.1) (hts _ hw.2.1) (hts _ hw.2.2.1) (hts _ hw.2.2.2) (by omega) (by omega) (by omega) (by omega) hd (k Γ p e R s m args below meth c QE H locs cells slots ls _ hC hE hH hl ⟨⟨_, rfl, ?_⟩, hs⟩ hS h1 h2)
  rw [← hx9, ← hy]
  split
  · rename_i z; rw [Int32.lt_iff_toInt_lt] at z; omega
  · rename_i z; rw [Int32.lt_iff_toInt_lt] at z; omega
theorem g_abs {idx : Nat} {a : Int} (hd : decode mi.2.1 pc = .ok (.invokestatic idx, 3)) (hw : Cond.methodLink mi.1 idx Lib.Math.abs.name ∈ π.2.1 ∧ Cond.static Lib.Math.abs.name ∈ π.2.1 ∧ Cond.initialized "java/lang/Math" ∈ π.2.1 ∧ Cond.code Lib.Math.abs.name Lib.Math.abs.code 1 (some .int) ∈ π.2.1) (hR : 1 ≤ mi.2.2.2.1 ∧ gcs stk + 13 ≤ mi.2.2.2.2.1) (k : G π mi (pc + 3) loc (gI (if 0 ≤ a then a else gsub 0 a) :: stk) h mc ms Q) : G π mi pc loc (gI a :: stk) h mc ms Q := by
  intro Γ p e R s m args below meth c QE H locs cells slots ls st hC hE hH hl hs hS h1 h2
  obtain ⟨x, rest, e9, hx9, hs9⟩ := gs_int hs; subst e9; clear hs; have hs := hs9; clear hs9
  have hr := gs_room hs
  obtain ⟨hx, hb, hml, hown, hts, -, hfr, hlo, -⟩ := id hC
  refine va_mabs hx hb (by rw [hml, g_ls hl]) hown (hts _ hw.1) (hts _ hw.2.1) (hts _ hw.2.2.1) (hts _ hw.2.2.2) (by omega) (by omega) (by omega) (by omega) hd (k Γ p e R s m args below meth c QE H locs cells slots ls _ hC hE hH hl ⟨⟨_, rfl, ?_⟩, hs⟩ hS h1 h2)
  rw [← hx9]
  by_cases z : 0 ≤ x
  · rw [if_pos z, if_pos (by rw [Int32.le_iff_toInt_le, g_zero] at z; exact z)]
  · rw [if_neg z, if_neg (by rw [Int32.le_iff_toInt_le, g_zero] at z; exact z)]
    simp only [gsub, Int32.ofInt_toInt]
    rfl
end GCALL
section GTHROW
variable {π : gP} {mi : gM} {pc : Nat} {loc stk : List gV} {h : gH} {mc ms : Nat} {Q : Option (Option gV) → gH → Prop}
/-- not caught here -/
theorem gx_out (hh : mi.2.2.2.2.2.2.2 = []) (hQ : Q none h) : GX π mi pc loc h mc ms Q := by
  intro Γ p e R s m args below meth c QE H locs cells slots ls rest ce q hC hE hH hl hS h1 h2 hce hcv hcl
  rw [hE.2 h hQ]
  refine vx_out (fun x hx => ?_) hC.2.2.2.2.2.1 hce hcv hcl (fun t ht hA => ⟨rfl, h, hQ, by rw [ht]; exact hH.moved hA, hS.F ht⟩) hS.2.2 (by omega) (by omega)
  rw [hC.2.2.2.2.2.2.2.2.2.2.1, hh] at hx
  cases hx
/-- caught by the only row of the table, and kept at the place i -/
theorem gx_catch {q0 : Nat × Nat × Nat × Nat} {i len : Nat} (hh : mi.2.2.2.2.2.2.2 = [q0]) (hcov : q0.1 ≤ pc ∧ pc < q0.2.1) (h0 : q0.2.2.2 ≠ 0) (hw : Cond.classLink mi.1 q0.2.2.2 gIAE ∈ π.2.1) (hn : i < mi.2.2.1)
    (hd : (decode mi.2.1 q0.2.2.1 = .ok (.astore i, 2) ∧ len = 2) ∨ ∃ k : Fin 4, decode mi.2.1 q0.2.2.1 = .ok (.astore_n k, 1) ∧ (k : Nat) = i ∧ len = 1) (k : G π mi (q0.2.2.1 + len) (loc.set i gU) [] h mc ms Q) : GX π mi pc loc h mc ms Q := by
  intro Γ p e R s m args below meth c QE H locs cells slots ls rest ce q hC hE hH hl hS h1 h2 hce hcv hcl
  have hts := hC.2.2.2.2.1
  refine vx_catch (own := mi.1) (name := gIAE) (E := gIAE) (ce := ce) hC.2.2.2.1 [] ⟨q0.1, q0.2.1, q0.2.2.1, q0.2.2.2⟩ [] (by rw [hC.2.2.2.2.2.2.2.2.2.2.1, hh]; rfl) (fun z hz => nomatch hz) (by simp [covers, hcov]) h0 (hts _ hw) (va_Nw.use rfl (hC.2.2.2.2.2.2.2.2.2.2.2.1.2.2.2.2.2.2 _ (by simp [gNG]))) hce hcv hcl ?_
  obtain ⟨lv, v1, v2⟩ := hl
  rcases hd with ⟨hd, rfl⟩ | ⟨k9, hd, hi, rfl⟩
  · exact lv_astore hC.1 hC.2.1 hd v1 hn rfl fun ls' h9 => k Γ p e R s m args below meth c QE H locs cells slots ls' [] hC hE hH (gl_set (v := gU) v2 h9 trivial) trivial hS h1 h2
  · exact lv_astore_n hC.1 hC.2.1 hd hi v1 hn rfl fun ls' h9 => k Γ p e R s m args below meth c QE H locs cells slots ls' [] hC hE hH (gl_set (v := gU) v2 h9 trivial) trivial hS h1 h2
/-- throw new IllegalArgumentException("..") -/
theorem g_throw {ik is ic : Nat} {text : String} {names : List String} (d0 : decode mi.2.1 pc = .ok (.new ik, 3)) (d3 : decode mi.2.1 (pc + 3) = .ok (.dup, 1)) (d4 : decode mi.2.1 (pc + 4) = .ok (.ldc is, 2)) (d6 : decode mi.2.1 (pc + 6) = .ok (.invokespecial ic, 3)) (d9 : decode mi.2.1 (pc + 9) = .ok (.athrow, 1))
    (hw : Cond.classLink mi.1 ik gIAE ∈ π.2.1 ∧ Cond.initialized gIAE ∈ π.2.1 ∧ (∀ w ∈ vx_atS mi.1 ic gIAE names, w ∈ π.2.1 ∨ w ∈ gNG) ∧ π.2.1.all goodWord = true) (hf : Bundle.fit gIAE = true ∧ ∀ n ∈ names, Bundle.fit n = true) (htx : (mi.1, is, text) ∈ π.2.2.2.2.1) (hh : mi.2.2.2.2.2.2.2 = [])
    (hR : names.length + 3 < mi.2.2.2.1 ∧ gcs stk + (13 * (names.length + 1) + 43) ≤ mi.2.2.2.2.1) (hQ : Q none (gstale h)) : G π mi pc loc stk h (mc + 1) (ms + 6) Q := by
  intro Γ p e R s m args below meth c QE H locs cells slots ls st hC hE hH hl hs hS h1 h2
  have hr := gs_room hs
  obtain ⟨hx, hb, hml, hown, hts, hlocks, hfr, hlo, -, -, htab, hK, hZ, hst⟩ := id hC
  obtain ⟨sa, hsa⟩ := hK.2.2.2.2.1 _ htx
  have hg : ∀ w ∈ π.2.1, vx_ot w = true := fun w hw9 => by
    have h9 := List.all_eq_true.mp hw.2.2.2 w hw9
    simp only [vx_ot, h9, Bool.or_true]
  rw [hE.2 _ hQ]
  refine vx_throwS (own := mi.1) (cls := gIAE) (text := text) (names := names) (ik := ik) (is := is) (ic := ic) (sa := sa) (A := gfree Γ) hx hb hst hown hf.1 hf.2 (hts _ hw.1) (hts _ hw.2.1) hsa (fun w h9 => (hw.2.2.1 w h9).elim (hts w) (fun z => va_Nw.use (gNG_on w z) (hK.2.2.2.2.2.2 w z))) (fun w h9 => ?_) hZ.1 hZ.2 hS (by rw [hml]; exact g_ls hl) d0 d3 d4 d6 d9 (fun x hx9 => ?_) (by omega) (by omega) (by omega) (by omega) hlocks (fun t hA hz hk => ?_) hS.2.2 (by omega) (by omega)
  · rcases List.mem_cons.mp h9 with rfl | h9
    · exact hg _ hw.1
    · rcases List.mem_cons.mp h9 with rfl | h9
      · exact hg _ hw.2.1
      · rcases hw.2.2.1 w h9 with z | z
        · exact hg w z
        · simp only [vx_ot, gNG_on w z, Bool.true_or]
  · rw [htab, hh] at hx9
    cases hx9
  · exact ⟨rfl, gstale h, hQ, (hH.grown hk).moved hA, Nat.le_trans hS.1 hz, fun q z1 z2 => (hk q (Nat.lt_of_lt_of_le z1 hS.1)).trans (hS.2.1 q z1 z2)⟩
end GTHROW
end
section
/-! calls: all that is fixed at a call's place in one word; by arguments and answers -/
section GC2
/-- fixed at a virtual call: from mi at idx, of y with method mj, n arguments, on the kind ci -/
def gCV (π : gP) (mi mj : gM) (idx : Nat) (y : MethodName) (n ci : Nat) (r : vw_C) : Prop := gW π mi.1 mj idx y n ∧ mj.2.2.2.2.2.2.2 = [] ∧ (mj.2.2.2.1 + 1 ≤ mi.2.2.2.1 ∧ 8 + (mj.2.2.1 + 11) + mj.2.2.2.2.1 ≤ mi.2.2.2.2.1) ∧ (Cond.instanceMethod y ∈ π.2.1 ∧ Cond.selects r.1 y y ∈ π.2.1) ∧ π.2.2.1[ci]? = some r
def gCS (π : gP) (mi mj : gM) (idx : Nat) (y : MethodName) (n : Nat) : Prop := gW π mi.1 mj idx y n ∧ mj.2.2.2.2.2.2.2 = [] ∧ (mj.2.2.2.1 + 1 ≤ mi.2.2.2.1 ∧ 8 + (mj.2.2.1 + 11) + mj.2.2.2.2.1 ≤ mi.2.2.2.2.1) ∧ Cond.static y ∈ π.2.1
variable {π : gP} {mi mj : gM} {pc : Nat} {loc stk : List gV} {h h' : gH} {mc ms : Nat} {Q : Option (Option gV) → gH → Prop} {y : MethodName} {idx n ci : Nat} {r : vw_C} {v : Int} {o : Option Nat}
/-- y answers the int v and leaves h' -/
abbrev gMi (π : gP) (mj : gM) (y : MethodName) (as : List gV) (h : gH) (v : Int) (h' : gH) : Prop := gMet π mj y as h 0 0 (fun r k => r = some (some (gI v)) ∧ k = h')
abbrev gMr (π : gP) (mj : gM) (y : MethodName) (as : List gV) (h : gH) (o : Option Nat) (h' : gH) : Prop := gMet π mj y as h 0 0 (fun r k => r = some (some (gR o)) ∧ k = h')
abbrev gMv (π : gP) (mj : gM) (y : MethodName) (as : List gV) (h : gH) (h' : gH) : Prop := gMet π mj y as h 0 0 (fun r k => r = some none ∧ k = h')
/-- y throws and leaves h' -/
abbrev gMx (π : gP) (mj : gM) (y : MethodName) (as : List gV) (h : gH) (h' : gH) : Prop := gMet π mj y as h 1 6 (fun r k => r = none ∧ k = h')
theorem g_Vi0 (hd : decode mi.2.1 pc = .ok (.invokevirtual idx, 3)) (hc : gCV π mi mj idx y 0 ci r) (ht : h.1 n = .inl ci) (hn : n < h.2.2.2.1) (h8 : gcs stk ≤ 8) (hM : gMi π mj y (gR (some n) :: []) h v h') (kk : G π mi (pc + 3) loc (gI v :: stk) h' mc ms Q) : G π mi pc loc (gR (some n) :: stk) h mc ms Q :=
  g_callV (as := []) hd hc.1 hc.2.1 hc.2.2.1 hc.2.2.2.1 hc.2.2.2.2 ht hn h8 hM (fun _ _ z => by obtain ⟨z1, z2⟩ := z; cases z1; subst z2; exact kk) (fun _ z => by cases z.1)
theorem g_Vr0 (hd : decode mi.2.1 pc = .ok (.invokevirtual idx, 3)) (hc : gCV π mi mj idx y 0 ci r) (ht : h.1 n = .inl ci) (hn : n < h.2.2.2.1) (h8 : gcs stk ≤ 8) (hM : gMr π mj y (gR (some n) :: []) h o h') (kk : G π mi (pc + 3) loc (gR o :: stk) h' mc ms Q) : G π mi pc loc (gR (some n) :: stk) h mc ms Q :=
  g_callV (as := []) hd hc.1 hc.2.1 hc.2.2.1 hc.2.2.2.1 hc.2.2.2.2 ht hn h8 hM (fun _ _ z => by obtain ⟨z1, z2⟩ := z; cases z1; subst z2; exact kk) (fun _ z => by cases z.1)
theorem g_Vv0 (hd : decode mi.2.1 pc = .ok (.invokevirtual idx, 3)) (hc : gCV π mi mj idx y 0 ci r) (ht : h.1 n = .inl ci) (hn : n < h.2.2.2.1) (h8 : gcs stk ≤ 8) (hM : gMv π mj y (gR (some n) :: []) h h') (kk : G π mi (pc + 3) loc stk h' mc ms Q) : G π mi pc loc (gR (some n) :: stk) h mc ms Q :=
  g_callV (as := []) hd hc.1 hc.2.1 hc.2.2.1 hc.2.2.2.1 hc.2.2.2.2 ht hn h8 hM (fun _ _ z => by obtain ⟨z1, z2⟩ := z; cases z1; subst z2; exact kk) (fun _ z => by cases z.1)
theorem g_Vx0 (hd : decode mi.2.1 pc = .ok (.invokevirtual idx, 3)) (hc : gCV π mi mj idx y 0 ci r) (ht : h.1 n = .inl ci) (hn : n < h.2.2.2.1) (h8 : gcs stk ≤ 8) (hM : gMx π mj y (gR (some n) :: []) h h') (kk : GX π mi pc loc h' mc ms Q) : G π mi pc loc (gR (some n) :: stk) h (mc + 1) (ms + 6) Q :=
  g_callV (as := []) hd hc.1 hc.2.1 hc.2.2.1 hc.2.2.2.1 hc.2.2.2.2 ht hn h8 hM (fun _ _ z => by cases z.1) (fun _ z => by rw [z.2]; exact kk)
theorem g_Vi1 {a0 : gV} (hd : decode mi.2.1 pc = .ok (.invokevirtual idx, 3)) (hc : gCV π mi mj idx y 1 ci r) (ht : h.1 n = .inl ci) (hn : n < h.2.2.2.1) (h8 : gcs stk ≤ 8) (hM : gMi π mj y (gR (some n) :: [a0]) h v h') (kk : G π mi (pc + 3) loc (gI v :: stk) h' mc ms Q) : G π mi pc loc (a0 :: gR (some n) :: stk) h mc ms Q :=
  g_callV (as := [a0]) hd hc.1 hc.2.1 hc.2.2.1 hc.2.2.2.1 hc.2.2.2.2 ht hn h8 hM (fun _ _ z => by obtain ⟨z1, z2⟩ := z; cases z1; subst z2; exact kk) (fun _ z => by cases z.1)
theorem g_Vr1 {a0 : gV} (hd : decode mi.2.1 pc = .ok (.invokevirtual idx, 3)) (hc : gCV π mi mj idx y 1 ci r) (ht : h.1 n = .inl ci) (hn : n < h.2.2.2.1) (h8 : gcs stk ≤ 8) (hM : gMr π mj y (gR (some n) :: [a0]) h o h') (kk : G π mi (pc + 3) loc (gR o :: stk) h' mc ms Q) : G π mi pc loc (a0 :: gR (some n) :: stk) h mc ms Q :=
  g_callV (as := [a0]) hd hc.1 hc.2.1 hc.2.2.1 hc.2.2.2.1 hc.2.2.2.2 ht hn h8 hM (fun _ _ z => by obtain ⟨z1, z2⟩ := z; cases z1; subst z2; exact kk) (fun _ z => by cases z.1)
theorem g_Vv1 {a0 : gV} (hd : decode mi.2.1 pc = .ok (.invokevirtual idx, 3)) (hc : gCV π mi mj idx y 1 ci r) (ht : h.1 n = .inl ci) (hn : n < h.2.2.2.1) (h8 : gcs stk ≤ 8) (hM : gMv π mj y (gR (some n) :: [a0]) h h') (kk : G π mi (pc + 3) loc stk h' mc ms Q) : G π mi pc loc (a0 :: gR (some n) :: stk) h mc ms Q :=
  g_callV (as := [a0]) hd hc.1 hc.2.1 hc.2.2.1 hc.2.2.2.1 hc.2.2.2.2 ht hn h8 hM (fun _ _ z => by obtain ⟨z1, z2⟩ := z; cases z1; subst z2; exact kk) (fun _ z => by cases z.1)
theorem g_Vx1 {a0 : gV} (hd : decode mi.2.1 pc = .ok (.invokevirtual idx, 3)) (hc : gCV π mi mj idx y 1 ci r) (ht : h.1 n = .inl ci) (hn : n < h.2.2.2.1) (h8 : gcs stk ≤ 8) (hM : gMx π mj y (gR (some n) :: [a0]) h h') (kk : GX π mi pc loc h' mc ms Q) : G π mi pc loc (a0 :: gR (some n) :: stk) h (mc + 1) (ms + 6) Q :=
  g_callV (as := [a0]) hd hc.1 hc.2.1 hc.2.2.1 hc.2.2.2.1 hc.2.2.2.2 ht hn h8 hM (fun _ _ z => by cases z.1) (fun _ z => by rw [z.2]; exact kk)
theorem g_Vi2 {a0 a1 : gV} (hd : decode mi.2.1 pc = .ok (.invokevirtual idx, 3)) (hc : gCV π mi mj idx y 2 ci r) (ht : h.1 n = .inl ci) (hn : n < h.2.2.2.1) (h8 : gcs stk ≤ 8) (hM : gMi π mj y (gR (some n) :: [a0, a1]) h v h') (kk : G π mi (pc + 3) loc (gI v :: stk) h' mc ms Q) : G π mi pc loc (a1 :: a0 :: gR (some n) :: stk) h mc ms Q :=
  g_callV (as := [a0, a1]) hd hc.1 hc.2.1 hc.2.2.1 hc.2.2.2.1 hc.2.2.2.2 ht hn h8 hM (fun _ _ z => by obtain ⟨z1, z2⟩ := z; cases z1; subst z2; exact kk) (fun _ z => by cases z.1)
theorem g_Vr2 {a0 a1 : gV} (hd : decode mi.2.1 pc = .ok (.invokevirtual idx, 3)) (hc : gCV π mi mj idx y 2 ci r) (ht : h.1 n = .inl ci) (hn : n < h.2.2.2.1) (h8 : gcs stk ≤ 8) (hM : gMr π mj y (gR (some n) :: [a0, a1]) h o h') (kk : G π mi (pc + 3) loc (gR o :: stk) h' mc ms Q) : G π mi pc loc (a1 :: a0 :: gR (some n) :: stk) h mc ms Q :=
  g_callV (as := [a0, a1]) hd hc.1 hc.2.1 hc.2.2.1 hc.2.2.2.1 hc.2.2.2.2 ht hn h8 hM (fun _ _ z => by obtain ⟨z1, z2⟩ := z; cases z1; subst z2; exact kk) (fun _ z => by cases z.1)
theorem g_Vv2 {a0 a1 : gV} (hd : decode mi.2.1 pc = .ok (.invokevirtual idx, 3)) (hc : gCV π mi mj idx y 2 ci r) (ht : h.1 n = .inl ci) (hn : n < h.2.2.2.1) (h8 : gcs stk ≤ 8) (hM : gMv π mj y (gR (some n) :: [a0, a1]) h h') (kk : G π mi (pc + 3) loc stk h' mc ms Q) : G π mi pc loc (a1 :: a0 :: gR (some n) :: stk) h mc ms Q :=
  g_callV (as := [a0, a1]) hd hc.1 hc.2.1 hc.2.2.1 hc.2.2.2.1 hc.2.2.2.2 ht hn h8 hM (fun _ _ z => by obtain ⟨z1, z2⟩ := z; cases z1; subst z2; exact kk) (fun _ z => by cases z.1)
theorem g_Vx2 {a0 a1 : gV} (hd : decode mi.2.1 pc = .ok (.invokevirtual idx, 3)) (hc : gCV π mi mj idx y 2 ci r) (ht : h.1 n = .inl ci) (hn : n < h.2.2.2.1) (h8 : gcs stk ≤ 8) (hM : gMx π mj y (gR (some n) :: [a0, a1]) h h') (kk : GX π mi pc loc h' mc ms Q) : G π mi pc loc (a1 :: a0 :: gR (some n) :: stk) h (mc + 1) (ms + 6) Q :=
  g_callV (as := [a0, a1]) hd hc.1 hc.2.1 hc.2.2.1 hc.2.2.2.1 hc.2.2.2.2 ht hn h8 hM (fun _ _ z => by cases z.1) (fun _ z => by rw [z.2]; exact kk)
theorem g_Vi3 {a0 a1 a2 : gV} (hd : decode mi.2.1 pc = .ok (.invokevirtual idx, 3)) (hc : gCV π mi mj idx y 3 ci r) (ht : h.1 n = .inl ci) (hn : n < h.2.2.2.1) (h8 : gcs stk ≤ 8) (hM : gMi π mj y (gR (some n) :: [a0, a1, a2]) h v h') (kk : G π mi (pc + 3) loc (gI v :: stk) h' mc ms Q) : G π mi pc loc (a2 :: a1 :: a0 :: gR (some n) :: stk) h mc ms Q :=
  g_callV (as := [a0, a1, a2]) hd hc.1 hc.2.1 hc.2.2.1 hc.2.2.2.1 hc.2.2.2.2 ht hn h8 hM (fun _ _ z => by obtain ⟨z1, z2⟩ := z; cases z1; subst z2; exact kk) (fun _ z => by cases z.1)
theorem g_Vr3 {a0 a1 a2 : gV} (hd : decode mi.2.1 pc = .ok (.invokevirtual idx, 3)) (hc : gCV π mi mj idx y 3 ci r) (ht : h.1 n = .inl ci) (hn : n < h.2.2.2.1) (h8 : gcs stk ≤ 8) (hM : gMr π mj y (gR (some n) :: [a0, a1, a2]) h o h') (kk : G π mi (pc + 3) loc (gR o :: stk) h' mc ms Q) : G π mi pc loc (a2 :: a1 :: a0 :: gR (some n) :: stk) h mc ms Q :=
  g_callV (as := [a0, a1, a2]) hd hc.1 hc.2.1 hc.2.2.1 hc.2.2.2.1 hc.2.2.2.2 ht hn h8 hM (fun _ _ z => by obtain ⟨z1, z2⟩ := z; cases z1; subst z2; exact kk) (fun _ z => by cases z.1)
theorem g_Vv3 {a0 a1 a2 : gV} (hd : decode mi.2.1 pc = .ok (.invokevirtual idx, 3)) (hc : gCV π mi mj idx y 3 ci r) (ht : h.1 n = .inl ci) (hn : n < h.2.2.2.1) (h8 : gcs stk ≤ 8) (hM : gMv π mj y (gR (some n) :: [a0, a1, a2]) h h') (kk : G π mi (pc + 3) loc stk h' mc ms Q) : G π mi pc loc (a2 :: a1 :: a0 :: gR (some n) :: stk) h mc ms Q :=
  g_callV (as := [a0, a1, a2]) hd hc.1 hc.2.1 hc.2.2.1 hc.2.2.2.1 hc.2.2.2.2 ht hn h8 hM (fun _ _ z => by obtain ⟨z1, z2⟩ := z; cases z1; subst z2; exact kk) (fun _ z => by cases z.1)
theorem g_Vx3 {a0 a1 a2 : gV} (hd : decode mi.2.1 pc = .ok (.invokevirtual idx, 3)) (hc : gCV π mi mj idx y 3 ci r) (ht : h.1 n = .inl ci) (hn : n < h.2.2.2.1) (h8 : gcs stk ≤ 8) (hM : gMx π mj y (gR (some n) :: [a0, a1, a2]) h h') (kk : GX π mi pc loc h' mc ms Q) : G π mi pc loc (a2 :: a1 :: a0 :: gR (some n) :: stk) h (mc + 1) (ms + 6) Q :=
  g_callV (as := [a0, a1, a2]) hd hc.1 hc.2.1 hc.2.2.1 hc.2.2.2.1 hc.2.2.2.2 ht hn h8 hM (fun _ _ z => by cases z.1) (fun _ z => by rw [z.2]; exact kk)
theorem g_Si0 (hd : decode mi.2.1 pc = .ok (.invokestatic idx, 3)) (hc : gCS π mi mj idx y 0) (h8 : gcs stk ≤ 8) (hM : gMi π mj y [] h v h') (kk : G π mi (pc + 3) loc (gI v :: stk) h' mc ms Q) : G π mi pc loc (stk) h mc ms Q :=
  g_callS (as := []) hd hc.1 hc.2.1 hc.2.2.1 hc.2.2.2 h8 hM (fun _ _ z => by obtain ⟨z1, z2⟩ := z; cases z1; subst z2; exact kk) (fun _ z => by cases z.1)
theorem g_Sr0 (hd : decode mi.2.1 pc = .ok (.invokestatic idx, 3)) (hc : gCS π mi mj idx y 0) (h8 : gcs stk ≤ 8) (hM : gMr π mj y [] h o h') (kk : G π mi (pc + 3) loc (gR o :: stk) h' mc ms Q) : G π mi pc loc (stk) h mc ms Q :=
  g_callS (as := []) hd hc.1 hc.2.1 hc.2.2.1 hc.2.2.2 h8 hM (fun _ _ z => by obtain ⟨z1, z2⟩ := z; cases z1; subst z2; exact kk) (fun _ z => by cases z.1)
theorem g_Sv0 (hd : decode mi.2.1 pc = .ok (.invokestatic idx, 3)) (hc : gCS π mi mj idx y 0) (h8 : gcs stk ≤ 8) (hM : gMv π mj y [] h h') (kk : G π mi (pc + 3) loc stk h' mc ms Q) : G π mi pc loc (stk) h mc ms Q :=
  g_callS (as := []) hd hc.1 hc.2.1 hc.2.2.1 hc.2.2.2 h8 hM (fun _ _ z => by obtain ⟨z1, z2⟩ := z; cases z1; subst z2; exact kk) (fun _ z => by cases z.1)
theorem g_Sx0 (hd : decode mi.2.1 pc = .ok (.invokestatic idx, 3)) (hc : gCS π mi mj idx y 0) (h8 : gcs stk ≤ 8) (hM : gMx π mj y [] h h') (kk : GX π mi pc loc h' mc ms Q) : G π mi pc loc (stk) h (mc + 1) (ms + 6) Q :=
  g_callS (as := []) hd hc.1 hc.2.1 hc.2.2.1 hc.2.2.2 h8 hM (fun _ _ z => by cases z.1) (fun _ z => by rw [z.2]; exact kk)
theorem g_Si1 {a0 : gV} (hd : decode mi.2.1 pc = .ok (.invokestatic idx, 3)) (hc : gCS π mi mj idx y 1) (h8 : gcs stk ≤ 8) (hM : gMi π mj y [a0] h v h') (kk : G π mi (pc + 3) loc (gI v :: stk) h' mc ms Q) : G π mi pc loc (a0 :: stk) h mc ms Q :=
  g_callS (as := [a0]) hd hc.1 hc.2.1 hc.2.2.1 hc.2.2.2 h8 hM (fun _ _ z => by obtain ⟨z1, z2⟩ := z; cases z1; subst z2; exact kk) (fun _ z => by cases z.1)
theorem g_Sr1 {a0 : gV} (hd : decode mi.2.1 pc = .ok (.invokestatic idx, 3)) (hc : gCS π mi mj idx y 1) (h8 : gcs stk ≤ 8) (hM : gMr π mj y [a0] h o h') (kk : G π mi (pc + 3) loc (gR o :: stk) h' mc ms Q) : G π mi pc loc (a0 :: stk) h mc ms Q :=
  g_callS (as := [a0]) hd hc.1 hc.2.1 hc.2.2.1 hc.2.2.2 h8 hM (fun _ _ z => by obtain ⟨z1, z2⟩ := z; cases z1; subst z2; exact kk) (fun _ z => by cases z.1)
theorem g_Sv1 {a0 : gV} (hd : decode mi.2.1 pc = .ok (.invokestatic idx, 3)) (hc : gCS π mi mj idx y 1) (h8 : gcs stk ≤ 8) (hM : gMv π mj y [a0] h h') (kk : G π mi (pc + 3) loc stk h' mc ms Q) : G π mi pc loc (a0 :: stk) h mc ms Q :=
  g_callS (as := [a0]) hd hc.1 hc.2.1 hc.2.2.1 hc.2.2.2 h8 hM (fun _ _ z => by obtain ⟨z1, z2⟩ := z; cases z1; subst z2; exact kk) (fun _ z => by cases z.1)
theorem g_Sx1 {a0 : gV} (hd : decode mi.2.1 pc = .ok (.invokestatic idx, 3)) (hc : gCS π mi mj idx y 1) (h8 : gcs stk ≤ 8) (hM : gMx π mj y [a0] h h') (kk : GX π mi pc loc h' mc ms Q) : G π mi pc loc (a0 :: stk) h (mc + 1) (ms + 6) Q :=
  g_callS (as := [a0]) hd hc.1 hc.2.1 hc.2.2.1 hc.2.2.2 h8 hM (fun _ _ z => by cases z.1) (fun _ z => by rw [z.2]; exact kk)
theorem g_Si2 {a0 a1 : gV} (hd : decode mi.2.1 pc = .ok (.invokestatic idx, 3)) (hc : gCS π mi mj idx y 2) (h8 : gcs stk ≤ 8) (hM : gMi π mj y [a0, a1] h v h') (kk : G π mi (pc + 3) loc (gI v :: stk) h' mc ms Q) : G π mi pc loc (a1 :: a0 :: stk) h mc ms Q :=
  g_callS (as := [a0, a1]) hd hc.1 hc.2.1 hc.2.2.1 hc.2.2.2 h8 hM (fun _ _ z => by obtain ⟨z1, z2⟩ := z; cases z1; subst z2; exact kk) (fun _ z => by cases z.1)
theorem g_Sr2 {a0 a1 : gV} (hd : decode mi.2.1 pc = .ok (.invokestatic idx, 3)) (hc : gCS π mi mj idx y 2) (h8 : gcs stk ≤ 8) (hM : gMr π mj y [a0, a1] h o h') (kk : G π mi (pc + 3) loc (gR o :: stk) h' mc ms Q) : G π mi pc loc (a1 :: a0 :: stk) h mc ms Q :=
  g_callS (as := [a0, a1]) hd hc.1 hc.2.1 hc.2.2.1 hc.2.2.2 h8 hM (fun _ _ z => by obtain ⟨z1, z2⟩ := z; cases z1; subst z2; exact kk) (fun _ z => by cases z.1)
theorem g_Sv2 {a0 a1 : gV} (hd : decode mi.2.1 pc = .ok (.invokestatic idx, 3)) (hc : gCS π mi mj idx y 2) (h8 : gcs stk ≤ 8) (hM : gMv π mj y [a0, a1] h h') (kk : G π mi (pc + 3) loc stk h' mc ms Q) : G π mi pc loc (a1 :: a0 :: stk) h mc ms Q :=
  g_callS (as := [a0, a1]) hd hc.1 hc.2.1 hc.2.2.1 hc.2.2.2 h8 hM (fun _ _ z => by obtain ⟨z1, z2⟩ := z; cases z1; subst z2; exact kk) (fun _ z => by cases z.1)
theorem g_Sx2 {a0 a1 : gV} (hd : decode mi.2.1 pc = .ok (.invokestatic idx, 3)) (hc : gCS π mi mj idx y 2) (h8 : gcs stk ≤ 8) (hM : gMx π mj y [a0, a1] h h') (kk : GX π mi pc loc h' mc ms Q) : G π mi pc loc (a1 :: a0 :: stk) h (mc + 1) (ms + 6) Q :=
  g_callS (as := [a0, a1]) hd hc.1 hc.2.1 hc.2.2.1 hc.2.2.2 h8 hM (fun _ _ z => by cases z.1) (fun _ z => by rw [z.2]; exact kk)
theorem g_Si3 {a0 a1 a2 : gV} (hd : decode mi.2.1 pc = .ok (.invokestatic idx, 3)) (hc : gCS π mi mj idx y 3) (h8 : gcs stk ≤ 8) (hM : gMi π mj y [a0, a1, a2] h v h') (kk : G π mi (pc + 3) loc (gI v :: stk) h' mc ms Q) : G π mi pc loc (a2 :: a1 :: a0 :: stk) h mc ms Q :=
  g_callS (as := [a0, a1, a2]) hd hc.1 hc.2.1 hc.2.2.1 hc.2.2.2 h8 hM (fun _ _ z => by obtain ⟨z1, z2⟩ := z; cases z1; subst z2; exact kk) (fun _ z => by cases z.1)
theorem g_Sr3 {a0 a1 a2 : gV} (hd : decode mi.2.1 pc = .ok (.invokestatic idx, 3)) (hc : gCS π mi mj idx y 3) (h8 : gcs stk ≤ 8) (hM : gMr π mj y [a0, a1, a2] h o h') (kk : G π mi (pc + 3) loc (gR o :: stk) h' mc ms Q) : G π mi pc loc (a2 :: a1 :: a0 :: stk) h mc ms Q :=
  g_callS (as := [a0, a1, a2]) hd hc.1 hc.2.1 hc.2.2.1 hc.2.2.2 h8 hM (fun _ _ z => by obtain ⟨z1, z2⟩ := z; cases z1; subst z2; exact kk) (fun _ z => by cases z.1)
theorem g_Sv3 {a0 a1 a2 : gV} (hd : decode mi.2.1 pc = .ok (.invokestatic idx, 3)) (hc : gCS π mi mj idx y 3) (h8 : gcs stk ≤ 8) (hM : gMv π mj y [a0, a1, a2] h h') (kk : G π mi (pc + 3) loc stk h' mc ms Q) : G π mi pc loc (a2 :: a1 :: a0 :: stk) h mc ms Q :=
  g_callS (as := [a0, a1, a2]) hd hc.1 hc.2.1 hc.2.2.1 hc.2.2.2 h8 hM (fun _ _ z => by obtain ⟨z1, z2⟩ := z; cases z1; subst z2; exact kk) (fun _ z => by cases z.1)
theorem g_Sx3 {a0 a1 a2 : gV} (hd : decode mi.2.1 pc = .ok (.invokestatic idx, 3)) (hc : gCS π mi mj idx y 3) (h8 : gcs stk ≤ 8) (hM : gMx π mj y [a0, a1, a2] h h') (kk : GX π mi pc loc h' mc ms Q) : G π mi pc loc (a2 :: a1 :: a0 :: stk) h (mc + 1) (ms + 6) Q :=
  g_callS (as := [a0, a1, a2]) hd hc.1 hc.2.1 hc.2.2.1 hc.2.2.2 h8 hM (fun _ _ z => by cases z.1) (fun _ z => by rw [z.2]; exact kk)
end GC2
end
section
/-! the heap behind the constructors: numbers of cells, and rows over it -/
section GHP
def up {α : Type} (f : Nat → Nat → α) (a b : Nat) (x : α) : Nat → Nat → α := fun a' b' => if a' = a ∧ b' = b then x else f a' b'
def up1 {α : Type} (f : Nat → α) (b : Nat) (x : α) : Nat → α := fun b' => if b' = b then x else f b'
theorem up_same {α : Type} {f : Nat → Nat → α} {a b : Nat} {x : α} : up f a b x a b = x := by simp [up]
theorem up_cell {α : Type} {f : Nat → Nat → α} {a b a' b' : Nat} {x : α} (h : a' ≠ a) : up f a b x a' b' = f a' b' := by simp [up, h]
theorem up_slot {α : Type} {f : Nat → Nat → α} {a b a' b' : Nat} {x : α} (h : b' ≠ b) : up f a b x a' b' = f a' b' := by simp [up, h]
def T1 (n : Nat) : Nat ⊕ (Nat × Nat) := match n with
  | 64 => .inr (6, 2)
  | 65 => .inl 2
  | 66 => .inr (3, 20)
  | 67 => .inl 4
  | 68 => .inr (0, 5)
  | 69 => .inr (0, 5)
  | 70 => .inl 3
  | 71 => .inr (3, 13)
  | 72 => .inl 3
  | 73 => .inr (3, 13)
  | 74 => .inl 6
  | 84 => .inr (0, 20)
  | 85 => .inr (0, 5)
  | 86 => .inr (1, 1)
  | _ => .inr (0, 60)
def T0 (L n : Nat) : Nat ⊕ (Nat × Nat) := if n = 0 then .inr (2, L) else if n = 1 then .inl 5 else if n = 2 then .inl 1 else if n = 3 then .inr (3, 60) else if n < 64 then .inl 0 else T1 n
/-- the references that never change -/
def rs (a b : Nat) : Option Nat := if a = 3 then (if b < 60 then some (4 + b) else none) else match a, b with
  | 1, 0 => some 2
  | 1, 1 => some 64
  | 1, 2 => some 65
  | 1, 3 => some 67
  | 2, 0 => some 3
  | 64, 0 => some 70
  | 64, 1 => some 72
  | 65, 0 => some 66
  | 67, 0 => some 68
  | 67, 1 => some 69
  | 70, 1 => some 71
  | 72, 1 => some 73
  | 74, 1 => some 75
  | 74, 2 => some 76
  | 74, 3 => some 77
  | 74, 4 => some 78
  | 74, 5 => some 79
  | 74, 6 => some 80
  | 74, 7 => some 81
  | 74, 8 => some 82
  | 74, 9 => some 83
  | 74, 11 => some 84
  | 74, 13 => some 85
  | _, _ => none
def rr (Z : Nat → Nat → Option Nat) (R : Nat → Option Nat) (a b : Nat) : Option Nat := if a = 66 then R b else if a = 71 then Z 0 b else if a = 73 then Z 1 b else rs a b
abbrev hp (L : Nat) (i : Nat → Nat → Int) (Z : Nat → Nat → Option Nat) (R : Nat → Option Nat) : gH := (T0 L, i, rr Z R, 87, false)
theorem T0_cab {L n : Nat} (h1 : 4 ≤ n) (h2 : n < 64) : T0 L n = .inl 0 := by
  unfold T0
  rw [if_neg (by omega), if_neg (by omega), if_neg (by omega), if_neg (by omega), if_pos h2]
theorem T0_st {L s : Nat} (h : s < 2) : T0 L (70 + 2 * s) = .inl 3 := by
  rcases (by omega : s = 0 ∨ s = 1) with rfl | rfl <;> rfl
theorem T0_zones {L s : Nat} (h : s < 2) : T0 L (71 + 2 * s) = .inr (3, 13) := by
  rcases (by omega : s = 0 ∨ s = 1) with rfl | rfl <;> rfl
theorem rr_cab {Z : Nat → Nat → Option Nat} {R : Nat → Option Nat} {k : Nat} (h : k < 60) : rr Z R 3 k = some (4 + k) := by simp [rr, rs, h]
theorem rr_st {Z : Nat → Nat → Option Nat} {R : Nat → Option Nat} {s : Nat} (h : s < 2) : rr Z R 64 s = some (70 + 2 * s) := by
  rcases (by omega : s = 0 ∨ s = 1) with rfl | rfl <;> rfl
theorem rr_zs {Z : Nat → Nat → Option Nat} {R : Nat → Option Nat} {s : Nat} (h : s < 2) : rr Z R (70 + 2 * s) 1 = some (71 + 2 * s) := by
  rcases (by omega : s = 0 ∨ s = 1) with rfl | rfl <;> rfl
theorem rr_zone {Z : Nat → Nat → Option Nat} {R : Nat → Option Nat} {s k : Nat} (h : s < 2) : rr Z R (71 + 2 * s) k = Z s k := by
  rcases (by omega : s = 0 ∨ s = 1) with rfl | rfl <;> rfl
theorem rr_row {Z : Nat → Nat → Option Nat} {R : Nat → Option Nat} {k : Nat} : rr Z R 66 k = R k := rfl
variable {π : gP} {mi : gM} {pc : Nat} {loc stk : List gV} {L : Nat} {i : Nat → Nat → Int} {Z : Nat → Nat → Option Nat} {R : Nat → Option Nat} {mc ms : Nat} {Q : Option (Option gV) → gH → Prop}
theorem p_getI {ci k idx n : Nat} {r : vw_C} {x : Int} (hd : decode mi.2.1 pc = .ok (.getfield idx, 3)) (hF : gF π mi.1 idx ci k r) (hi : (r.2.1 k).2.2.1 = "I") (ht : T0 L n = .inl ci) (hn : n < 87) (hv : i n k = x) (kk : G π mi (pc + 3) loc (gI x :: stk) (hp L i Z R) mc ms Q) : G π mi pc loc (gR (some n) :: stk) (hp L i Z R) mc ms Q := g_getI hd hF hi ht hn hv kk
theorem p_getR {ci k idx n : Nat} {r : vw_C} {o : Option Nat} (hd : decode mi.2.1 pc = .ok (.getfield idx, 3)) (hF : gF π mi.1 idx ci k r) (hi : (r.2.1 k).2.2.1 ≠ "I") (ht : T0 L n = .inl ci) (hn : n < 87) (hv : rr Z R n k = o) (kk : G π mi (pc + 3) loc (gR o :: stk) (hp L i Z R) mc ms Q) : G π mi pc loc (gR (some n) :: stk) (hp L i Z R) mc ms Q := g_getR hd hF hi ht hn hv kk
theorem p_putI {ci k idx n : Nat} {r : vw_C} {ty : Nat → FieldType} {x : Int} (hd : decode mi.2.1 pc = .ok (.putfield idx, 3)) (hF : gF π mi.1 idx ci k r) (hT : gT r ty) (hi : (r.2.1 k).2.2.1 = "I" ∧ ty k = .int) (hfin : (r.2.1 k).2.2.2 = false) (ht : T0 L n = .inl ci) (hn : n < 87) (h0 : n ≠ 0) (kk : G π mi (pc + 3) loc stk (hp L (up i n k x) Z R) mc ms Q) : G π mi pc loc (gI x :: gR (some n) :: stk) (hp L i Z R) mc ms Q := g_putI hd hF hT hi (Or.inl hfin) ht hn h0 kk
theorem p_iald {n len : Nat} {j x : Int} (hd : decode mi.2.1 pc = .ok (.iaload, 1)) (ht : T0 L n = .inr (0, len)) (hn : n < 87) (c1 : 0 ≤ j) (c2 : j < len) (hv : i n j.toNat = x) (kk : G π mi (pc + 1) loc (gI x :: stk) (hp L i Z R) mc ms Q) : G π mi pc loc (gI j :: gR (some n) :: stk) (hp L i Z R) mc ms Q := g_iald hd ht hn c1 c2 hv kk
theorem p_iast {n len : Nat} {j x : Int} (hd : decode mi.2.1 pc = .ok (.iastore, 1)) (ht : T0 L n = .inr (0, len)) (hn : n < 87) (h0 : n ≠ 0) (c1 : 0 ≤ j) (c2 : j < len) (kk : G π mi (pc + 1) loc stk (hp L (up i n j.toNat x) Z R) mc ms Q) : G π mi pc loc (gI x :: gI j :: gR (some n) :: stk) (hp L i Z R) mc ms Q := g_iast hd ht hn h0 c1 c2 kk
theorem p_lald {j x : Int} (hd : decode mi.2.1 pc = .ok (.laload, 1)) (hj : j = 0) (hv : i 86 0 = x) (kk : G π mi (pc + 1) loc (gL x :: stk) (hp L i Z R) mc ms Q) : G π mi pc loc (gI j :: gR (some 86) :: stk) (hp L i Z R) mc ms Q := by
  subst hj
  exact g_lald (len := 1) hd rfl (by show 86 < 87; decide) (by decide) (by decide) hv kk
theorem p_last {j x : Int} (hd : decode mi.2.1 pc = .ok (.lastore, 1)) (hj : j = 0) (kk : G π mi (pc + 1) loc stk (hp L (up i 86 0 x) Z R) mc ms Q) : G π mi pc loc (gL x :: gI j :: gR (some 86) :: stk) (hp L i Z R) mc ms Q := by
  subst hj
  exact g_last (len := 1) hd rfl (by show 86 < 87; decide) (by decide) (by decide) (by decide) kk
theorem p_ialdS {j x : Int} (hd : decode mi.2.1 pc = .ok (.iaload, 1)) (c1 : 0 ≤ j) (c2 : j < L) (hv : i 0 j.toNat = x) (kk : G π mi (pc + 1) loc (gI x :: stk) (hp L i Z R) mc ms Q) : G π mi pc loc (gI j :: gR (some 0) :: stk) (hp L i Z R) mc ms Q := g_ialdS hd rfl (by show 0 < 87; decide) c1 c2 hv kk
theorem p_alenS (hlen : L < 2147483648) (hd : decode mi.2.1 pc = .ok (.arraylength, 1)) (kk : G π mi (pc + 1) loc (gI (L : Int) :: stk) (hp L i Z R) mc ms Q) : G π mi pc loc (gR (some 0) :: stk) (hp L i Z R) mc ms Q := g_alenS hlen hd rfl (by show 0 < 87; decide) kk
theorem p_aald {n len ci : Nat} {j : Int} {r : vw_C} {o : Option Nat} (hr : π.2.2.1[ci]? = some r ∧ ci ∈ π.2.2.2.1) (hd : decode mi.2.1 pc = .ok (.aaload, 1)) (ht : T0 L n = .inr (ci + 3, len)) (hn : n < 87) (c1 : 0 ≤ j) (c2 : j < len) (hv : rr Z R n j.toNat = o) (kk : G π mi (pc + 1) loc (gR o :: stk) (hp L i Z R) mc ms Q) : G π mi pc loc (gI j :: gR (some n) :: stk) (hp L i Z R) mc ms Q := g_aald hr hd ht hn c1 c2 hv kk
theorem rr_setZ {s k : Nat} {o : Option Nat} (hs : s < 2) : gsetR (hp L i Z R) (71 + 2 * s) k o = hp L i (up Z s k o) R := by
  unfold gsetR
  show (T0 L, i, (fun a b => if a = 71 + 2 * s ∧ b = k then o else rr Z R a b), 87, false) = (T0 L, i, rr (up Z s k o) R, 87, false)
  congr 3
  funext a b
  unfold rr up
  rcases (by omega : s = 0 ∨ s = 1) with rfl | rfl
  · by_cases e : a = 71
    · subst e; simp
    · simp [e]
  · by_cases e : a = 73
    · subst e; simp
    · simp [e]
theorem rr_setR {k : Nat} {o : Option Nat} : gsetR (hp L i Z R) 66 k o = hp L i Z (up1 R k o) := by
  unfold gsetR
  show (T0 L, i, (fun a b => if a = 66 ∧ b = k then o else rr Z R a b), 87, false) = (T0 L, i, rr Z (up1 R k o), 87, false)
  congr 3
  funext a b
  unfold rr up1
  by_cases e : a = 66
  · subst e; simp
  · simp [e]
/-- into a zone -/
theorem p_aastZ {s : Nat} {j : Int} {r : vw_C} {o : Option Nat} (hr : π.2.2.1[0]? = some r ∧ 0 ∈ π.2.2.2.1) (hd : decode mi.2.1 pc = .ok (.aastore, 1)) (hs : s < 2) (c1 : 0 ≤ j) (c2 : j < 13) (ho : ∀ v, o = some v → 4 ≤ v ∧ v < 64) (kk : G π mi (pc + 1) loc stk (hp L i (up Z s j.toNat o) R) mc ms Q) : G π mi pc loc (gR o :: gI j :: gR (some (71 + 2 * s)) :: stk) (hp L i Z R) mc ms Q :=
  g_aast (len := 13) (ci := 0) hr hd (T0_zones hs) (by show 71 + 2 * s < 87; omega) (by omega) c1 c2 (fun v hv => ⟨T0_cab (ho v hv).1 (ho v hv).2, by have := (ho v hv).2; show v < 87; omega⟩) (by rw [rr_setZ hs]; exact kk)
/-- into the siding's row -/
theorem p_aastR {j : Int} {r : vw_C} {o : Option Nat} (hr : π.2.2.1[0]? = some r ∧ 0 ∈ π.2.2.2.1) (hd : decode mi.2.1 pc = .ok (.aastore, 1)) (c1 : 0 ≤ j) (c2 : j < 20) (ho : ∀ v, o = some v → 4 ≤ v ∧ v < 64) (kk : G π mi (pc + 1) loc stk (hp L i Z (up1 R j.toNat o)) mc ms Q) : G π mi pc loc (gR o :: gI j :: gR (some 66) :: stk) (hp L i Z R) mc ms Q :=
  g_aast (len := 20) (ci := 0) hr hd rfl (by show 66 < 87; decide) (by decide) c1 c2 (fun v hv => ⟨T0_cab (ho v hv).1 (ho v hv).2, by have := (ho v hv).2; show v < 87; omega⟩) (by rw [rr_setR]; exact kk)
end GHP
end
section
/-! the heap in two halves: C the cells of the desk (and the script), M those of the reference (and out) -/
section GHQ
def ii (C M : Nat → Nat → Int) : Nat → Nat → Int := fun a b => if a < 74 then C a b else M a b
theorem ii_C {C M : Nat → Nat → Int} {a b : Nat} (h : a < 74) : ii C M a b = C a b := by simp [ii, h]
theorem ii_M {C M : Nat → Nat → Int} {a b : Nat} (h : 74 ≤ a) : ii C M a b = M a b := by simp [ii, Nat.not_lt.mpr h]
theorem ii_upC {C M : Nat → Nat → Int} {a b : Nat} {x : Int} (h : a < 74) : up (ii C M) a b x = ii (up C a b x) M := by
  funext a' b'
  unfold up ii
  by_cases e : a' = a
  · subst e; simp [h]
  · simp [e]
theorem ii_upM {C M : Nat → Nat → Int} {a b : Nat} {x : Int} (h : 74 ≤ a) : up (ii C M) a b x = ii C (up M a b x) := by
  funext a' b'
  unfold up ii
  by_cases e : a' = a
  · subst e; simp [Nat.not_lt.mpr h]
  · simp [e]
abbrev hq (L : Nat) (C M : Nat → Nat → Int) (Z : Nat → Nat → Option Nat) (R : Nat → Option Nat) : gH := hp L (ii C M) Z R
variable {π : gP} {mi : gM} {pc : Nat} {loc stk : List gV} {L : Nat} {C M : Nat → Nat → Int} {Z : Nat → Nat → Option Nat} {R : Nat → Option Nat} {mc ms : Nat} {Q : Option (Option gV) → gH → Prop}
theorem c_getI {ci k idx n : Nat} {r : vw_C} {x : Int} (hd : decode mi.2.1 pc = .ok (.getfield idx, 3)) (hF : gF π mi.1 idx ci k r) (hi : (r.2.1 k).2.2.1 = "I") (ht : T0 L n = .inl ci) (hn : n < 74) (hv : C n k = x) (kk : G π mi (pc + 3) loc (gI x :: stk) (hq L C M Z R) mc ms Q) : G π mi pc loc (gR (some n) :: stk) (hq L C M Z R) mc ms Q := p_getI hd hF hi ht (by omega) (by rw [ii_C hn]; exact hv) kk
theorem c_putI {ci k idx n : Nat} {r : vw_C} {ty : Nat → FieldType} {x : Int} (hd : decode mi.2.1 pc = .ok (.putfield idx, 3)) (hF : gF π mi.1 idx ci k r) (hT : gT r ty) (hi : (r.2.1 k).2.2.1 = "I" ∧ ty k = .int) (hfin : (r.2.1 k).2.2.2 = false) (ht : T0 L n = .inl ci) (hn : n < 74) (h0 : n ≠ 0) (kk : G π mi (pc + 3) loc stk (hq L (up C n k x) M Z R) mc ms Q) : G π mi pc loc (gI x :: gR (some n) :: stk) (hq L C M Z R) mc ms Q := p_putI hd hF hT hi hfin ht (by omega) h0 (by rw [ii_upC hn]; exact kk)
theorem c_iald {n len : Nat} {j x : Int} (hd : decode mi.2.1 pc = .ok (.iaload, 1)) (ht : T0 L n = .inr (0, len)) (hn : n < 74) (c1 : 0 ≤ j) (c2 : j < len) (hv : C n j.toNat = x) (kk : G π mi (pc + 1) loc (gI x :: stk) (hq L C M Z R) mc ms Q) : G π mi pc loc (gI j :: gR (some n) :: stk) (hq L C M Z R) mc ms Q := p_iald hd ht (by omega) c1 c2 (by rw [ii_C hn]; exact hv) kk
theorem c_iast {n len : Nat} {j x : Int} (hd : decode mi.2.1 pc = .ok (.iastore, 1)) (ht : T0 L n = .inr (0, len)) (hn : n < 74) (h0 : n ≠ 0) (c1 : 0 ≤ j) (c2 : j < len) (kk : G π mi (pc + 1) loc stk (hq L (up C n j.toNat x) M Z R) mc ms Q) : G π mi pc loc (gI x :: gI j :: gR (some n) :: stk) (hq L C M Z R) mc ms Q := p_iast hd ht (by omega) h0 c1 c2 (by rw [ii_upC hn]; exact kk)
theorem m_getI {ci k idx n : Nat} {r : vw_C} {x : Int} (hd : decode mi.2.1 pc = .ok (.getfield idx, 3)) (hF : gF π mi.1 idx ci k r) (hi : (r.2.1 k).2.2.1 = "I") (ht : T0 L n = .inl ci) (hn : 74 ≤ n ∧ n < 87) (hv : M n k = x) (kk : G π mi (pc + 3) loc (gI x :: stk) (hq L C M Z R) mc ms Q) : G π mi pc loc (gR (some n) :: stk) (hq L C M Z R) mc ms Q := p_getI hd hF hi ht hn.2 (by rw [ii_M hn.1]; exact hv) kk
theorem m_putI {ci k idx n : Nat} {r : vw_C} {ty : Nat → FieldType} {x : Int} (hd : decode mi.2.1 pc = .ok (.putfield idx, 3)) (hF : gF π mi.1 idx ci k r) (hT : gT r ty) (hi : (r.2.1 k).2.2.1 = "I" ∧ ty k = .int) (hfin : (r.2.1 k).2.2.2 = false) (ht : T0 L n = .inl ci) (hn : 74 ≤ n ∧ n < 87) (kk : G π mi (pc + 3) loc stk (hq L C (up M n k x) Z R) mc ms Q) : G π mi pc loc (gI x :: gR (some n) :: stk) (hq L C M Z R) mc ms Q := p_putI hd hF hT hi hfin ht hn.2 (by omega) (by rw [ii_upM hn.1]; exact kk)
theorem m_iald {n len : Nat} {j x : Int} (hd : decode mi.2.1 pc = .ok (.iaload, 1)) (ht : T0 L n = .inr (0, len)) (hn : 74 ≤ n ∧ n < 87) (c1 : 0 ≤ j) (c2 : j < len) (hv : M n j.toNat = x) (kk : G π mi (pc + 1) loc (gI x :: stk) (hq L C M Z R) mc ms Q) : G π mi pc loc (gI j :: gR (some n) :: stk) (hq L C M Z R) mc ms Q := p_iald hd ht hn.2 c1 c2 (by rw [ii_M hn.1]; exact hv) kk
theorem m_iast {n len : Nat} {j x : Int} (hd : decode mi.2.1 pc = .ok (.iastore, 1)) (ht : T0 L n = .inr (0, len)) (hn : 74 ≤ n ∧ n < 87) (c1 : 0 ≤ j) (c2 : j < len) (kk : G π mi (pc + 1) loc stk (hq L C (up M n j.toNat x) Z R) mc ms Q) : G π mi pc loc (gI x :: gI j :: gR (some n) :: stk) (hq L C M Z R) mc ms Q := p_iast hd ht hn.2 (by omega) c1 c2 (by rw [ii_upM hn.1]; exact kk)
theorem m_lald {j x : Int} (hd : decode mi.2.1 pc = .ok (.laload, 1)) (hj : j = 0) (hv : M 86 0 = x) (kk : G π mi (pc + 1) loc (gL x :: stk) (hq L C M Z R) mc ms Q) : G π mi pc loc (gI j :: gR (some 86) :: stk) (hq L C M Z R) mc ms Q := p_lald hd hj hv kk
theorem m_last {j x : Int} (hd : decode mi.2.1 pc = .ok (.lastore, 1)) (hj : j = 0) (kk : G π mi (pc + 1) loc stk (hq L C (up M 86 0 x) Z R) mc ms Q) : G π mi pc loc (gL x :: gI j :: gR (some 86) :: stk) (hq L C M Z R) mc ms Q := p_last hd hj (by rw [ii_upM (by decide)]; exact kk)
theorem c_ialdS {j x : Int} (hd : decode mi.2.1 pc = .ok (.iaload, 1)) (c1 : 0 ≤ j) (c2 : j < L) (hv : C 0 j.toNat = x) (kk : G π mi (pc + 1) loc (gI x :: stk) (hq L C M Z R) mc ms Q) : G π mi pc loc (gI j :: gR (some 0) :: stk) (hq L C M Z R) mc ms Q := p_ialdS hd c1 c2 hv kk
end GHQ
section GNUM
theorem g32 {x : Int} (h1 : -2147483648 ≤ x) (h2 : x < 2147483648) : (Int32.ofInt x).toInt = x := Int32.toInt_ofInt_of_le (by omega) (by omega)
theorem gadd_eq {a b : Int} (h1 : -2147483648 ≤ a + b) (h2 : a + b < 2147483648) : gadd a b = a + b := by
  unfold gadd
  rw [← Int32.ofInt_add]
  exact g32 h1 h2
theorem gsub_eq {a b : Int} (h1 : -2147483648 ≤ a - b) (h2 : a - b < 2147483648) : gsub a b = a - b := by
  unfold gsub
  rw [← Int32.ofInt_sub]
  exact g32 h1 h2
theorem gmul_eq {a b : Int} (h1 : -2147483648 ≤ a * b) (h2 : a * b < 2147483648) : gmul a b = a * b := by
  unfold gmul
  rw [← Int32.ofInt_mul]
  exact g32 h1 h2
theorem gdiv_eq {a b : Int} (h1 : 0 ≤ a) (h2 : a < 2147483648) (h3 : 0 < b) (h4 : b < 2147483648) : gdiv a b = a / b := by
  unfold gdiv
  have ha := g32 (x := a) (by omega) h2
  have hb := g32 (x := b) (by omega) h4
  have h5 : (Int32.ofInt a / Int32.ofInt b).toInt = (Int32.ofInt a).toInt.tdiv (Int32.ofInt b).toInt := Int32.toInt_div_of_ne_right _ _ (fun z => by rw [z] at hb; have h9 : (-1 : Int32).toInt = -1 := rfl; omega)
  rw [h5, ha, hb]
  exact Int.tdiv_eq_ediv_of_nonneg h1
theorem grem_eq {a b : Int} (h1 : 0 ≤ a) (h2 : a < 2147483648) (h3 : 0 < b) (h4 : b < 2147483648) : grem a b = a % b := by
  have hd := gdiv_eq h1 h2 h3 h4
  have h5 := Int.emod_add_mul_ediv a b
  have h6 : 0 ≤ a % b := Int.emod_nonneg a (by omega)
  have h7 : a % b < b := Int.emod_lt_of_pos a h3
  have h8 : Int32.ofInt a / Int32.ofInt b = Int32.ofInt (a / b) := by
    rw [← hd]
    unfold gdiv
    rw [Int32.ofInt_toInt]
  unfold grem
  rw [h8, ← Int32.ofInt_mul, ← Int32.ofInt_sub]
  rw [g32]
  · rw [Int.mul_comm]; omega
  · rw [Int.mul_comm]; omega
  · rw [Int.mul_comm]; omega
theorem gadd_nat {k : Nat} (h : k < 2147483647) : gadd (k : Int) 1 = ((k + 1 : Nat) : Int) := by
  rw [gadd_eq (by omega) (by omega)]
  omega
end GNUM
end
section
/-! counts, sums, searches below k -/
section PURE
def cntTo (p : Nat → Bool) : Nat → Int
  | 0 => 0
  | k + 1 => if p k then cntTo p k + 1 else cntTo p k
theorem cntTo_nn {p : Nat → Bool} : ∀ k, 0 ≤ cntTo p k ∧ cntTo p k ≤ (k : Int)
  | 0 => by simp [cntTo]
  | k + 1 => by
    have h := cntTo_nn (p := p) k
    unfold cntTo
    split <;> omega
theorem cntTo_congr {p q : Nat → Bool} : ∀ k, (∀ j, j < k → p j = q j) → cntTo p k = cntTo q k
  | 0, _ => rfl
  | k + 1, h => by
    unfold cntTo
    rw [h k (by omega), cntTo_congr k (fun j hj => h j (by omega))]
def sumTo (f : Nat → Int) : Nat → Int
  | 0 => 0
  | k + 1 => gadd (sumTo f k) (f k)
theorem sumTo_congr {f g : Nat → Int} : ∀ k, (∀ j, j < k → f j = g j) → sumTo f k = sumTo g k
  | 0, _ => rfl
  | k + 1, h => by
    unfold sumTo
    rw [h k (by omega), sumTo_congr k (fun j hj => h j (by omega))]
/-- the greatest f below k of those with p, at least 0 -/
def maxTo (p : Nat → Bool) (f : Nat → Int) : Nat → Int
  | 0 => 0
  | k + 1 => if p k then max (maxTo p f k) (f k) else maxTo p f k
theorem maxTo_nn {p : Nat → Bool} {f : Nat → Int} : ∀ k, 0 ≤ maxTo p f k
  | 0 => by simp [maxTo]
  | k + 1 => by
    have h := maxTo_nn (p := p) (f := f) k
    unfold maxTo
    split <;> omega
theorem maxTo_ge {p : Nat → Bool} {f : Nat → Int} : ∀ k j, j < k → p j = true → f j ≤ maxTo p f k
  | 0, j, h, _ => by omega
  | k + 1, j, h, hp => by
    unfold maxTo
    by_cases e : j = k
    · subst e
      rw [hp]
      simp only [if_true]
      omega
    · have h9 := maxTo_ge (p := p) (f := f) k j (by omega) hp
      split <;> omega
theorem maxTo_lt {p : Nat → Bool} {f : Nat → Int} {b : Int} (hb : 0 < b) : ∀ k, (∀ j, j < k → p j = true → f j < b) → maxTo p f k < b
  | 0, _ => by simpa [maxTo] using hb
  | k + 1, h => by
    have h9 := maxTo_lt (p := p) (f := f) hb k (fun j hj => h j (by omega))
    unfold maxTo
    split
    · rename_i e
      have := h k (by omega) e
      omega
    · exact h9
theorem maxTo_at {p : Nat → Bool} {f : Nat → Int} : ∀ k, maxTo p f k = 0 ∨ ∃ j, j < k ∧ p j = true ∧ f j = maxTo p f k
  | 0 => Or.inl rfl
  | k + 1 => by
    unfold maxTo
    have h := maxTo_at (p := p) (f := f) k
    split
    · rename_i e
      by_cases c : maxTo p f k ≤ f k
      · exact Or.inr ⟨k, by omega, e, by omega⟩
      · rcases h with h | ⟨j, h1, h2, h3⟩
        · exact Or.inl (by omega)
        · exact Or.inr ⟨j, by omega, h2, by omega⟩
    · rcases h with h | ⟨j, h1, h2, h3⟩
      · exact Or.inl h
      · exact Or.inr ⟨j, by omega, h2, h3⟩
/-- is there one below k -/
def anyTo (p : Nat → Bool) : Nat → Bool
  | 0 => false
  | k + 1 => anyTo p k || p k
theorem anyTo_iff {p : Nat → Bool} : ∀ k, anyTo p k = true ↔ ∃ j, j < k ∧ p j = true
  | 0 => by simp [anyTo]
  | k + 1 => by
    unfold anyTo
    rw [Bool.or_eq_true, anyTo_iff k]
    constructor
    · rintro (⟨j, h1, h2⟩ | h)
      · exact ⟨j, by omega, h2⟩
      · exact ⟨k, by omega, h⟩
    · rintro ⟨j, h1, h2⟩
      by_cases e : j = k
      · subst e; exact Or.inr h2
      · exact Or.inl ⟨j, by omega, h2⟩
theorem anyTo_congr {p q : Nat → Bool} : ∀ k, (∀ j, j < k → p j = q j) → anyTo p k = anyTo q k
  | 0, _ => rfl
  | k + 1, h => by
    unfold anyTo
    rw [h k (by omega), anyTo_congr k (fun j hj => h j (by omega))]
/-- the first from k on below 60, or -1 -/
def fstFrom (p : Nat → Bool) : Nat → Nat → Int
  | 0, _ => -1
  | m + 1, k => if p k then (k : Int) else fstFrom p m (k + 1)
end PURE
end
section
/-! names, fields, words; printed by a program out of the listing and the tables -/
def RX0 : String := "RopewayDesk$Cabin"
def TX0 : u_T := fun k => match k with
  | 0 => ("RopewayDesk$Cabin", "number", "I", true)
  | 1 => ("RopewayDesk$Cabin", "place", "I", false)
  | 2 => ("RopewayDesk$Cabin", "station", "I", false)
  | 3 => ("RopewayDesk$Cabin", "zone", "I", false)
  | 4 => ("RopewayDesk$Cabin", "done", "I", false)
  | 5 => ("RopewayDesk$Cabin", "age", "I", false)
  | 6 => ("RopewayDesk$Cabin", "clampedFor", "I", false)
  | 7 => ("RopewayDesk$Cabin", "left", "I", false)
  | 8 => ("RopewayDesk$Cabin", "right", "I", false)
  | 9 => ("RopewayDesk$Cabin", "trips", "I", false)
  | _ => ("RopewayDesk$Cabin", "fault", "I", false)
def tyX0 : Nat → FieldType := fun k => match k with
  | 0 => .int
  | 1 => .int
  | 2 => .int
  | 3 => .int
  | 4 => .int
  | 5 => .int
  | 6 => .int
  | 7 => .int
  | 8 => .int
  | 9 => .int
  | _ => .int
abbrev KX0 : vw_C := (RX0, TX0, 11)
theorem gTX0 : gT KX0 tyX0 := ⟨by decide +kernel, by decide +kernel⟩
def RX1 : String := "RopewayDesk$Fleet"
def TX1 : u_T := fun k => match k with
  | _ => ("RopewayDesk$Fleet", "cabins", "[LRopewayDesk$Cabin;", true)
def tyX1 : Nat → FieldType := fun k => match k with
  | _ => .array (.object "RopewayDesk$Cabin")
abbrev KX1 : vw_C := (RX1, TX1, 1)
theorem gTX1 : gT KX1 tyX1 := ⟨by decide +kernel, by decide +kernel⟩
def RX2 : String := "RopewayDesk$Siding"
def TX2 : u_T := fun k => match k with
  | 0 => ("RopewayDesk$Siding", "row", "[LRopewayDesk$Cabin;", true)
  | _ => ("RopewayDesk$Siding", "size", "I", false)
def tyX2 : Nat → FieldType := fun k => match k with
  | 0 => .array (.object "RopewayDesk$Cabin")
  | _ => .int
abbrev KX2 : vw_C := (RX2, TX2, 2)
theorem gTX2 : gT KX2 tyX2 := ⟨by decide +kernel, by decide +kernel⟩
def RX3 : String := "RopewayDesk$Station"
def TX3 : u_T := fun k => match k with
  | 0 => ("RopewayDesk$Station", "number", "I", true)
  | _ => ("RopewayDesk$Station", "zones", "[LRopewayDesk$Cabin;", true)
def tyX3 : Nat → FieldType := fun k => match k with
  | 0 => .int
  | _ => .array (.object "RopewayDesk$Cabin")
abbrev KX3 : vw_C := (RX3, TX3, 2)
theorem gTX3 : gT KX3 tyX3 := ⟨by decide +kernel, by decide +kernel⟩
def RX4 : String := "RopewayDesk$WindBook"
def TX4 : u_T := fun k => match k with
  | 0 => ("RopewayDesk$WindBook", "latest", "[I", true)
  | 1 => ("RopewayDesk$WindBook", "bySize", "[I", true)
  | 2 => ("RopewayDesk$WindBook", "kept", "I", false)
  | 3 => ("RopewayDesk$WindBook", "oldest", "I", false)
  | _ => ("RopewayDesk$WindBook", "middle", "I", false)
def tyX4 : Nat → FieldType := fun k => match k with
  | 0 => .array .int
  | 1 => .array .int
  | 2 => .int
  | 3 => .int
  | _ => .int
abbrev KX4 : vw_C := (RX4, TX4, 5)
theorem gTX4 : gT KX4 tyX4 := ⟨by decide +kernel, by decide +kernel⟩
def RX5 : String := "RopewayDesk"
def TX5 : u_T := fun k => match k with
  | 0 => ("RopewayDesk", "fleet", "LRopewayDesk$Fleet;", true)
  | 1 => ("RopewayDesk", "stations", "[LRopewayDesk$Station;", true)
  | 2 => ("RopewayDesk", "siding", "LRopewayDesk$Siding;", true)
  | 3 => ("RopewayDesk", "windBook", "LRopewayDesk$WindBook;", true)
  | 4 => ("RopewayDesk", "lockBits", "I", false)
  | 5 => ("RopewayDesk", "planned", "I", false)
  | 6 => ("RopewayDesk", "driveStep", "I", false)
  | 7 => ("RopewayDesk", "ropeSpeed", "I", false)
  | 8 => ("RopewayDesk", "ticksEver", "I", false)
  | _ => ("RopewayDesk", "movedEver", "I", false)
def tyX5 : Nat → FieldType := fun k => match k with
  | 0 => .object "RopewayDesk$Fleet"
  | 1 => .array (.object "RopewayDesk$Station")
  | 2 => .object "RopewayDesk$Siding"
  | 3 => .object "RopewayDesk$WindBook"
  | 4 => .int
  | 5 => .int
  | 6 => .int
  | 7 => .int
  | 8 => .int
  | _ => .int
abbrev KX5 : vw_C := (RX5, TX5, 10)
theorem gTX5 : gT KX5 tyX5 := ⟨by decide +kernel, by decide +kernel⟩
def RX6 : String := "RopewayDeskModel"
def TX6 : u_T := fun k => match k with
  | 0 => ("RopewayDeskModel", "thrown", "I", false)
  | 1 => ("RopewayDeskModel", "where", "[I", true)
  | 2 => ("RopewayDeskModel", "at", "[I", true)
  | 3 => ("RopewayDeskModel", "station", "[I", true)
  | 4 => ("RopewayDeskModel", "age", "[I", true)
  | 5 => ("RopewayDeskModel", "clamping", "[I", true)
  | 6 => ("RopewayDeskModel", "left", "[I", true)
  | 7 => ("RopewayDeskModel", "right", "[I", true)
  | 8 => ("RopewayDeskModel", "trips", "[I", true)
  | 9 => ("RopewayDeskModel", "fault", "[I", true)
  | 10 => ("RopewayDeskModel", "sided", "I", false)
  | 11 => ("RopewayDeskModel", "siding", "[I", true)
  | 12 => ("RopewayDeskModel", "reports", "I", false)
  | 13 => ("RopewayDeskModel", "winds", "[I", true)
  | 14 => ("RopewayDeskModel", "locks", "I", false)
  | 15 => ("RopewayDeskModel", "planned", "I", false)
  | 16 => ("RopewayDeskModel", "drive", "I", false)
  | 17 => ("RopewayDeskModel", "speed", "I", false)
  | 18 => ("RopewayDeskModel", "ticks", "I", false)
  | _ => ("RopewayDeskModel", "moved", "I", false)
def tyX6 : Nat → FieldType := fun k => match k with
  | 0 => .int
  | 1 => .array .int
  | 2 => .array .int
  | 3 => .array .int
  | 4 => .array .int
  | 5 => .array .int
  | 6 => .array .int
  | 7 => .array .int
  | 8 => .array .int
  | 9 => .array .int
  | 10 => .int
  | 11 => .array .int
  | 12 => .int
  | 13 => .array .int
  | 14 => .int
  | 15 => .int
  | 16 => .int
  | 17 => .int
  | 18 => .int
  | _ => .int
abbrev KX6 : vw_C := (RX6, TX6, 20)
theorem gTX6 : gT KX6 tyX6 := ⟨by decide +kernel, by decide +kernel⟩
def yX0_init : MethodName := ⟨"RopewayDesk$Cabin", "<init>", "(I)V"⟩
def yX0_standAt : MethodName := ⟨"RopewayDesk$Cabin", "standAt", "(I)V"⟩
def yX0_stopClamping : MethodName := ⟨"RopewayDesk$Cabin", "stopClamping", "()V"⟩
def yX0_isClamping : MethodName := ⟨"RopewayDesk$Cabin", "isClamping", "()Z"⟩
def yX0_hasReport : MethodName := ⟨"RopewayDesk$Cabin", "hasReport", "()Z"⟩
def yX0_faultOfReport : MethodName := ⟨"RopewayDesk$Cabin", "faultOfReport", "()I"⟩
def yX0_hasDoorsOpen : MethodName := ⟨"RopewayDesk$Cabin", "hasDoorsOpen", "()Z"⟩
def yX1_init : MethodName := ⟨"RopewayDesk$Fleet", "<init>", "()V"⟩
def yX1_countAt : MethodName := ⟨"RopewayDesk$Fleet", "countAt", "(I)I"⟩
def yX1_tripsOfAll : MethodName := ⟨"RopewayDesk$Fleet", "tripsOfAll", "()I"⟩
def yX1_farthest : MethodName := ⟨"RopewayDesk$Fleet", "farthest", "()I"⟩
def yX1_advance : MethodName := ⟨"RopewayDesk$Fleet", "advance", "(I)V"⟩
def yX1_isClear : MethodName := ⟨"RopewayDesk$Fleet", "isClear", "(II)Z"⟩
def yX1_hasNearEnd : MethodName := ⟨"RopewayDesk$Fleet", "hasNearEnd", "(I)Z"⟩
def yX1_wayAhead : MethodName := ⟨"RopewayDesk$Fleet", "wayAhead", "(LRopewayDesk$Cabin;)I"⟩
def yX1_hasLeft : MethodName := ⟨"RopewayDesk$Fleet", "hasLeft", "(LRopewayDesk$Cabin;I)Z"⟩
def yX1_spot : MethodName := ⟨"RopewayDesk$Fleet", "spot", "(LRopewayDesk$Cabin;)I"⟩
def yX2_init : MethodName := ⟨"RopewayDesk$Siding", "<init>", "()V"⟩
def yX2_hasRoom : MethodName := ⟨"RopewayDesk$Siding", "hasRoom", "()Z"⟩
def yX2_cabinAt : MethodName := ⟨"RopewayDesk$Siding", "cabinAt", "(I)LRopewayDesk$Cabin;"⟩
def yX2_append : MethodName := ⟨"RopewayDesk$Siding", "append", "(LRopewayDesk$Cabin;)V"⟩
def yX2_remove : MethodName := ⟨"RopewayDesk$Siding", "remove", "(LRopewayDesk$Cabin;)V"⟩
def yX2_placeOf : MethodName := ⟨"RopewayDesk$Siding", "placeOf", "(LRopewayDesk$Cabin;)I"⟩
def yX3_init : MethodName := ⟨"RopewayDesk$Station", "<init>", "(I)V"⟩
def yX3_admit : MethodName := ⟨"RopewayDesk$Station", "admit", "(LRopewayDesk$Cabin;I)V"⟩
def yX3_goOn : MethodName := ⟨"RopewayDesk$Station", "goOn", "(I)V"⟩
def yX3_isEmptyUpTo : MethodName := ⟨"RopewayDesk$Station", "isEmptyUpTo", "(I)Z"⟩
def yX3_count : MethodName := ⟨"RopewayDesk$Station", "count", "()I"⟩
def yX4_init : MethodName := ⟨"RopewayDesk$WindBook", "<init>", "()V"⟩
def yX4_report : MethodName := ⟨"RopewayDesk$WindBook", "report", "(I)V"⟩
def yX4_sortIn : MethodName := ⟨"RopewayDesk$WindBook", "sortIn", "(II)V"⟩
def yX5_init : MethodName := ⟨"RopewayDesk", "<init>", "()V"⟩
def yX5_pulse : MethodName := ⟨"RopewayDesk", "pulse", "(I)I"⟩
def yX5_tick : MethodName := ⟨"RopewayDesk", "tick", "(I)I"⟩
def yX5_gauge : MethodName := ⟨"RopewayDesk", "gauge", "(III)Z"⟩
def yX5_wind : MethodName := ⟨"RopewayDesk", "wind", "(I)V"⟩
def yX5_drive : MethodName := ⟨"RopewayDesk", "drive", "(I)Z"⟩
def yX5_bring : MethodName := ⟨"RopewayDesk", "bring", "(I)Z"⟩
def yX5_putOn : MethodName := ⟨"RopewayDesk", "putOn", "(II)Z"⟩
def yX5_takeOff : MethodName := ⟨"RopewayDesk", "takeOff", "(II)Z"⟩
def yX5_plan : MethodName := ⟨"RopewayDesk", "plan", "(I)I"⟩
def yX5_release : MethodName := ⟨"RopewayDesk", "release", "(I)Z"⟩
def yX5_locks : MethodName := ⟨"RopewayDesk", "locks", "()I"⟩
def yX5_where : MethodName := ⟨"RopewayDesk", "where", "(II)I"⟩
def yX5_gap : MethodName := ⟨"RopewayDesk", "gap", "(I)I"⟩
def yX5_sided : MethodName := ⟨"RopewayDesk", "sided", "(I)I"⟩
def yX5_state : MethodName := ⟨"RopewayDesk", "state", "(I)I"⟩
def yX5_checkStation : MethodName := ⟨"RopewayDesk", "checkStation", "(I)V"⟩
def yX5_checkCabin : MethodName := ⟨"RopewayDesk", "checkCabin", "(I)V"⟩
def yX5_lock : MethodName := ⟨"RopewayDesk", "lock", "(I)V"⟩
def yX5_hasCauseStill : MethodName := ⟨"RopewayDesk", "hasCauseStill", "(I)Z"⟩
def yX5_spotOf : MethodName := ⟨"RopewayDesk", "spotOf", "(LRopewayDesk$Cabin;)I"⟩
def yX5_letGo : MethodName := ⟨"RopewayDesk", "letGo", "()V"⟩
def yX5_moveRope : MethodName := ⟨"RopewayDesk", "moveRope", "(I)I"⟩
def yX5_passOneTick : MethodName := ⟨"RopewayDesk", "passOneTick", "()V"⟩
def yX5_workZones : MethodName := ⟨"RopewayDesk", "workZones", "(LRopewayDesk$Station;)V"⟩
def yX5_mayClamp : MethodName := ⟨"RopewayDesk", "mayClamp", "(LRopewayDesk$Station;LRopewayDesk$Cabin;)Z"⟩
def yX5_spacing : MethodName := ⟨"RopewayDesk", "spacing", "(LRopewayDesk$Station;)I"⟩
def yX5_goOnClamping : MethodName := ⟨"RopewayDesk", "goOnClamping", "(LRopewayDesk$Station;LRopewayDesk$Cabin;)V"⟩
def yX5_leave : MethodName := ⟨"RopewayDesk", "leave", "(LRopewayDesk$Station;LRopewayDesk$Cabin;)V"⟩
def yX5_fail : MethodName := ⟨"RopewayDesk", "fail", "(LRopewayDesk$Station;LRopewayDesk$Cabin;I)V"⟩
def yX5_targetSpeed : MethodName := ⟨"RopewayDesk", "targetSpeed", "()I"⟩
def yX5_isArrivalHeldUp : MethodName := ⟨"RopewayDesk", "isArrivalHeldUp", "()Z"⟩
def yX6_init : MethodName := ⟨"RopewayDeskModel", "<init>", "()V"⟩
def yX6_thrown : MethodName := ⟨"RopewayDeskModel", "thrown", "()I"⟩
def yX6_fails : MethodName := ⟨"RopewayDeskModel", "fails", "(Z)Z"⟩
def yX6_isIn : MethodName := ⟨"RopewayDeskModel", "isIn", "(III)Z"⟩
def yX6_isCabin : MethodName := ⟨"RopewayDeskModel", "isCabin", "(I)Z"⟩
def yX6_isStation : MethodName := ⟨"RopewayDeskModel", "isStation", "(I)Z"⟩
def yX6_in : MethodName := ⟨"RopewayDeskModel", "in", "(II)I"⟩
def yX6_many : MethodName := ⟨"RopewayDeskModel", "many", "(I)I"⟩
def yX6_inZones : MethodName := ⟨"RopewayDeskModel", "inZones", "(I)I"⟩
def yX6_letGo : MethodName := ⟨"RopewayDeskModel", "letGo", "()V"⟩
def yX6_enter : MethodName := ⟨"RopewayDeskModel", "enter", "(III)V"⟩
def yX6_isOver : MethodName := ⟨"RopewayDeskModel", "isOver", "()Z"⟩
def yX6_pulse : MethodName := ⟨"RopewayDeskModel", "pulse", "(I)I"⟩
def yX6_toSiding : MethodName := ⟨"RopewayDeskModel", "toSiding", "(I)V"⟩
def yX6_unside : MethodName := ⟨"RopewayDeskModel", "unside", "(I)V"⟩
def yX6_middle : MethodName := ⟨"RopewayDeskModel", "middle", "()I"⟩
def yX6_isTooNear : MethodName := ⟨"RopewayDeskModel", "isTooNear", "(I)Z"⟩
def yX6_clamp : MethodName := ⟨"RopewayDeskModel", "clamp", "(I)V"⟩
def yX6_work : MethodName := ⟨"RopewayDeskModel", "work", "(II)V"⟩
def yX6_isWaiting : MethodName := ⟨"RopewayDeskModel", "isWaiting", "()Z"⟩
def yX6_one : MethodName := ⟨"RopewayDeskModel", "one", "()V"⟩
def yX6_tick : MethodName := ⟨"RopewayDeskModel", "tick", "(I)I"⟩
def yX6_gauge : MethodName := ⟨"RopewayDeskModel", "gauge", "(III)Z"⟩
def yX6_wind : MethodName := ⟨"RopewayDeskModel", "wind", "(I)V"⟩
def yX6_drive : MethodName := ⟨"RopewayDeskModel", "drive", "(I)Z"⟩
def yX6_bring : MethodName := ⟨"RopewayDeskModel", "bring", "(I)Z"⟩
def yX6_putOn : MethodName := ⟨"RopewayDeskModel", "putOn", "(II)Z"⟩
def yX6_takeOff : MethodName := ⟨"RopewayDeskModel", "takeOff", "(II)Z"⟩
def yX6_plan : MethodName := ⟨"RopewayDeskModel", "plan", "(I)I"⟩
def yX6_release : MethodName := ⟨"RopewayDeskModel", "release", "(I)Z"⟩
def yX6_locks : MethodName := ⟨"RopewayDeskModel", "locks", "()I"⟩
def yX6_placeOf : MethodName := ⟨"RopewayDeskModel", "placeOf", "(I)I"⟩
def yX6_hasOpenDoors : MethodName := ⟨"RopewayDeskModel", "hasOpenDoors", "(I)Z"⟩
def yX6_where : MethodName := ⟨"RopewayDeskModel", "where", "(II)I"⟩
def yX6_gap : MethodName := ⟨"RopewayDeskModel", "gap", "(I)I"⟩
def yX6_sided : MethodName := ⟨"RopewayDeskModel", "sided", "(I)I"⟩
def yX6_state : MethodName := ⟨"RopewayDeskModel", "state", "(I)I"⟩
def yX6_all : MethodName := ⟨"RopewayDeskModel", "all", "()I"⟩
def yL_pulse : MethodName := ⟨"RopewayDeskLaw", "pulse", "(LRopewayDesk;I[J)I"⟩
def yL_tick : MethodName := ⟨"RopewayDeskLaw", "tick", "(LRopewayDesk;I[J)I"⟩
def yL_gauge : MethodName := ⟨"RopewayDeskLaw", "gauge", "(LRopewayDesk;III[J)I"⟩
def yL_wind : MethodName := ⟨"RopewayDeskLaw", "wind", "(LRopewayDesk;I)I"⟩
def yL_drive : MethodName := ⟨"RopewayDeskLaw", "drive", "(LRopewayDesk;I[J)I"⟩
def yL_bring : MethodName := ⟨"RopewayDeskLaw", "bring", "(LRopewayDesk;I[J)I"⟩
def yL_putOn : MethodName := ⟨"RopewayDeskLaw", "putOn", "(LRopewayDesk;II[J)I"⟩
def yL_takeOff : MethodName := ⟨"RopewayDeskLaw", "takeOff", "(LRopewayDesk;II[J)I"⟩
def yL_plan : MethodName := ⟨"RopewayDeskLaw", "plan", "(LRopewayDesk;I[J)I"⟩
def yL_release : MethodName := ⟨"RopewayDeskLaw", "release", "(LRopewayDesk;I[J)I"⟩
def yL_where : MethodName := ⟨"RopewayDeskLaw", "where", "(LRopewayDesk;II[J)I"⟩
def yL_gap : MethodName := ⟨"RopewayDeskLaw", "gap", "(LRopewayDesk;I[J)I"⟩
def yL_law : MethodName := ⟨"RopewayDeskLaw", "law", "([I)Z"⟩
def yJ_floorMod : MethodName := ⟨"java/lang/Math", "floorMod", "(II)I"⟩
abbrev gCl : List vw_C := [KX0, KX1, KX2, KX3, KX4, KX5, KX6]
def gWS : List Cond := lw_tbl.filter goodWord
def gTx : List (String × Nat × String) := [("RopewayDesk", 60, "n is not 0 .. 600"), ("RopewayDesk", 72, "n is not 1 .. 100"), ("RopewayDesk", 187, "no such station"), ("RopewayDesk", 80, "a force is not 0 .. 20,000"), ("RopewayDesk", 98, "the wind is not 0 .. 1,000"), ("RopewayDesk", 103, "the step is not 0 .. 5"), ("RopewayDesk", 189, "no such cabin"), ("RopewayDesk", 141, "it is not 1 .. 900 an hour"), ("RopewayDesk", 143, "no such lock")]
def gNe : List (String × Nat × MethodName × String) := [("RopewayDesk", 24, yX2_init, "RopewayDesk"), ("RopewayDesk", 31, yX4_init, "RopewayDesk")]
abbrev gπ (l : Launch) : gP := (l, gWS, gCl, [0, 3], gTx, gNe)
theorem gWS_good : gWS.all goodWord = true := by
  rw [List.all_eq_true]
  intro w hw
  exact (List.mem_filter.mp hw).2
theorem gW_t {w : Cond} (k : Nat) (h : tables_1[k]? = some w) (hg : goodWord w = true) : w ∈ gWS := List.mem_filter.mpr ⟨List.mem_append_right _ (List.mem_of_getElem? h), hg⟩
theorem gW_p {w : Cond} (k : Nat) (h : (k2_sels lw_privs)[k]? = some w) (hg : goodWord w = true) : w ∈ gWS := List.mem_filter.mpr ⟨List.mem_append_left _ (List.mem_of_getElem? h), hg⟩
abbrev mX0_init : gM := ("RopewayDesk$Cabin", prog_2_method_1_code, 2, 1, 20, "<init>", none, [])
abbrev mX0_standAt : gM := ("RopewayDesk$Cabin", prog_2_method_2_code, 2, 0, 0, "standAt", none, [])
abbrev mX0_stopClamping : gM := ("RopewayDesk$Cabin", prog_2_method_3_code, 1, 0, 0, "stopClamping", none, [])
abbrev mX0_isClamping : gM := ("RopewayDesk$Cabin", prog_2_method_4_code, 1, 0, 0, "isClamping", some .boolean, [])
abbrev mX0_hasReport : gM := ("RopewayDesk$Cabin", prog_2_method_5_code, 1, 0, 0, "hasReport", some .boolean, [])
abbrev mX0_faultOfReport : gM := ("RopewayDesk$Cabin", prog_2_method_6_code, 2, 1, 21, "faultOfReport", some .int, [])
abbrev mX0_hasDoorsOpen : gM := ("RopewayDesk$Cabin", prog_2_method_7_code, 1, 0, 0, "hasDoorsOpen", some .boolean, [])
abbrev mX1_init : gM := ("RopewayDesk$Fleet", prog_3_method_1_code, 2, 2, 41, "<init>", none, [])
abbrev mX1_countAt : gM := ("RopewayDesk$Fleet", prog_3_method_2_code, 4, 0, 0, "countAt", some .int, [])
abbrev mX1_tripsOfAll : gM := ("RopewayDesk$Fleet", prog_3_method_3_code, 3, 0, 0, "tripsOfAll", some .int, [])
abbrev mX1_farthest : gM := ("RopewayDesk$Fleet", prog_3_method_4_code, 3, 1, 21, "farthest", some .int, [])
abbrev mX1_advance : gM := ("RopewayDesk$Fleet", prog_3_method_5_code, 3, 0, 0, "advance", none, [])
abbrev mX1_isClear : gM := ("RopewayDesk$Fleet", prog_3_method_6_code, 4, 1, 21, "isClear", some .boolean, [])
abbrev mX1_hasNearEnd : gM := ("RopewayDesk$Fleet", prog_3_method_7_code, 3, 1, 21, "hasNearEnd", some .boolean, [])
abbrev mX1_wayAhead : gM := ("RopewayDesk$Fleet", prog_3_method_8_code, 5, 1, 22, "wayAhead", some .int, [])
abbrev mX1_hasLeft : gM := ("RopewayDesk$Fleet", prog_3_method_9_code, 2, 0, 0, "hasLeft", some .boolean, [])
abbrev mX1_spot : gM := ("RopewayDesk$Fleet", prog_3_method_10_code, 1, 0, 0, "spot", some .int, [])
abbrev mX2_init : gM := ("RopewayDesk$Siding", prog_4_method_1_code, 1, 1, 20, "<init>", none, [])
abbrev mX2_hasRoom : gM := ("RopewayDesk$Siding", prog_4_method_2_code, 1, 0, 0, "hasRoom", some .boolean, [])
abbrev mX2_cabinAt : gM := ("RopewayDesk$Siding", prog_4_method_3_code, 2, 0, 0, "cabinAt", some (.object "RopewayDesk$Cabin"), [])
abbrev mX2_append : gM := ("RopewayDesk$Siding", prog_4_method_4_code, 2, 1, 21, "append", none, [])
abbrev mX2_remove : gM := ("RopewayDesk$Siding", prog_4_method_5_code, 4, 1, 22, "remove", none, [])
abbrev mX2_placeOf : gM := ("RopewayDesk$Siding", prog_4_method_6_code, 3, 0, 0, "placeOf", some .int, [])
abbrev mX3_init : gM := ("RopewayDesk$Station", prog_5_method_1_code, 2, 1, 20, "<init>", none, [])
abbrev mX3_admit : gM := ("RopewayDesk$Station", prog_5_method_2_code, 3, 1, 21, "admit", none, [])
abbrev mX3_goOn : gM := ("RopewayDesk$Station", prog_5_method_3_code, 3, 2, 43, "goOn", none, [])
abbrev mX3_isEmptyUpTo : gM := ("RopewayDesk$Station", prog_5_method_4_code, 3, 0, 0, "isEmptyUpTo", some .boolean, [])
abbrev mX3_count : gM := ("RopewayDesk$Station", prog_5_method_5_code, 3, 0, 0, "count", some .int, [])
abbrev mX4_init : gM := ("RopewayDesk$WindBook", prog_6_method_1_code, 1, 1, 20, "<init>", none, [])
abbrev mX4_report : gM := ("RopewayDesk$WindBook", prog_6_method_2_code, 3, 1, 23, "report", none, [])
abbrev mX4_sortIn : gM := ("RopewayDesk$WindBook", prog_6_method_3_code, 4, 0, 0, "sortIn", none, [])
abbrev mX5_init : gM := ("RopewayDesk", prog_1_method_1_code, 2, 3, 62, "<init>", none, [])
abbrev mX5_pulse : gM := ("RopewayDesk", prog_1_method_2_code, 3, 6, 90, "pulse", some .int, [])
abbrev mX5_tick : gM := ("RopewayDesk", prog_1_method_3_code, 3, 6, 132, "tick", some .int, [])
abbrev mX5_gauge : gM := ("RopewayDesk", prog_1_method_4_code, 5, 7, 110, "gauge", some .boolean, [])
abbrev mX5_wind : gM := ("RopewayDesk", prog_1_method_5_code, 2, 6, 90, "wind", none, [])
abbrev mX5_drive : gM := ("RopewayDesk", prog_1_method_6_code, 2, 6, 90, "drive", some .boolean, [])
abbrev mX5_bring : gM := ("RopewayDesk", prog_1_method_7_code, 3, 7, 110, "bring", some .boolean, [])
abbrev mX5_putOn : gM := ("RopewayDesk", prog_1_method_8_code, 5, 7, 110, "putOn", some .boolean, [])
abbrev mX5_takeOff : gM := ("RopewayDesk", prog_1_method_9_code, 4, 7, 110, "takeOff", some .boolean, [])
abbrev mX5_plan : gM := ("RopewayDesk", prog_1_method_10_code, 2, 6, 90, "plan", some .int, [])
abbrev mX5_release : gM := ("RopewayDesk", prog_1_method_11_code, 3, 6, 90, "release", some .boolean, [])
abbrev mX5_locks : gM := ("RopewayDesk", prog_1_method_12_code, 1, 0, 0, "locks", some .int, [])
abbrev mX5_where : gM := ("RopewayDesk", prog_1_method_13_code, 4, 7, 110, "where", some .int, [])
abbrev mX5_gap : gM := ("RopewayDesk", prog_1_method_14_code, 3, 7, 110, "gap", some .int, [])
abbrev mX5_sided : gM := ("RopewayDesk", prog_1_method_15_code, 3, 1, 21, "sided", some .int, [])
abbrev mX5_state : gM := ("RopewayDesk", prog_1_method_16_code, 2, 1, 23, "state", some .int, [])
abbrev mX5_checkStation : gM := ("RopewayDesk", prog_1_method_17_code, 1, 6, 90, "checkStation", none, [])
abbrev mX5_checkCabin : gM := ("RopewayDesk", prog_1_method_18_code, 1, 6, 90, "checkCabin", none, [])
abbrev mX5_lock : gM := ("RopewayDesk", prog_1_method_19_code, 2, 0, 0, "lock", none, [])
abbrev mX5_hasCauseStill : gM := ("RopewayDesk", prog_1_method_20_code, 2, 2, 43, "hasCauseStill", some .boolean, [])
abbrev mX5_spotOf : gM := ("RopewayDesk", prog_1_method_21_code, 2, 1, 22, "spotOf", some .int, [])
abbrev mX5_letGo : gM := ("RopewayDesk", prog_1_method_22_code, 4, 2, 43, "letGo", none, [])
abbrev mX5_moveRope : gM := ("RopewayDesk", prog_1_method_23_code, 5, 3, 66, "moveRope", some .int, [])
abbrev mX5_passOneTick : gM := ("RopewayDesk", prog_1_method_24_code, 2, 5, 111, "passOneTick", none, [])
abbrev mX5_workZones : gM := ("RopewayDesk", prog_1_method_25_code, 4, 4, 88, "workZones", none, [])
abbrev mX5_mayClamp : gM := ("RopewayDesk", prog_1_method_26_code, 3, 2, 44, "mayClamp", some .boolean, [])
abbrev mX5_spacing : gM := ("RopewayDesk", prog_1_method_27_code, 2, 1, 22, "spacing", some .int, [])
abbrev mX5_goOnClamping : gM := ("RopewayDesk", prog_1_method_28_code, 4, 3, 65, "goOnClamping", none, [])
abbrev mX5_leave : gM := ("RopewayDesk", prog_1_method_29_code, 3, 1, 21, "leave", none, [])
abbrev mX5_fail : gM := ("RopewayDesk", prog_1_method_30_code, 4, 2, 42, "fail", none, [])
abbrev mX5_targetSpeed : gM := ("RopewayDesk", prog_1_method_31_code, 1, 3, 64, "targetSpeed", some .int, [])
abbrev mX5_isArrivalHeldUp : gM := ("RopewayDesk", prog_1_method_32_code, 2, 2, 43, "isArrivalHeldUp", some .boolean, [])
abbrev mX6_init : gM := ("RopewayDeskModel", prog_8_method_1_code, 2, 1, 20, "<init>", none, [])
abbrev mX6_thrown : gM := ("RopewayDeskModel", prog_8_method_2_code, 1, 0, 0, "thrown", some .int, [])
abbrev mX6_fails : gM := ("RopewayDeskModel", prog_8_method_3_code, 2, 0, 0, "fails", some .boolean, [])
abbrev mX6_isIn : gM := ("RopewayDeskModel", prog_8_method_4_code, 3, 0, 0, "isIn", some .boolean, [])
abbrev mX6_isCabin : gM := ("RopewayDeskModel", prog_8_method_5_code, 1, 1, 22, "isCabin", some .boolean, [])
abbrev mX6_isStation : gM := ("RopewayDeskModel", prog_8_method_6_code, 1, 1, 22, "isStation", some .boolean, [])
abbrev mX6_in : gM := ("RopewayDeskModel", prog_8_method_7_code, 4, 0, 0, "in", some .int, [])
abbrev mX6_many : gM := ("RopewayDeskModel", prog_8_method_8_code, 4, 0, 0, "many", some .int, [])
abbrev mX6_inZones : gM := ("RopewayDeskModel", prog_8_method_9_code, 4, 0, 0, "inZones", some .int, [])
abbrev mX6_letGo : gM := ("RopewayDeskModel", prog_8_method_10_code, 2, 1, 23, "letGo", none, [])
abbrev mX6_enter : gM := ("RopewayDeskModel", prog_8_method_11_code, 4, 0, 0, "enter", none, [])
abbrev mX6_isOver : gM := ("RopewayDeskModel", prog_8_method_12_code, 2, 0, 0, "isOver", some .boolean, [])
abbrev mX6_pulse : gM := ("RopewayDeskModel", prog_8_method_13_code, 4, 2, 44, "pulse", some .int, [])
abbrev mX6_toSiding : gM := ("RopewayDeskModel", prog_8_method_14_code, 2, 0, 0, "toSiding", none, [])
abbrev mX6_unside : gM := ("RopewayDeskModel", prog_8_method_15_code, 4, 0, 0, "unside", none, [])
abbrev mX6_middle : gM := ("RopewayDeskModel", prog_8_method_16_code, 7, 0, 0, "middle", some .int, [])
abbrev mX6_isTooNear : gM := ("RopewayDeskModel", prog_8_method_17_code, 4, 1, 23, "isTooNear", some .boolean, [])
abbrev mX6_clamp : gM := ("RopewayDeskModel", prog_8_method_18_code, 7, 1, 21, "clamp", none, [])
abbrev mX6_work : gM := ("RopewayDeskModel", prog_8_method_19_code, 4, 2, 47, "work", none, [])
abbrev mX6_isWaiting : gM := ("RopewayDeskModel", prog_8_method_20_code, 2, 1, 23, "isWaiting", some .boolean, [])
abbrev mX6_one : gM := ("RopewayDeskModel", prog_8_method_21_code, 3, 3, 70, "one", none, [])
abbrev mX6_tick : gM := ("RopewayDeskModel", prog_8_method_22_code, 3, 4, 92, "tick", some .int, [])
abbrev mX6_gauge : gM := ("RopewayDeskModel", prog_8_method_23_code, 5, 2, 42, "gauge", some .boolean, [])
abbrev mX6_wind : gM := ("RopewayDeskModel", prog_8_method_24_code, 2, 1, 22, "wind", none, [])
abbrev mX6_drive : gM := ("RopewayDeskModel", prog_8_method_25_code, 2, 1, 22, "drive", some .boolean, [])
abbrev mX6_bring : gM := ("RopewayDeskModel", prog_8_method_26_code, 2, 2, 42, "bring", some .boolean, [])
abbrev mX6_putOn : gM := ("RopewayDeskModel", prog_8_method_27_code, 4, 2, 42, "putOn", some .boolean, [])
abbrev mX6_takeOff : gM := ("RopewayDeskModel", prog_8_method_28_code, 3, 2, 42, "takeOff", some .boolean, [])
abbrev mX6_plan : gM := ("RopewayDeskModel", prog_8_method_29_code, 2, 1, 22, "plan", some .int, [])
abbrev mX6_release : gM := ("RopewayDeskModel", prog_8_method_30_code, 2, 1, 26, "release", some .boolean, [])
abbrev mX6_locks : gM := ("RopewayDeskModel", prog_8_method_31_code, 1, 0, 0, "locks", some .int, [])
abbrev mX6_placeOf : gM := ("RopewayDeskModel", prog_8_method_32_code, 3, 0, 0, "placeOf", some .int, [])
abbrev mX6_hasOpenDoors : gM := ("RopewayDeskModel", prog_8_method_33_code, 2, 0, 0, "hasOpenDoors", some .boolean, [])
abbrev mX6_where : gM := ("RopewayDeskModel", prog_8_method_34_code, 3, 2, 42, "where", some .int, [])
abbrev mX6_gap : gM := ("RopewayDeskModel", prog_8_method_35_code, 5, 2, 42, "gap", some .int, [])
abbrev mX6_sided : gM := ("RopewayDeskModel", prog_8_method_36_code, 2, 1, 22, "sided", some .int, [])
abbrev mX6_state : gM := ("RopewayDeskModel", prog_8_method_37_code, 2, 1, 26, "state", some .int, [])
abbrev mX6_all : gM := ("RopewayDeskModel", prog_8_method_38_code, 3, 0, 0, "all", some .int, [])
abbrev mL_pulse : gM := ("RopewayDeskLaw", method_3_code, 4, 7, 112, "pulse", some .int, [(0, 9, 12, 13)])
abbrev mL_tick : gM := ("RopewayDeskLaw", method_4_code, 4, 7, 154, "tick", some .int, [(0, 9, 12, 13)])
abbrev mL_gauge : gM := ("RopewayDeskLaw", method_5_code, 6, 8, 134, "gauge", some .int, [(0, 19, 22, 13)])
abbrev mL_wind : gM := ("RopewayDeskLaw", method_6_code, 3, 7, 111, "wind", some .int, [(0, 5, 8, 13)])
abbrev mL_drive : gM := ("RopewayDeskLaw", method_7_code, 4, 7, 111, "drive", some .int, [(0, 16, 19, 13)])
abbrev mL_bring : gM := ("RopewayDeskLaw", method_8_code, 4, 8, 132, "bring", some .int, [(0, 16, 19, 13)])
abbrev mL_putOn : gM := ("RopewayDeskLaw", method_9_code, 5, 8, 134, "putOn", some .int, [(0, 17, 20, 13)])
abbrev mL_takeOff : gM := ("RopewayDeskLaw", method_10_code, 5, 8, 133, "takeOff", some .int, [(0, 17, 20, 13)])
abbrev mL_plan : gM := ("RopewayDeskLaw", method_11_code, 4, 7, 111, "plan", some .int, [(0, 9, 12, 13)])
abbrev mL_release : gM := ("RopewayDeskLaw", method_12_code, 4, 7, 112, "release", some .int, [(0, 16, 19, 13)])
abbrev mL_where : gM := ("RopewayDeskLaw", method_13_code, 5, 8, 133, "where", some .int, [(0, 10, 13, 13)])
abbrev mL_gap : gM := ("RopewayDeskLaw", method_14_code, 4, 8, 132, "gap", some .int, [(0, 9, 12, 13)])
abbrev mL_law : gM := ("RopewayDeskLaw", code, 7, 11, 388, "law", some .boolean, [])
abbrev mJ_floorMod : gM := ("java/lang/Math", prog_11_method_50_code, 3, 0, 0, "floorMod", some .int, [])
end
section
/-! words of fields, methods and links -/
theorem lX0 : ∀ w ∈ u_ws KX0.1 KX0.2.1 KX0.2.2, w ∈ gWS := by
  intro w hw
  obtain ⟨k, hk, rfl⟩ := List.mem_map.mp hw
  have hk := List.mem_range.mp hk
  match k, hk with
  | 0, _ => exact (gW_t 63 (by decide +kernel) rfl)
  | 1, _ => exact (gW_t 65 (by decide +kernel) rfl)
  | 2, _ => exact (gW_t 67 (by decide +kernel) rfl)
  | 3, _ => exact (gW_t 69 (by decide +kernel) rfl)
  | 4, _ => exact (gW_t 71 (by decide +kernel) rfl)
  | 5, _ => exact (gW_t 73 (by decide +kernel) rfl)
  | 6, _ => exact (gW_t 75 (by decide +kernel) rfl)
  | 7, _ => exact (gW_t 77 (by decide +kernel) rfl)
  | 8, _ => exact (gW_t 79 (by decide +kernel) rfl)
  | 9, _ => exact (gW_t 81 (by decide +kernel) rfl)
  | 10, _ => exact (gW_t 83 (by decide +kernel) rfl)
  | n + 11, h => exact absurd h (by show ¬ n + 11 < 11; omega)
theorem lX1 : ∀ w ∈ u_ws KX1.1 KX1.2.1 KX1.2.2, w ∈ gWS := by
  intro w hw
  obtain ⟨k, hk, rfl⟩ := List.mem_map.mp hw
  have hk := List.mem_range.mp hk
  match k, hk with
  | 0, _ => exact (gW_t 88 (by decide +kernel) rfl)
  | n + 1, h => exact absurd h (by show ¬ n + 1 < 1; omega)
theorem lX2 : ∀ w ∈ u_ws KX2.1 KX2.2.1 KX2.2.2, w ∈ gWS := by
  intro w hw
  obtain ⟨k, hk, rfl⟩ := List.mem_map.mp hw
  have hk := List.mem_range.mp hk
  match k, hk with
  | 0, _ => exact (gW_t 103 (by decide +kernel) rfl)
  | 1, _ => exact (gW_t 105 (by decide +kernel) rfl)
  | n + 2, h => exact absurd h (by show ¬ n + 2 < 2; omega)
theorem lX3 : ∀ w ∈ u_ws KX3.1 KX3.2.1 KX3.2.2, w ∈ gWS := by
  intro w hw
  obtain ⟨k, hk, rfl⟩ := List.mem_map.mp hw
  have hk := List.mem_range.mp hk
  match k, hk with
  | 0, _ => exact (gW_t 142 (by decide +kernel) rfl)
  | 1, _ => exact (gW_t 144 (by decide +kernel) rfl)
  | n + 2, h => exact absurd h (by show ¬ n + 2 < 2; omega)
theorem lX4 : ∀ w ∈ u_ws KX4.1 KX4.2.1 KX4.2.2, w ∈ gWS := by
  intro w hw
  obtain ⟨k, hk, rfl⟩ := List.mem_map.mp hw
  have hk := List.mem_range.mp hk
  match k, hk with
  | 0, _ => exact (gW_t 120 (by decide +kernel) rfl)
  | 1, _ => exact (gW_t 122 (by decide +kernel) rfl)
  | 2, _ => exact (gW_t 124 (by decide +kernel) rfl)
  | 3, _ => exact (gW_t 126 (by decide +kernel) rfl)
  | 4, _ => exact (gW_t 128 (by decide +kernel) rfl)
  | n + 5, h => exact absurd h (by show ¬ n + 5 < 5; omega)
theorem lX5 : ∀ w ∈ u_ws KX5.1 KX5.2.1 KX5.2.2, w ∈ gWS := by
  intro w hw
  obtain ⟨k, hk, rfl⟩ := List.mem_map.mp hw
  have hk := List.mem_range.mp hk
  match k, hk with
  | 0, _ => exact (gW_t 157 (by decide +kernel) rfl)
  | 1, _ => exact (gW_t 159 (by decide +kernel) rfl)
  | 2, _ => exact (gW_t 161 (by decide +kernel) rfl)
  | 3, _ => exact (gW_t 163 (by decide +kernel) rfl)
  | 4, _ => exact (gW_t 165 (by decide +kernel) rfl)
  | 5, _ => exact (gW_t 167 (by decide +kernel) rfl)
  | 6, _ => exact (gW_t 169 (by decide +kernel) rfl)
  | 7, _ => exact (gW_t 171 (by decide +kernel) rfl)
  | 8, _ => exact (gW_t 173 (by decide +kernel) rfl)
  | 9, _ => exact (gW_t 175 (by decide +kernel) rfl)
  | n + 10, h => exact absurd h (by show ¬ n + 10 < 10; omega)
theorem lX6 : ∀ w ∈ u_ws KX6.1 KX6.2.1 KX6.2.2, w ∈ gWS := by
  intro w hw
  obtain ⟨k, hk, rfl⟩ := List.mem_map.mp hw
  have hk := List.mem_range.mp hk
  match k, hk with
  | 0, _ => exact (gW_t 559 (by decide +kernel) rfl)
  | 1, _ => exact (gW_t 561 (by decide +kernel) rfl)
  | 2, _ => exact (gW_t 563 (by decide +kernel) rfl)
  | 3, _ => exact (gW_t 565 (by decide +kernel) rfl)
  | 4, _ => exact (gW_t 567 (by decide +kernel) rfl)
  | 5, _ => exact (gW_t 569 (by decide +kernel) rfl)
  | 6, _ => exact (gW_t 571 (by decide +kernel) rfl)
  | 7, _ => exact (gW_t 573 (by decide +kernel) rfl)
  | 8, _ => exact (gW_t 575 (by decide +kernel) rfl)
  | 9, _ => exact (gW_t 577 (by decide +kernel) rfl)
  | 10, _ => exact (gW_t 579 (by decide +kernel) rfl)
  | 11, _ => exact (gW_t 581 (by decide +kernel) rfl)
  | 12, _ => exact (gW_t 583 (by decide +kernel) rfl)
  | 13, _ => exact (gW_t 585 (by decide +kernel) rfl)
  | 14, _ => exact (gW_t 587 (by decide +kernel) rfl)
  | 15, _ => exact (gW_t 589 (by decide +kernel) rfl)
  | 16, _ => exact (gW_t 591 (by decide +kernel) rfl)
  | 17, _ => exact (gW_t 593 (by decide +kernel) rfl)
  | 18, _ => exact (gW_t 595 (by decide +kernel) rfl)
  | 19, _ => exact (gW_t 597 (by decide +kernel) rfl)
  | n + 20, h => exact absurd h (by show ¬ n + 20 < 20; omega)
theorem fX0_9 (l : Launch) : gF (gπ l) "RopewayDesk$Cabin" 9 0 1 KX0 := ⟨rfl, by decide, lX0, (gW_t 36 (by decide +kernel) rfl)⟩
theorem fX0_15 (l : Launch) : gF (gπ l) "RopewayDesk$Cabin" 15 0 2 KX0 := ⟨rfl, by decide, lX0, (gW_t 39 (by decide +kernel) rfl)⟩
theorem fX0_18 (l : Launch) : gF (gπ l) "RopewayDesk$Cabin" 18 0 3 KX0 := ⟨rfl, by decide, lX0, (gW_t 43 (by decide +kernel) rfl)⟩
theorem fX0_21 (l : Launch) : gF (gπ l) "RopewayDesk$Cabin" 21 0 4 KX0 := ⟨rfl, by decide, lX0, (gW_t 46 (by decide +kernel) rfl)⟩
theorem fX0_24 (l : Launch) : gF (gπ l) "RopewayDesk$Cabin" 24 0 5 KX0 := ⟨rfl, by decide, lX0, (gW_t 49 (by decide +kernel) rfl)⟩
theorem fX0_27 (l : Launch) : gF (gπ l) "RopewayDesk$Cabin" 27 0 6 KX0 := ⟨rfl, by decide, lX0, (gW_t 52 (by decide +kernel) rfl)⟩
theorem fX0_30 (l : Launch) : gF (gπ l) "RopewayDesk$Cabin" 30 0 7 KX0 := ⟨rfl, by decide, lX0, (gW_t 54 (by decide +kernel) rfl)⟩
theorem fX0_33 (l : Launch) : gF (gπ l) "RopewayDesk$Cabin" 33 0 8 KX0 := ⟨rfl, by decide, lX0, (gW_t 56 (by decide +kernel) rfl)⟩
theorem fX0_36 (l : Launch) : gF (gπ l) "RopewayDesk$Cabin" 36 0 9 KX0 := ⟨rfl, by decide, lX0, (gW_t 58 (by decide +kernel) rfl)⟩
theorem fX0_39 (l : Launch) : gF (gπ l) "RopewayDesk$Cabin" 39 0 10 KX0 := ⟨rfl, by decide, lX0, (gW_t 61 (by decide +kernel) rfl)⟩
theorem fX0_42 (l : Launch) : gF (gπ l) "RopewayDesk$Cabin" 42 0 0 KX0 := ⟨rfl, by decide, lX0, (gW_t 34 (by decide +kernel) rfl)⟩
theorem fX1_11 (l : Launch) : gF (gπ l) "RopewayDesk$Fleet" 11 1 0 KX1 := ⟨rfl, by decide, lX1, (gW_t 86 (by decide +kernel) rfl)⟩
theorem fX1_20 (l : Launch) : gF (gπ l) "RopewayDesk$Fleet" 20 0 1 KX0 := ⟨rfl, by decide, lX0, (gW_t 37 (by decide +kernel) rfl)⟩
theorem fX1_24 (l : Launch) : gF (gπ l) "RopewayDesk$Fleet" 24 0 9 KX0 := ⟨rfl, by decide, lX0, (gW_t 59 (by decide +kernel) rfl)⟩
theorem fX1_27 (l : Launch) : gF (gπ l) "RopewayDesk$Fleet" 27 0 4 KX0 := ⟨rfl, by decide, lX0, (gW_t 47 (by decide +kernel) rfl)⟩
theorem fX1_50 (l : Launch) : gF (gπ l) "RopewayDesk$Fleet" 50 0 2 KX0 := ⟨rfl, by decide, lX0, (gW_t 41 (by decide +kernel) rfl)⟩
theorem fX2_11 (l : Launch) : gF (gπ l) "RopewayDesk$Siding" 11 2 0 KX2 := ⟨rfl, by decide, lX2, (gW_t 100 (by decide +kernel) rfl)⟩
theorem fX2_17 (l : Launch) : gF (gπ l) "RopewayDesk$Siding" 17 2 1 KX2 := ⟨rfl, by decide, lX2, (gW_t 101 (by decide +kernel) rfl)⟩
theorem fX3_11 (l : Launch) : gF (gπ l) "RopewayDesk$Station" 11 3 1 KX3 := ⟨rfl, by decide, lX3, (gW_t 140 (by decide +kernel) rfl)⟩
theorem fX3_17 (l : Launch) : gF (gπ l) "RopewayDesk$Station" 17 3 0 KX3 := ⟨rfl, by decide, lX3, (gW_t 138 (by decide +kernel) rfl)⟩
theorem fX3_25 (l : Launch) : gF (gπ l) "RopewayDesk$Station" 25 0 2 KX0 := ⟨rfl, by decide, lX0, (gW_t 40 (by decide +kernel) rfl)⟩
theorem fX3_28 (l : Launch) : gF (gπ l) "RopewayDesk$Station" 28 0 3 KX0 := ⟨rfl, by decide, lX0, (gW_t 44 (by decide +kernel) rfl)⟩
theorem fX3_31 (l : Launch) : gF (gπ l) "RopewayDesk$Station" 31 0 5 KX0 := ⟨rfl, by decide, lX0, (gW_t 50 (by decide +kernel) rfl)⟩
theorem fX4_9 (l : Launch) : gF (gπ l) "RopewayDesk$WindBook" 9 4 0 KX4 := ⟨rfl, by decide, lX4, (gW_t 114 (by decide +kernel) rfl)⟩
theorem fX4_13 (l : Launch) : gF (gπ l) "RopewayDesk$WindBook" 13 4 1 KX4 := ⟨rfl, by decide, lX4, (gW_t 115 (by decide +kernel) rfl)⟩
theorem fX4_16 (l : Launch) : gF (gπ l) "RopewayDesk$WindBook" 16 4 2 KX4 := ⟨rfl, by decide, lX4, (gW_t 116 (by decide +kernel) rfl)⟩
theorem fX4_20 (l : Launch) : gF (gπ l) "RopewayDesk$WindBook" 20 4 3 KX4 := ⟨rfl, by decide, lX4, (gW_t 117 (by decide +kernel) rfl)⟩
theorem fX4_23 (l : Launch) : gF (gπ l) "RopewayDesk$WindBook" 23 4 4 KX4 := ⟨rfl, by decide, lX4, (gW_t 118 (by decide +kernel) rfl)⟩
theorem fX5_10 (l : Launch) : gF (gπ l) "RopewayDesk" 10 5 0 KX5 := ⟨rfl, by decide, lX5, (gW_t 147 (by decide +kernel) rfl)⟩
theorem fX5_18 (l : Launch) : gF (gπ l) "RopewayDesk" 18 5 1 KX5 := ⟨rfl, by decide, lX5, (gW_t 148 (by decide +kernel) rfl)⟩
theorem fX5_25 (l : Launch) : gF (gπ l) "RopewayDesk" 25 5 2 KX5 := ⟨rfl, by decide, lX5, (gW_t 149 (by decide +kernel) rfl)⟩
theorem fX5_32 (l : Launch) : gF (gπ l) "RopewayDesk" 32 5 3 KX5 := ⟨rfl, by decide, lX5, (gW_t 150 (by decide +kernel) rfl)⟩
theorem fX5_36 (l : Launch) : gF (gπ l) "RopewayDesk" 36 5 4 KX5 := ⟨rfl, by decide, lX5, (gW_t 151 (by decide +kernel) rfl)⟩
theorem fX5_40 (l : Launch) : gF (gπ l) "RopewayDesk" 40 5 5 KX5 := ⟨rfl, by decide, lX5, (gW_t 152 (by decide +kernel) rfl)⟩
theorem fX5_43 (l : Launch) : gF (gπ l) "RopewayDesk" 43 5 6 KX5 := ⟨rfl, by decide, lX5, (gW_t 153 (by decide +kernel) rfl)⟩
theorem fX5_46 (l : Launch) : gF (gπ l) "RopewayDesk" 46 5 7 KX5 := ⟨rfl, by decide, lX5, (gW_t 154 (by decide +kernel) rfl)⟩
theorem fX5_49 (l : Launch) : gF (gπ l) "RopewayDesk" 49 5 8 KX5 := ⟨rfl, by decide, lX5, (gW_t 155 (by decide +kernel) rfl)⟩
theorem fX5_52 (l : Launch) : gF (gπ l) "RopewayDesk" 52 5 9 KX5 := ⟨rfl, by decide, lX5, (gW_t 156 (by decide +kernel) rfl)⟩
theorem fX5_82 (l : Launch) : gF (gπ l) "RopewayDesk" 82 3 1 KX3 := ⟨rfl, by decide, lX3, (gW_t 141 (by decide +kernel) rfl)⟩
theorem fX5_92 (l : Launch) : gF (gπ l) "RopewayDesk" 92 0 7 KX0 := ⟨rfl, by decide, lX0, (gW_t 55 (by decide +kernel) rfl)⟩
theorem fX5_95 (l : Launch) : gF (gπ l) "RopewayDesk" 95 0 8 KX0 := ⟨rfl, by decide, lX0, (gW_t 57 (by decide +kernel) rfl)⟩
theorem fX5_108 (l : Launch) : gF (gπ l) "RopewayDesk" 108 1 0 KX1 := ⟨rfl, by decide, lX1, (gW_t 87 (by decide +kernel) rfl)⟩
theorem fX5_111 (l : Launch) : gF (gπ l) "RopewayDesk" 111 0 1 KX0 := ⟨rfl, by decide, lX0, (gW_t 38 (by decide +kernel) rfl)⟩
theorem fX5_135 (l : Launch) : gF (gπ l) "RopewayDesk" 135 0 2 KX0 := ⟨rfl, by decide, lX0, (gW_t 42 (by decide +kernel) rfl)⟩
theorem fX5_138 (l : Launch) : gF (gπ l) "RopewayDesk" 138 0 3 KX0 := ⟨rfl, by decide, lX0, (gW_t 45 (by decide +kernel) rfl)⟩
theorem fX5_152 (l : Launch) : gF (gπ l) "RopewayDesk" 152 0 5 KX0 := ⟨rfl, by decide, lX0, (gW_t 51 (by decide +kernel) rfl)⟩
theorem fX5_155 (l : Launch) : gF (gπ l) "RopewayDesk" 155 0 6 KX0 := ⟨rfl, by decide, lX0, (gW_t 53 (by decide +kernel) rfl)⟩
theorem fX5_161 (l : Launch) : gF (gπ l) "RopewayDesk" 161 0 9 KX0 := ⟨rfl, by decide, lX0, (gW_t 60 (by decide +kernel) rfl)⟩
theorem fX5_164 (l : Launch) : gF (gπ l) "RopewayDesk" 164 0 10 KX0 := ⟨rfl, by decide, lX0, (gW_t 62 (by decide +kernel) rfl)⟩
theorem fX5_174 (l : Launch) : gF (gπ l) "RopewayDesk" 174 0 0 KX0 := ⟨rfl, by decide, lX0, (gW_t 35 (by decide +kernel) rfl)⟩
theorem fX5_177 (l : Launch) : gF (gπ l) "RopewayDesk" 177 4 4 KX4 := ⟨rfl, by decide, lX4, (gW_t 119 (by decide +kernel) rfl)⟩
theorem fX5_180 (l : Launch) : gF (gπ l) "RopewayDesk" 180 2 1 KX2 := ⟨rfl, by decide, lX2, (gW_t 102 (by decide +kernel) rfl)⟩
theorem fX5_197 (l : Launch) : gF (gπ l) "RopewayDesk" 197 0 4 KX0 := ⟨rfl, by decide, lX0, (gW_t 48 (by decide +kernel) rfl)⟩
theorem fX5_230 (l : Launch) : gF (gπ l) "RopewayDesk" 230 3 0 KX3 := ⟨rfl, by decide, lX3, (gW_t 139 (by decide +kernel) rfl)⟩
theorem fX6_7 (l : Launch) : gF (gπ l) "RopewayDeskModel" 7 6 1 KX6 := ⟨rfl, by decide, lX6, (gW_t 540 (by decide +kernel) rfl)⟩
theorem fX6_13 (l : Launch) : gF (gπ l) "RopewayDeskModel" 13 6 2 KX6 := ⟨rfl, by decide, lX6, (gW_t 541 (by decide +kernel) rfl)⟩
theorem fX6_16 (l : Launch) : gF (gπ l) "RopewayDeskModel" 16 6 3 KX6 := ⟨rfl, by decide, lX6, (gW_t 542 (by decide +kernel) rfl)⟩
theorem fX6_19 (l : Launch) : gF (gπ l) "RopewayDeskModel" 19 6 4 KX6 := ⟨rfl, by decide, lX6, (gW_t 543 (by decide +kernel) rfl)⟩
theorem fX6_22 (l : Launch) : gF (gπ l) "RopewayDeskModel" 22 6 5 KX6 := ⟨rfl, by decide, lX6, (gW_t 544 (by decide +kernel) rfl)⟩
theorem fX6_25 (l : Launch) : gF (gπ l) "RopewayDeskModel" 25 6 6 KX6 := ⟨rfl, by decide, lX6, (gW_t 545 (by decide +kernel) rfl)⟩
theorem fX6_28 (l : Launch) : gF (gπ l) "RopewayDeskModel" 28 6 7 KX6 := ⟨rfl, by decide, lX6, (gW_t 546 (by decide +kernel) rfl)⟩
theorem fX6_31 (l : Launch) : gF (gπ l) "RopewayDeskModel" 31 6 8 KX6 := ⟨rfl, by decide, lX6, (gW_t 547 (by decide +kernel) rfl)⟩
theorem fX6_34 (l : Launch) : gF (gπ l) "RopewayDeskModel" 34 6 9 KX6 := ⟨rfl, by decide, lX6, (gW_t 548 (by decide +kernel) rfl)⟩
theorem fX6_37 (l : Launch) : gF (gπ l) "RopewayDeskModel" 37 6 11 KX6 := ⟨rfl, by decide, lX6, (gW_t 550 (by decide +kernel) rfl)⟩
theorem fX6_40 (l : Launch) : gF (gπ l) "RopewayDeskModel" 40 6 13 KX6 := ⟨rfl, by decide, lX6, (gW_t 552 (by decide +kernel) rfl)⟩
theorem fX6_43 (l : Launch) : gF (gπ l) "RopewayDeskModel" 43 6 15 KX6 := ⟨rfl, by decide, lX6, (gW_t 554 (by decide +kernel) rfl)⟩
theorem fX6_47 (l : Launch) : gF (gπ l) "RopewayDeskModel" 47 6 0 KX6 := ⟨rfl, by decide, lX6, (gW_t 539 (by decide +kernel) rfl)⟩
theorem fX6_73 (l : Launch) : gF (gπ l) "RopewayDeskModel" 73 6 14 KX6 := ⟨rfl, by decide, lX6, (gW_t 553 (by decide +kernel) rfl)⟩
theorem fX6_76 (l : Launch) : gF (gπ l) "RopewayDeskModel" 76 6 19 KX6 := ⟨rfl, by decide, lX6, (gW_t 558 (by decide +kernel) rfl)⟩
theorem fX6_79 (l : Launch) : gF (gπ l) "RopewayDeskModel" 79 6 10 KX6 := ⟨rfl, by decide, lX6, (gW_t 549 (by decide +kernel) rfl)⟩
theorem fX6_82 (l : Launch) : gF (gπ l) "RopewayDeskModel" 82 6 12 KX6 := ⟨rfl, by decide, lX6, (gW_t 551 (by decide +kernel) rfl)⟩
theorem fX6_111 (l : Launch) : gF (gπ l) "RopewayDeskModel" 111 6 16 KX6 := ⟨rfl, by decide, lX6, (gW_t 555 (by decide +kernel) rfl)⟩
theorem fX6_114 (l : Launch) : gF (gπ l) "RopewayDeskModel" 114 6 17 KX6 := ⟨rfl, by decide, lX6, (gW_t 556 (by decide +kernel) rfl)⟩
theorem fX6_117 (l : Launch) : gF (gπ l) "RopewayDeskModel" 117 6 18 KX6 := ⟨rfl, by decide, lX6, (gW_t 557 (by decide +kernel) rfl)⟩
set_option maxRecDepth 40000 in
theorem qX0_init : gcw mX0_init yX0_init ∈ gWS ∧ Cond.initialized yX0_init.cls ∈ gWS ∧ (yX0_init.cls ≠ "java/lang/invoke/MethodHandle" ∧ yX0_init.cls ≠ "java/lang/invoke/VarHandle") ∧ (parseMethodDescriptor yX0_init.desc).map (fun d => d.parameters.length) = some 1 := ⟨(gW_t 32 rfl rfl), (gW_t 3 (by decide +kernel) rfl), ⟨by decide, by decide⟩, by decide +kernel⟩
theorem iX0_init : Cond.instanceMethod yX0_init ∈ gWS := (gW_t 31 (by decide +kernel) rfl)
set_option maxRecDepth 40000 in
theorem qX0_standAt : gcw mX0_standAt yX0_standAt ∈ gWS ∧ Cond.initialized yX0_standAt.cls ∈ gWS ∧ (yX0_standAt.cls ≠ "java/lang/invoke/MethodHandle" ∧ yX0_standAt.cls ≠ "java/lang/invoke/VarHandle") ∧ (parseMethodDescriptor yX0_standAt.desc).map (fun d => d.parameters.length) = some 1 := ⟨(gW_t 287 rfl rfl), (gW_t 3 (by decide +kernel) rfl), ⟨by decide, by decide⟩, by decide +kernel⟩
theorem iX0_standAt : Cond.instanceMethod yX0_standAt ∈ gWS := (gW_t 285 (by decide +kernel) rfl)
theorem vX0_standAt : Cond.selects "RopewayDesk$Cabin" yX0_standAt yX0_standAt ∈ gWS := (gW_t 286 (by decide +kernel) rfl)
set_option maxRecDepth 40000 in
theorem qX0_stopClamping : gcw mX0_stopClamping yX0_stopClamping ∈ gWS ∧ Cond.initialized yX0_stopClamping.cls ∈ gWS ∧ (yX0_stopClamping.cls ≠ "java/lang/invoke/MethodHandle" ∧ yX0_stopClamping.cls ≠ "java/lang/invoke/VarHandle") ∧ (parseMethodDescriptor yX0_stopClamping.desc).map (fun d => d.parameters.length) = some 0 := ⟨(gW_t 358 rfl rfl), (gW_t 3 (by decide +kernel) rfl), ⟨by decide, by decide⟩, by decide +kernel⟩
theorem iX0_stopClamping : Cond.instanceMethod yX0_stopClamping ∈ gWS := (gW_t 356 (by decide +kernel) rfl)
theorem vX0_stopClamping : Cond.selects "RopewayDesk$Cabin" yX0_stopClamping yX0_stopClamping ∈ gWS := (gW_t 357 (by decide +kernel) rfl)
set_option maxRecDepth 40000 in
theorem qX0_isClamping : gcw mX0_isClamping yX0_isClamping ∈ gWS ∧ Cond.initialized yX0_isClamping.cls ∈ gWS ∧ (yX0_isClamping.cls ≠ "java/lang/invoke/MethodHandle" ∧ yX0_isClamping.cls ≠ "java/lang/invoke/VarHandle") ∧ (parseMethodDescriptor yX0_isClamping.desc).map (fun d => d.parameters.length) = some 0 := ⟨(gW_t 334 rfl rfl), (gW_t 3 (by decide +kernel) rfl), ⟨by decide, by decide⟩, by decide +kernel⟩
theorem iX0_isClamping : Cond.instanceMethod yX0_isClamping ∈ gWS := (gW_t 332 (by decide +kernel) rfl)
theorem vX0_isClamping : Cond.selects "RopewayDesk$Cabin" yX0_isClamping yX0_isClamping ∈ gWS := (gW_t 333 (by decide +kernel) rfl)
set_option maxRecDepth 40000 in
theorem qX0_hasReport : gcw mX0_hasReport yX0_hasReport ∈ gWS ∧ Cond.initialized yX0_hasReport.cls ∈ gWS ∧ (yX0_hasReport.cls ≠ "java/lang/invoke/MethodHandle" ∧ yX0_hasReport.cls ≠ "java/lang/invoke/VarHandle") ∧ (parseMethodDescriptor yX0_hasReport.desc).map (fun d => d.parameters.length) = some 0 := ⟨(gW_t 342 rfl rfl), (gW_t 3 (by decide +kernel) rfl), ⟨by decide, by decide⟩, by decide +kernel⟩
theorem iX0_hasReport : Cond.instanceMethod yX0_hasReport ∈ gWS := (gW_t 340 (by decide +kernel) rfl)
theorem vX0_hasReport : Cond.selects "RopewayDesk$Cabin" yX0_hasReport yX0_hasReport ∈ gWS := (gW_t 341 (by decide +kernel) rfl)
set_option maxRecDepth 40000 in
theorem qX0_faultOfReport : gcw mX0_faultOfReport yX0_faultOfReport ∈ gWS ∧ Cond.initialized yX0_faultOfReport.cls ∈ gWS ∧ (yX0_faultOfReport.cls ≠ "java/lang/invoke/MethodHandle" ∧ yX0_faultOfReport.cls ≠ "java/lang/invoke/VarHandle") ∧ (parseMethodDescriptor yX0_faultOfReport.desc).map (fun d => d.parameters.length) = some 0 := ⟨(gW_t 346 rfl rfl), (gW_t 3 (by decide +kernel) rfl), ⟨by decide, by decide⟩, by decide +kernel⟩
theorem iX0_faultOfReport : Cond.instanceMethod yX0_faultOfReport ∈ gWS := (gW_t 344 (by decide +kernel) rfl)
theorem vX0_faultOfReport : Cond.selects "RopewayDesk$Cabin" yX0_faultOfReport yX0_faultOfReport ∈ gWS := (gW_t 345 (by decide +kernel) rfl)
set_option maxRecDepth 40000 in
theorem qX0_hasDoorsOpen : gcw mX0_hasDoorsOpen yX0_hasDoorsOpen ∈ gWS ∧ Cond.initialized yX0_hasDoorsOpen.cls ∈ gWS ∧ (yX0_hasDoorsOpen.cls ≠ "java/lang/invoke/MethodHandle" ∧ yX0_hasDoorsOpen.cls ≠ "java/lang/invoke/VarHandle") ∧ (parseMethodDescriptor yX0_hasDoorsOpen.desc).map (fun d => d.parameters.length) = some 0 := ⟨(gW_t 514 rfl rfl), (gW_t 3 (by decide +kernel) rfl), ⟨by decide, by decide⟩, by decide +kernel⟩
theorem iX0_hasDoorsOpen : Cond.instanceMethod yX0_hasDoorsOpen ∈ gWS := (gW_t 512 (by decide +kernel) rfl)
theorem vX0_hasDoorsOpen : Cond.selects "RopewayDesk$Cabin" yX0_hasDoorsOpen yX0_hasDoorsOpen ∈ gWS := (gW_t 513 (by decide +kernel) rfl)
set_option maxRecDepth 40000 in
theorem qX1_init : gcw mX1_init yX1_init ∈ gWS ∧ Cond.initialized yX1_init.cls ∈ gWS ∧ (yX1_init.cls ≠ "java/lang/invoke/MethodHandle" ∧ yX1_init.cls ≠ "java/lang/invoke/VarHandle") ∧ (parseMethodDescriptor yX1_init.desc).map (fun d => d.parameters.length) = some 0 := ⟨(gW_t 25 rfl rfl), (gW_t 2 (by decide +kernel) rfl), ⟨by decide, by decide⟩, by decide +kernel⟩
theorem iX1_init : Cond.instanceMethod yX1_init ∈ gWS := (gW_t 24 (by decide +kernel) rfl)
set_option maxRecDepth 40000 in
theorem qX1_countAt : gcw mX1_countAt yX1_countAt ∈ gWS ∧ Cond.initialized yX1_countAt.cls ∈ gWS ∧ (yX1_countAt.cls ≠ "java/lang/invoke/MethodHandle" ∧ yX1_countAt.cls ≠ "java/lang/invoke/VarHandle") ∧ (parseMethodDescriptor yX1_countAt.desc).map (fun d => d.parameters.length) = some 1 := ⟨(gW_t 197 rfl rfl), (gW_t 2 (by decide +kernel) rfl), ⟨by decide, by decide⟩, by decide +kernel⟩
theorem iX1_countAt : Cond.instanceMethod yX1_countAt ∈ gWS := (gW_t 195 (by decide +kernel) rfl)
theorem vX1_countAt : Cond.selects "RopewayDesk$Fleet" yX1_countAt yX1_countAt ∈ gWS := (gW_t 196 (by decide +kernel) rfl)
set_option maxRecDepth 40000 in
theorem qX1_tripsOfAll : gcw mX1_tripsOfAll yX1_tripsOfAll ∈ gWS ∧ Cond.initialized yX1_tripsOfAll.cls ∈ gWS ∧ (yX1_tripsOfAll.cls ≠ "java/lang/invoke/MethodHandle" ∧ yX1_tripsOfAll.cls ≠ "java/lang/invoke/VarHandle") ∧ (parseMethodDescriptor yX1_tripsOfAll.desc).map (fun d => d.parameters.length) = some 0 := ⟨(gW_t 201 rfl rfl), (gW_t 2 (by decide +kernel) rfl), ⟨by decide, by decide⟩, by decide +kernel⟩
theorem iX1_tripsOfAll : Cond.instanceMethod yX1_tripsOfAll ∈ gWS := (gW_t 199 (by decide +kernel) rfl)
theorem vX1_tripsOfAll : Cond.selects "RopewayDesk$Fleet" yX1_tripsOfAll yX1_tripsOfAll ∈ gWS := (gW_t 200 (by decide +kernel) rfl)
set_option maxRecDepth 40000 in
theorem qX1_farthest : gcw mX1_farthest yX1_farthest ∈ gWS ∧ Cond.initialized yX1_farthest.cls ∈ gWS ∧ (yX1_farthest.cls ≠ "java/lang/invoke/MethodHandle" ∧ yX1_farthest.cls ≠ "java/lang/invoke/VarHandle") ∧ (parseMethodDescriptor yX1_farthest.desc).map (fun d => d.parameters.length) = some 0 := ⟨(gW_t 295 rfl rfl), (gW_t 2 (by decide +kernel) rfl), ⟨by decide, by decide⟩, by decide +kernel⟩
theorem iX1_farthest : Cond.instanceMethod yX1_farthest ∈ gWS := (gW_t 293 (by decide +kernel) rfl)
theorem vX1_farthest : Cond.selects "RopewayDesk$Fleet" yX1_farthest yX1_farthest ∈ gWS := (gW_t 294 (by decide +kernel) rfl)
set_option maxRecDepth 40000 in
theorem qX1_advance : gcw mX1_advance yX1_advance ∈ gWS ∧ Cond.initialized yX1_advance.cls ∈ gWS ∧ (yX1_advance.cls ≠ "java/lang/invoke/MethodHandle" ∧ yX1_advance.cls ≠ "java/lang/invoke/VarHandle") ∧ (parseMethodDescriptor yX1_advance.desc).map (fun d => d.parameters.length) = some 1 := ⟨(gW_t 309 rfl rfl), (gW_t 2 (by decide +kernel) rfl), ⟨by decide, by decide⟩, by decide +kernel⟩
theorem iX1_advance : Cond.instanceMethod yX1_advance ∈ gWS := (gW_t 307 (by decide +kernel) rfl)
theorem vX1_advance : Cond.selects "RopewayDesk$Fleet" yX1_advance yX1_advance ∈ gWS := (gW_t 308 (by decide +kernel) rfl)
set_option maxRecDepth 40000 in
theorem qX1_isClear : gcw mX1_isClear yX1_isClear ∈ gWS ∧ Cond.initialized yX1_isClear.cls ∈ gWS ∧ (yX1_isClear.cls ≠ "java/lang/invoke/MethodHandle" ∧ yX1_isClear.cls ≠ "java/lang/invoke/VarHandle") ∧ (parseMethodDescriptor yX1_isClear.desc).map (fun d => d.parameters.length) = some 2 := ⟨(gW_t 390 rfl rfl), (gW_t 2 (by decide +kernel) rfl), ⟨by decide, by decide⟩, by decide +kernel⟩
theorem iX1_isClear : Cond.instanceMethod yX1_isClear ∈ gWS := (gW_t 388 (by decide +kernel) rfl)
theorem vX1_isClear : Cond.selects "RopewayDesk$Fleet" yX1_isClear yX1_isClear ∈ gWS := (gW_t 389 (by decide +kernel) rfl)
set_option maxRecDepth 40000 in
theorem qX1_hasNearEnd : gcw mX1_hasNearEnd yX1_hasNearEnd ∈ gWS ∧ Cond.initialized yX1_hasNearEnd.cls ∈ gWS ∧ (yX1_hasNearEnd.cls ≠ "java/lang/invoke/MethodHandle" ∧ yX1_hasNearEnd.cls ≠ "java/lang/invoke/VarHandle") ∧ (parseMethodDescriptor yX1_hasNearEnd.desc).map (fun d => d.parameters.length) = some 1 := ⟨(gW_t 405 rfl rfl), (gW_t 2 (by decide +kernel) rfl), ⟨by decide, by decide⟩, by decide +kernel⟩
theorem iX1_hasNearEnd : Cond.instanceMethod yX1_hasNearEnd ∈ gWS := (gW_t 403 (by decide +kernel) rfl)
theorem vX1_hasNearEnd : Cond.selects "RopewayDesk$Fleet" yX1_hasNearEnd yX1_hasNearEnd ∈ gWS := (gW_t 404 (by decide +kernel) rfl)
set_option maxRecDepth 40000 in
theorem qX1_wayAhead : gcw mX1_wayAhead yX1_wayAhead ∈ gWS ∧ Cond.initialized yX1_wayAhead.cls ∈ gWS ∧ (yX1_wayAhead.cls ≠ "java/lang/invoke/MethodHandle" ∧ yX1_wayAhead.cls ≠ "java/lang/invoke/VarHandle") ∧ (parseMethodDescriptor yX1_wayAhead.desc).map (fun d => d.parameters.length) = some 1 := ⟨(gW_t 525 rfl rfl), (gW_t 2 (by decide +kernel) rfl), ⟨by decide, by decide⟩, by decide +kernel⟩
theorem iX1_wayAhead : Cond.instanceMethod yX1_wayAhead ∈ gWS := (gW_t 523 (by decide +kernel) rfl)
theorem vX1_wayAhead : Cond.selects "RopewayDesk$Fleet" yX1_wayAhead yX1_wayAhead ∈ gWS := (gW_t 524 (by decide +kernel) rfl)
set_option maxRecDepth 40000 in
theorem qX1_hasLeft : gcw mX1_hasLeft yX1_hasLeft ∈ gWS ∧ Cond.initialized yX1_hasLeft.cls ∈ gWS ∧ (yX1_hasLeft.cls ≠ "java/lang/invoke/MethodHandle" ∧ yX1_hasLeft.cls ≠ "java/lang/invoke/VarHandle") ∧ (parseMethodDescriptor yX1_hasLeft.desc).map (fun d => d.parameters.length) = some 2 := ⟨(gW_t 393 rfl rfl), (gW_t 2 (by decide +kernel) rfl), ⟨by decide, by decide⟩, by decide +kernel⟩
theorem tX1_hasLeft : Cond.static yX1_hasLeft ∈ gWS := (gW_t 392 (by decide +kernel) rfl)
set_option maxRecDepth 40000 in
theorem qX1_spot : gcw mX1_spot yX1_spot ∈ gWS ∧ Cond.initialized yX1_spot.cls ∈ gWS ∧ (yX1_spot.cls ≠ "java/lang/invoke/MethodHandle" ∧ yX1_spot.cls ≠ "java/lang/invoke/VarHandle") ∧ (parseMethodDescriptor yX1_spot.desc).map (fun d => d.parameters.length) = some 1 := ⟨(gW_t 528 rfl rfl), (gW_t 2 (by decide +kernel) rfl), ⟨by decide, by decide⟩, by decide +kernel⟩
theorem tX1_spot : Cond.static yX1_spot ∈ gWS := (gW_t 527 (by decide +kernel) rfl)
set_option maxRecDepth 40000 in
theorem qX2_init : gcw mX2_init yX2_init ∈ gWS ∧ Cond.initialized yX2_init.cls ∈ gWS ∧ (yX2_init.cls ≠ "java/lang/invoke/MethodHandle" ∧ yX2_init.cls ≠ "java/lang/invoke/VarHandle") ∧ (parseMethodDescriptor yX2_init.desc).map (fun d => d.parameters.length) = some 0 := ⟨(gW_t 97 rfl rfl), (gW_t 4 (by decide +kernel) rfl), ⟨by decide, by decide⟩, by decide +kernel⟩
theorem iX2_init : Cond.instanceMethod yX2_init ∈ gWS := (gW_t 96 (by decide +kernel) rfl)
set_option maxRecDepth 40000 in
theorem qX2_hasRoom : gcw mX2_hasRoom yX2_hasRoom ∈ gWS ∧ Cond.initialized yX2_hasRoom.cls ∈ gWS ∧ (yX2_hasRoom.cls ≠ "java/lang/invoke/MethodHandle" ∧ yX2_hasRoom.cls ≠ "java/lang/invoke/VarHandle") ∧ (parseMethodDescriptor yX2_hasRoom.desc).map (fun d => d.parameters.length) = some 0 := ⟨(gW_t 367 rfl rfl), (gW_t 4 (by decide +kernel) rfl), ⟨by decide, by decide⟩, by decide +kernel⟩
theorem iX2_hasRoom : Cond.instanceMethod yX2_hasRoom ∈ gWS := (gW_t 365 (by decide +kernel) rfl)
theorem vX2_hasRoom : Cond.selects "RopewayDesk$Siding" yX2_hasRoom yX2_hasRoom ∈ gWS := (gW_t 366 (by decide +kernel) rfl)
set_option maxRecDepth 40000 in
theorem qX2_cabinAt : gcw mX2_cabinAt yX2_cabinAt ∈ gWS ∧ Cond.initialized yX2_cabinAt.cls ∈ gWS ∧ (yX2_cabinAt.cls ≠ "java/lang/invoke/MethodHandle" ∧ yX2_cabinAt.cls ≠ "java/lang/invoke/VarHandle") ∧ (parseMethodDescriptor yX2_cabinAt.desc).map (fun d => d.parameters.length) = some 1 := ⟨(gW_t 189 rfl rfl), (gW_t 4 (by decide +kernel) rfl), ⟨by decide, by decide⟩, by decide +kernel⟩
theorem iX2_cabinAt : Cond.instanceMethod yX2_cabinAt ∈ gWS := (gW_t 187 (by decide +kernel) rfl)
theorem vX2_cabinAt : Cond.selects "RopewayDesk$Siding" yX2_cabinAt yX2_cabinAt ∈ gWS := (gW_t 188 (by decide +kernel) rfl)
set_option maxRecDepth 40000 in
theorem qX2_append : gcw mX2_append yX2_append ∈ gWS ∧ Cond.initialized yX2_append.cls ∈ gWS ∧ (yX2_append.cls ≠ "java/lang/invoke/MethodHandle" ∧ yX2_append.cls ≠ "java/lang/invoke/VarHandle") ∧ (parseMethodDescriptor yX2_append.desc).map (fun d => d.parameters.length) = some 1 := ⟨(gW_t 371 rfl rfl), (gW_t 4 (by decide +kernel) rfl), ⟨by decide, by decide⟩, by decide +kernel⟩
theorem iX2_append : Cond.instanceMethod yX2_append ∈ gWS := (gW_t 369 (by decide +kernel) rfl)
theorem vX2_append : Cond.selects "RopewayDesk$Siding" yX2_append yX2_append ∈ gWS := (gW_t 370 (by decide +kernel) rfl)
set_option maxRecDepth 40000 in
theorem qX2_remove : gcw mX2_remove yX2_remove ∈ gWS ∧ Cond.initialized yX2_remove.cls ∈ gWS ∧ (yX2_remove.cls ≠ "java/lang/invoke/MethodHandle" ∧ yX2_remove.cls ≠ "java/lang/invoke/VarHandle") ∧ (parseMethodDescriptor yX2_remove.desc).map (fun d => d.parameters.length) = some 1 := ⟨(gW_t 467 rfl rfl), (gW_t 4 (by decide +kernel) rfl), ⟨by decide, by decide⟩, by decide +kernel⟩
theorem iX2_remove : Cond.instanceMethod yX2_remove ∈ gWS := (gW_t 465 (by decide +kernel) rfl)
theorem vX2_remove : Cond.selects "RopewayDesk$Siding" yX2_remove yX2_remove ∈ gWS := (gW_t 466 (by decide +kernel) rfl)
set_option maxRecDepth 40000 in
theorem qX2_placeOf : gcw mX2_placeOf yX2_placeOf ∈ gWS ∧ Cond.initialized yX2_placeOf.cls ∈ gWS ∧ (yX2_placeOf.cls ≠ "java/lang/invoke/MethodHandle" ∧ yX2_placeOf.cls ≠ "java/lang/invoke/VarHandle") ∧ (parseMethodDescriptor yX2_placeOf.desc).map (fun d => d.parameters.length) = some 1 := ⟨(gW_t 471 rfl rfl), (gW_t 4 (by decide +kernel) rfl), ⟨by decide, by decide⟩, by decide +kernel⟩
theorem iX2_placeOf : Cond.instanceMethod yX2_placeOf ∈ gWS := (gW_t 469 (by decide +kernel) rfl)
theorem vX2_placeOf : Cond.selects "RopewayDesk$Siding" yX2_placeOf yX2_placeOf ∈ gWS := (gW_t 470 (by decide +kernel) rfl)
set_option maxRecDepth 40000 in
theorem qX3_init : gcw mX3_init yX3_init ∈ gWS ∧ Cond.initialized yX3_init.cls ∈ gWS ∧ (yX3_init.cls ≠ "java/lang/invoke/MethodHandle" ∧ yX3_init.cls ≠ "java/lang/invoke/VarHandle") ∧ (parseMethodDescriptor yX3_init.desc).map (fun d => d.parameters.length) = some 1 := ⟨(gW_t 135 rfl rfl), (gW_t 6 (by decide +kernel) rfl), ⟨by decide, by decide⟩, by decide +kernel⟩
theorem iX3_init : Cond.instanceMethod yX3_init ∈ gWS := (gW_t 134 (by decide +kernel) rfl)
set_option maxRecDepth 40000 in
theorem qX3_admit : gcw mX3_admit yX3_admit ∈ gWS ∧ Cond.initialized yX3_admit.cls ∈ gWS ∧ (yX3_admit.cls ≠ "java/lang/invoke/MethodHandle" ∧ yX3_admit.cls ≠ "java/lang/invoke/VarHandle") ∧ (parseMethodDescriptor yX3_admit.desc).map (fun d => d.parameters.length) = some 2 := ⟨(gW_t 283 rfl rfl), (gW_t 6 (by decide +kernel) rfl), ⟨by decide, by decide⟩, by decide +kernel⟩
theorem iX3_admit : Cond.instanceMethod yX3_admit ∈ gWS := (gW_t 281 (by decide +kernel) rfl)
theorem vX3_admit : Cond.selects "RopewayDesk$Station" yX3_admit yX3_admit ∈ gWS := (gW_t 282 (by decide +kernel) rfl)
set_option maxRecDepth 40000 in
theorem qX3_goOn : gcw mX3_goOn yX3_goOn ∈ gWS ∧ Cond.initialized yX3_goOn.cls ∈ gWS ∧ (yX3_goOn.cls ≠ "java/lang/invoke/MethodHandle" ∧ yX3_goOn.cls ≠ "java/lang/invoke/VarHandle") ∧ (parseMethodDescriptor yX3_goOn.desc).map (fun d => d.parameters.length) = some 1 := ⟨(gW_t 329 rfl rfl), (gW_t 6 (by decide +kernel) rfl), ⟨by decide, by decide⟩, by decide +kernel⟩
theorem iX3_goOn : Cond.instanceMethod yX3_goOn ∈ gWS := (gW_t 327 (by decide +kernel) rfl)
theorem vX3_goOn : Cond.selects "RopewayDesk$Station" yX3_goOn yX3_goOn ∈ gWS := (gW_t 328 (by decide +kernel) rfl)
set_option maxRecDepth 40000 in
theorem qX3_isEmptyUpTo : gcw mX3_isEmptyUpTo yX3_isEmptyUpTo ∈ gWS ∧ Cond.initialized yX3_isEmptyUpTo.cls ∈ gWS ∧ (yX3_isEmptyUpTo.cls ≠ "java/lang/invoke/MethodHandle" ∧ yX3_isEmptyUpTo.cls ≠ "java/lang/invoke/VarHandle") ∧ (parseMethodDescriptor yX3_isEmptyUpTo.desc).map (fun d => d.parameters.length) = some 1 := ⟨(gW_t 463 rfl rfl), (gW_t 6 (by decide +kernel) rfl), ⟨by decide, by decide⟩, by decide +kernel⟩
theorem iX3_isEmptyUpTo : Cond.instanceMethod yX3_isEmptyUpTo ∈ gWS := (gW_t 461 (by decide +kernel) rfl)
theorem vX3_isEmptyUpTo : Cond.selects "RopewayDesk$Station" yX3_isEmptyUpTo yX3_isEmptyUpTo ∈ gWS := (gW_t 462 (by decide +kernel) rfl)
set_option maxRecDepth 40000 in
theorem qX3_count : gcw mX3_count yX3_count ∈ gWS ∧ Cond.initialized yX3_count.cls ∈ gWS ∧ (yX3_count.cls ≠ "java/lang/invoke/MethodHandle" ∧ yX3_count.cls ≠ "java/lang/invoke/VarHandle") ∧ (parseMethodDescriptor yX3_count.desc).map (fun d => d.parameters.length) = some 0 := ⟨(gW_t 385 rfl rfl), (gW_t 6 (by decide +kernel) rfl), ⟨by decide, by decide⟩, by decide +kernel⟩
theorem iX3_count : Cond.instanceMethod yX3_count ∈ gWS := (gW_t 383 (by decide +kernel) rfl)
theorem vX3_count : Cond.selects "RopewayDesk$Station" yX3_count yX3_count ∈ gWS := (gW_t 384 (by decide +kernel) rfl)
set_option maxRecDepth 40000 in
theorem qX4_init : gcw mX4_init yX4_init ∈ gWS ∧ Cond.initialized yX4_init.cls ∈ gWS ∧ (yX4_init.cls ≠ "java/lang/invoke/MethodHandle" ∧ yX4_init.cls ≠ "java/lang/invoke/VarHandle") ∧ (parseMethodDescriptor yX4_init.desc).map (fun d => d.parameters.length) = some 0 := ⟨(gW_t 112 rfl rfl), (gW_t 5 (by decide +kernel) rfl), ⟨by decide, by decide⟩, by decide +kernel⟩
theorem iX4_init : Cond.instanceMethod yX4_init ∈ gWS := (gW_t 111 (by decide +kernel) rfl)
set_option maxRecDepth 40000 in
theorem qX4_report : gcw mX4_report yX4_report ∈ gWS ∧ Cond.initialized yX4_report.cls ∈ gWS ∧ (yX4_report.cls ≠ "java/lang/invoke/MethodHandle" ∧ yX4_report.cls ≠ "java/lang/invoke/VarHandle") ∧ (parseMethodDescriptor yX4_report.desc).map (fun d => d.parameters.length) = some 1 := ⟨(gW_t 429 rfl rfl), (gW_t 5 (by decide +kernel) rfl), ⟨by decide, by decide⟩, by decide +kernel⟩
theorem iX4_report : Cond.instanceMethod yX4_report ∈ gWS := (gW_t 427 (by decide +kernel) rfl)
theorem vX4_report : Cond.selects "RopewayDesk$WindBook" yX4_report yX4_report ∈ gWS := (gW_t 428 (by decide +kernel) rfl)
set_option maxRecDepth 40000 in
theorem qX4_sortIn : gcw mX4_sortIn yX4_sortIn ∈ gWS ∧ Cond.initialized yX4_sortIn.cls ∈ gWS ∧ (yX4_sortIn.cls ≠ "java/lang/invoke/MethodHandle" ∧ yX4_sortIn.cls ≠ "java/lang/invoke/VarHandle") ∧ (parseMethodDescriptor yX4_sortIn.desc).map (fun d => d.parameters.length) = some 2 := ⟨(gW_t 433 rfl rfl), (gW_t 5 (by decide +kernel) rfl), ⟨by decide, by decide⟩, by decide +kernel⟩
theorem iX4_sortIn : Cond.instanceMethod yX4_sortIn ∈ gWS := (gW_t 432 (by decide +kernel) rfl)
theorem vX4_sortIn : Cond.selects "RopewayDesk$WindBook" yX4_sortIn yX4_sortIn ∈ gWS := (gW_p 13 (by decide +kernel) rfl)
set_option maxRecDepth 40000 in
theorem qX5_init : gcw mX5_init yX5_init ∈ gWS ∧ Cond.initialized yX5_init.cls ∈ gWS ∧ (yX5_init.cls ≠ "java/lang/invoke/MethodHandle" ∧ yX5_init.cls ≠ "java/lang/invoke/VarHandle") ∧ (parseMethodDescriptor yX5_init.desc).map (fun d => d.parameters.length) = some 0 := ⟨(gW_t 17 rfl rfl), (gW_t 1 (by decide +kernel) rfl), ⟨by decide, by decide⟩, by decide +kernel⟩
theorem iX5_init : Cond.instanceMethod yX5_init ∈ gWS := (gW_t 16 (by decide +kernel) rfl)
set_option maxRecDepth 40000 in
theorem qX5_pulse : gcw mX5_pulse yX5_pulse ∈ gWS ∧ Cond.initialized yX5_pulse.cls ∈ gWS ∧ (yX5_pulse.cls ≠ "java/lang/invoke/MethodHandle" ∧ yX5_pulse.cls ≠ "java/lang/invoke/VarHandle") ∧ (parseMethodDescriptor yX5_pulse.desc).map (fun d => d.parameters.length) = some 1 := ⟨(gW_t 209 rfl rfl), (gW_t 1 (by decide +kernel) rfl), ⟨by decide, by decide⟩, by decide +kernel⟩
theorem iX5_pulse : Cond.instanceMethod yX5_pulse ∈ gWS := (gW_t 207 (by decide +kernel) rfl)
theorem vX5_pulse : Cond.selects "RopewayDesk" yX5_pulse yX5_pulse ∈ gWS := (gW_t 208 (by decide +kernel) rfl)
set_option maxRecDepth 40000 in
theorem qX5_tick : gcw mX5_tick yX5_tick ∈ gWS ∧ Cond.initialized yX5_tick.cls ∈ gWS ∧ (yX5_tick.cls ≠ "java/lang/invoke/MethodHandle" ∧ yX5_tick.cls ≠ "java/lang/invoke/VarHandle") ∧ (parseMethodDescriptor yX5_tick.desc).map (fun d => d.parameters.length) = some 1 := ⟨(gW_t 316 rfl rfl), (gW_t 1 (by decide +kernel) rfl), ⟨by decide, by decide⟩, by decide +kernel⟩
theorem iX5_tick : Cond.instanceMethod yX5_tick ∈ gWS := (gW_t 314 (by decide +kernel) rfl)
theorem vX5_tick : Cond.selects "RopewayDesk" yX5_tick yX5_tick ∈ gWS := (gW_t 315 (by decide +kernel) rfl)
set_option maxRecDepth 40000 in
theorem qX5_gauge : gcw mX5_gauge yX5_gauge ∈ gWS ∧ Cond.initialized yX5_gauge.cls ∈ gWS ∧ (yX5_gauge.cls ≠ "java/lang/invoke/MethodHandle" ∧ yX5_gauge.cls ≠ "java/lang/invoke/VarHandle") ∧ (parseMethodDescriptor yX5_gauge.desc).map (fun d => d.parameters.length) = some 3 := ⟨(gW_t 412 rfl rfl), (gW_t 1 (by decide +kernel) rfl), ⟨by decide, by decide⟩, by decide +kernel⟩
theorem iX5_gauge : Cond.instanceMethod yX5_gauge ∈ gWS := (gW_t 410 (by decide +kernel) rfl)
theorem vX5_gauge : Cond.selects "RopewayDesk" yX5_gauge yX5_gauge ∈ gWS := (gW_t 411 (by decide +kernel) rfl)
set_option maxRecDepth 40000 in
theorem qX5_wind : gcw mX5_wind yX5_wind ∈ gWS ∧ Cond.initialized yX5_wind.cls ∈ gWS ∧ (yX5_wind.cls ≠ "java/lang/invoke/MethodHandle" ∧ yX5_wind.cls ≠ "java/lang/invoke/VarHandle") ∧ (parseMethodDescriptor yX5_wind.desc).map (fun d => d.parameters.length) = some 1 := ⟨(gW_t 424 rfl rfl), (gW_t 1 (by decide +kernel) rfl), ⟨by decide, by decide⟩, by decide +kernel⟩
theorem iX5_wind : Cond.instanceMethod yX5_wind ∈ gWS := (gW_t 422 (by decide +kernel) rfl)
theorem vX5_wind : Cond.selects "RopewayDesk" yX5_wind yX5_wind ∈ gWS := (gW_t 423 (by decide +kernel) rfl)
set_option maxRecDepth 40000 in
theorem qX5_drive : gcw mX5_drive yX5_drive ∈ gWS ∧ Cond.initialized yX5_drive.cls ∈ gWS ∧ (yX5_drive.cls ≠ "java/lang/invoke/MethodHandle" ∧ yX5_drive.cls ≠ "java/lang/invoke/VarHandle") ∧ (parseMethodDescriptor yX5_drive.desc).map (fun d => d.parameters.length) = some 1 := ⟨(gW_t 440 rfl rfl), (gW_t 1 (by decide +kernel) rfl), ⟨by decide, by decide⟩, by decide +kernel⟩
theorem iX5_drive : Cond.instanceMethod yX5_drive ∈ gWS := (gW_t 438 (by decide +kernel) rfl)
theorem vX5_drive : Cond.selects "RopewayDesk" yX5_drive yX5_drive ∈ gWS := (gW_t 439 (by decide +kernel) rfl)
set_option maxRecDepth 40000 in
theorem qX5_bring : gcw mX5_bring yX5_bring ∈ gWS ∧ Cond.initialized yX5_bring.cls ∈ gWS ∧ (yX5_bring.cls ≠ "java/lang/invoke/MethodHandle" ∧ yX5_bring.cls ≠ "java/lang/invoke/VarHandle") ∧ (parseMethodDescriptor yX5_bring.desc).map (fun d => d.parameters.length) = some 1 := ⟨(gW_t 448 rfl rfl), (gW_t 1 (by decide +kernel) rfl), ⟨by decide, by decide⟩, by decide +kernel⟩
theorem iX5_bring : Cond.instanceMethod yX5_bring ∈ gWS := (gW_t 446 (by decide +kernel) rfl)
theorem vX5_bring : Cond.selects "RopewayDesk" yX5_bring yX5_bring ∈ gWS := (gW_t 447 (by decide +kernel) rfl)
set_option maxRecDepth 40000 in
theorem qX5_putOn : gcw mX5_putOn yX5_putOn ∈ gWS ∧ Cond.initialized yX5_putOn.cls ∈ gWS ∧ (yX5_putOn.cls ≠ "java/lang/invoke/MethodHandle" ∧ yX5_putOn.cls ≠ "java/lang/invoke/VarHandle") ∧ (parseMethodDescriptor yX5_putOn.desc).map (fun d => d.parameters.length) = some 2 := ⟨(gW_t 459 rfl rfl), (gW_t 1 (by decide +kernel) rfl), ⟨by decide, by decide⟩, by decide +kernel⟩
theorem iX5_putOn : Cond.instanceMethod yX5_putOn ∈ gWS := (gW_t 457 (by decide +kernel) rfl)
theorem vX5_putOn : Cond.selects "RopewayDesk" yX5_putOn yX5_putOn ∈ gWS := (gW_t 458 (by decide +kernel) rfl)
set_option maxRecDepth 40000 in
theorem qX5_takeOff : gcw mX5_takeOff yX5_takeOff ∈ gWS ∧ Cond.initialized yX5_takeOff.cls ∈ gWS ∧ (yX5_takeOff.cls ≠ "java/lang/invoke/MethodHandle" ∧ yX5_takeOff.cls ≠ "java/lang/invoke/VarHandle") ∧ (parseMethodDescriptor yX5_takeOff.desc).map (fun d => d.parameters.length) = some 2 := ⟨(gW_t 478 rfl rfl), (gW_t 1 (by decide +kernel) rfl), ⟨by decide, by decide⟩, by decide +kernel⟩
theorem iX5_takeOff : Cond.instanceMethod yX5_takeOff ∈ gWS := (gW_t 476 (by decide +kernel) rfl)
theorem vX5_takeOff : Cond.selects "RopewayDesk" yX5_takeOff yX5_takeOff ∈ gWS := (gW_t 477 (by decide +kernel) rfl)
set_option maxRecDepth 40000 in
theorem qX5_plan : gcw mX5_plan yX5_plan ∈ gWS ∧ Cond.initialized yX5_plan.cls ∈ gWS ∧ (yX5_plan.cls ≠ "java/lang/invoke/MethodHandle" ∧ yX5_plan.cls ≠ "java/lang/invoke/VarHandle") ∧ (parseMethodDescriptor yX5_plan.desc).map (fun d => d.parameters.length) = some 1 := ⟨(gW_t 485 rfl rfl), (gW_t 1 (by decide +kernel) rfl), ⟨by decide, by decide⟩, by decide +kernel⟩
theorem iX5_plan : Cond.instanceMethod yX5_plan ∈ gWS := (gW_t 483 (by decide +kernel) rfl)
theorem vX5_plan : Cond.selects "RopewayDesk" yX5_plan yX5_plan ∈ gWS := (gW_t 484 (by decide +kernel) rfl)
set_option maxRecDepth 40000 in
theorem qX5_release : gcw mX5_release yX5_release ∈ gWS ∧ Cond.initialized yX5_release.cls ∈ gWS ∧ (yX5_release.cls ≠ "java/lang/invoke/MethodHandle" ∧ yX5_release.cls ≠ "java/lang/invoke/VarHandle") ∧ (parseMethodDescriptor yX5_release.desc).map (fun d => d.parameters.length) = some 1 := ⟨(gW_t 493 rfl rfl), (gW_t 1 (by decide +kernel) rfl), ⟨by decide, by decide⟩, by decide +kernel⟩
theorem iX5_release : Cond.instanceMethod yX5_release ∈ gWS := (gW_t 491 (by decide +kernel) rfl)
theorem vX5_release : Cond.selects "RopewayDesk" yX5_release yX5_release ∈ gWS := (gW_t 492 (by decide +kernel) rfl)
set_option maxRecDepth 40000 in
theorem qX5_locks : gcw mX5_locks yX5_locks ∈ gWS ∧ Cond.initialized yX5_locks.cls ∈ gWS ∧ (yX5_locks.cls ≠ "java/lang/invoke/MethodHandle" ∧ yX5_locks.cls ≠ "java/lang/invoke/VarHandle") ∧ (parseMethodDescriptor yX5_locks.desc).map (fun d => d.parameters.length) = some 0 := ⟨(gW_t 181 rfl rfl), (gW_t 1 (by decide +kernel) rfl), ⟨by decide, by decide⟩, by decide +kernel⟩
theorem iX5_locks : Cond.instanceMethod yX5_locks ∈ gWS := (gW_t 179 (by decide +kernel) rfl)
theorem vX5_locks : Cond.selects "RopewayDesk" yX5_locks yX5_locks ∈ gWS := (gW_t 180 (by decide +kernel) rfl)
set_option maxRecDepth 40000 in
theorem qX5_where : gcw mX5_where yX5_where ∈ gWS ∧ Cond.initialized yX5_where.cls ∈ gWS ∧ (yX5_where.cls ≠ "java/lang/invoke/MethodHandle" ∧ yX5_where.cls ≠ "java/lang/invoke/VarHandle") ∧ (parseMethodDescriptor yX5_where.desc).map (fun d => d.parameters.length) = some 2 := ⟨(gW_t 505 rfl rfl), (gW_t 1 (by decide +kernel) rfl), ⟨by decide, by decide⟩, by decide +kernel⟩
theorem iX5_where : Cond.instanceMethod yX5_where ∈ gWS := (gW_t 503 (by decide +kernel) rfl)
theorem vX5_where : Cond.selects "RopewayDesk" yX5_where yX5_where ∈ gWS := (gW_t 504 (by decide +kernel) rfl)
set_option maxRecDepth 40000 in
theorem qX5_gap : gcw mX5_gap yX5_gap ∈ gWS ∧ Cond.initialized yX5_gap.cls ∈ gWS ∧ (yX5_gap.cls ≠ "java/lang/invoke/MethodHandle" ∧ yX5_gap.cls ≠ "java/lang/invoke/VarHandle") ∧ (parseMethodDescriptor yX5_gap.desc).map (fun d => d.parameters.length) = some 1 := ⟨(gW_t 521 rfl rfl), (gW_t 1 (by decide +kernel) rfl), ⟨by decide, by decide⟩, by decide +kernel⟩
theorem iX5_gap : Cond.instanceMethod yX5_gap ∈ gWS := (gW_t 519 (by decide +kernel) rfl)
theorem vX5_gap : Cond.selects "RopewayDesk" yX5_gap yX5_gap ∈ gWS := (gW_t 520 (by decide +kernel) rfl)
set_option maxRecDepth 40000 in
theorem qX5_sided : gcw mX5_sided yX5_sided ∈ gWS ∧ Cond.initialized yX5_sided.cls ∈ gWS ∧ (yX5_sided.cls ≠ "java/lang/invoke/MethodHandle" ∧ yX5_sided.cls ≠ "java/lang/invoke/VarHandle") ∧ (parseMethodDescriptor yX5_sided.desc).map (fun d => d.parameters.length) = some 1 := ⟨(gW_t 185 rfl rfl), (gW_t 1 (by decide +kernel) rfl), ⟨by decide, by decide⟩, by decide +kernel⟩
theorem iX5_sided : Cond.instanceMethod yX5_sided ∈ gWS := (gW_t 183 (by decide +kernel) rfl)
theorem vX5_sided : Cond.selects "RopewayDesk" yX5_sided yX5_sided ∈ gWS := (gW_t 184 (by decide +kernel) rfl)
set_option maxRecDepth 40000 in
theorem qX5_state : gcw mX5_state yX5_state ∈ gWS ∧ Cond.initialized yX5_state.cls ∈ gWS ∧ (yX5_state.cls ≠ "java/lang/invoke/MethodHandle" ∧ yX5_state.cls ≠ "java/lang/invoke/VarHandle") ∧ (parseMethodDescriptor yX5_state.desc).map (fun d => d.parameters.length) = some 1 := ⟨(gW_t 193 rfl rfl), (gW_t 1 (by decide +kernel) rfl), ⟨by decide, by decide⟩, by decide +kernel⟩
theorem iX5_state : Cond.instanceMethod yX5_state ∈ gWS := (gW_t 191 (by decide +kernel) rfl)
theorem vX5_state : Cond.selects "RopewayDesk" yX5_state yX5_state ∈ gWS := (gW_t 192 (by decide +kernel) rfl)
set_option maxRecDepth 40000 in
theorem qX5_checkStation : gcw mX5_checkStation yX5_checkStation ∈ gWS ∧ Cond.initialized yX5_checkStation.cls ∈ gWS ∧ (yX5_checkStation.cls ≠ "java/lang/invoke/MethodHandle" ∧ yX5_checkStation.cls ≠ "java/lang/invoke/VarHandle") ∧ (parseMethodDescriptor yX5_checkStation.desc).map (fun d => d.parameters.length) = some 1 := ⟨(gW_t 415 rfl rfl), (gW_t 1 (by decide +kernel) rfl), ⟨by decide, by decide⟩, by decide +kernel⟩
theorem tX5_checkStation : Cond.static yX5_checkStation ∈ gWS := (gW_t 414 (by decide +kernel) rfl)
set_option maxRecDepth 40000 in
theorem qX5_checkCabin : gcw mX5_checkCabin yX5_checkCabin ∈ gWS ∧ Cond.initialized yX5_checkCabin.cls ∈ gWS ∧ (yX5_checkCabin.cls ≠ "java/lang/invoke/MethodHandle" ∧ yX5_checkCabin.cls ≠ "java/lang/invoke/VarHandle") ∧ (parseMethodDescriptor yX5_checkCabin.desc).map (fun d => d.parameters.length) = some 1 := ⟨(gW_t 451 rfl rfl), (gW_t 1 (by decide +kernel) rfl), ⟨by decide, by decide⟩, by decide +kernel⟩
theorem tX5_checkCabin : Cond.static yX5_checkCabin ∈ gWS := (gW_t 450 (by decide +kernel) rfl)
set_option maxRecDepth 40000 in
theorem qX5_lock : gcw mX5_lock yX5_lock ∈ gWS ∧ Cond.initialized yX5_lock.cls ∈ gWS ∧ (yX5_lock.cls ≠ "java/lang/invoke/MethodHandle" ∧ yX5_lock.cls ≠ "java/lang/invoke/VarHandle") ∧ (parseMethodDescriptor yX5_lock.desc).map (fun d => d.parameters.length) = some 1 := ⟨(gW_t 302 rfl rfl), (gW_t 1 (by decide +kernel) rfl), ⟨by decide, by decide⟩, by decide +kernel⟩
theorem iX5_lock : Cond.instanceMethod yX5_lock ∈ gWS := (gW_t 301 (by decide +kernel) rfl)
theorem vX5_lock : Cond.selects "RopewayDesk" yX5_lock yX5_lock ∈ gWS := (gW_p 3 (by decide +kernel) rfl)
set_option maxRecDepth 40000 in
theorem qX5_hasCauseStill : gcw mX5_hasCauseStill yX5_hasCauseStill ∈ gWS ∧ Cond.initialized yX5_hasCauseStill.cls ∈ gWS ∧ (yX5_hasCauseStill.cls ≠ "java/lang/invoke/MethodHandle" ∧ yX5_hasCauseStill.cls ≠ "java/lang/invoke/VarHandle") ∧ (parseMethodDescriptor yX5_hasCauseStill.desc).map (fun d => d.parameters.length) = some 1 := ⟨(gW_t 498 rfl rfl), (gW_t 1 (by decide +kernel) rfl), ⟨by decide, by decide⟩, by decide +kernel⟩
theorem iX5_hasCauseStill : Cond.instanceMethod yX5_hasCauseStill ∈ gWS := (gW_t 497 (by decide +kernel) rfl)
theorem vX5_hasCauseStill : Cond.selects "RopewayDesk" yX5_hasCauseStill yX5_hasCauseStill ∈ gWS := (gW_p 14 (by decide +kernel) rfl)
set_option maxRecDepth 40000 in
theorem qX5_spotOf : gcw mX5_spotOf yX5_spotOf ∈ gWS ∧ Cond.initialized yX5_spotOf.cls ∈ gWS ∧ (yX5_spotOf.cls ≠ "java/lang/invoke/MethodHandle" ∧ yX5_spotOf.cls ≠ "java/lang/invoke/VarHandle") ∧ (parseMethodDescriptor yX5_spotOf.desc).map (fun d => d.parameters.length) = some 1 := ⟨(gW_t 509 rfl rfl), (gW_t 1 (by decide +kernel) rfl), ⟨by decide, by decide⟩, by decide +kernel⟩
theorem iX5_spotOf : Cond.instanceMethod yX5_spotOf ∈ gWS := (gW_t 508 (by decide +kernel) rfl)
theorem vX5_spotOf : Cond.selects "RopewayDesk" yX5_spotOf yX5_spotOf ∈ gWS := (gW_p 15 (by decide +kernel) rfl)
set_option maxRecDepth 40000 in
theorem qX5_letGo : gcw mX5_letGo yX5_letGo ∈ gWS ∧ Cond.initialized yX5_letGo.cls ∈ gWS ∧ (yX5_letGo.cls ≠ "java/lang/invoke/MethodHandle" ∧ yX5_letGo.cls ≠ "java/lang/invoke/VarHandle") ∧ (parseMethodDescriptor yX5_letGo.desc).map (fun d => d.parameters.length) = some 0 := ⟨(gW_t 279 rfl rfl), (gW_t 1 (by decide +kernel) rfl), ⟨by decide, by decide⟩, by decide +kernel⟩
theorem iX5_letGo : Cond.instanceMethod yX5_letGo ∈ gWS := (gW_t 278 (by decide +kernel) rfl)
theorem vX5_letGo : Cond.selects "RopewayDesk" yX5_letGo yX5_letGo ∈ gWS := (gW_p 1 (by decide +kernel) rfl)
set_option maxRecDepth 40000 in
theorem qX5_moveRope : gcw mX5_moveRope yX5_moveRope ∈ gWS ∧ Cond.initialized yX5_moveRope.cls ∈ gWS ∧ (yX5_moveRope.cls ≠ "java/lang/invoke/MethodHandle" ∧ yX5_moveRope.cls ≠ "java/lang/invoke/VarHandle") ∧ (parseMethodDescriptor yX5_moveRope.desc).map (fun d => d.parameters.length) = some 1 := ⟨(gW_t 291 rfl rfl), (gW_t 1 (by decide +kernel) rfl), ⟨by decide, by decide⟩, by decide +kernel⟩
theorem iX5_moveRope : Cond.instanceMethod yX5_moveRope ∈ gWS := (gW_t 290 (by decide +kernel) rfl)
theorem vX5_moveRope : Cond.selects "RopewayDesk" yX5_moveRope yX5_moveRope ∈ gWS := (gW_p 2 (by decide +kernel) rfl)
set_option maxRecDepth 40000 in
theorem qX5_passOneTick : gcw mX5_passOneTick yX5_passOneTick ∈ gWS ∧ Cond.initialized yX5_passOneTick.cls ∈ gWS ∧ (yX5_passOneTick.cls ≠ "java/lang/invoke/MethodHandle" ∧ yX5_passOneTick.cls ≠ "java/lang/invoke/VarHandle") ∧ (parseMethodDescriptor yX5_passOneTick.desc).map (fun d => d.parameters.length) = some 0 := ⟨(gW_t 321 rfl rfl), (gW_t 1 (by decide +kernel) rfl), ⟨by decide, by decide⟩, by decide +kernel⟩
theorem iX5_passOneTick : Cond.instanceMethod yX5_passOneTick ∈ gWS := (gW_t 320 (by decide +kernel) rfl)
theorem vX5_passOneTick : Cond.selects "RopewayDesk" yX5_passOneTick yX5_passOneTick ∈ gWS := (gW_p 4 (by decide +kernel) rfl)
set_option maxRecDepth 40000 in
theorem qX5_workZones : gcw mX5_workZones yX5_workZones ∈ gWS ∧ Cond.initialized yX5_workZones.cls ∈ gWS ∧ (yX5_workZones.cls ≠ "java/lang/invoke/MethodHandle" ∧ yX5_workZones.cls ≠ "java/lang/invoke/VarHandle") ∧ (parseMethodDescriptor yX5_workZones.desc).map (fun d => d.parameters.length) = some 1 := ⟨(gW_t 325 rfl rfl), (gW_t 1 (by decide +kernel) rfl), ⟨by decide, by decide⟩, by decide +kernel⟩
theorem iX5_workZones : Cond.instanceMethod yX5_workZones ∈ gWS := (gW_t 324 (by decide +kernel) rfl)
theorem vX5_workZones : Cond.selects "RopewayDesk" yX5_workZones yX5_workZones ∈ gWS := (gW_p 5 (by decide +kernel) rfl)
set_option maxRecDepth 40000 in
theorem qX5_mayClamp : gcw mX5_mayClamp yX5_mayClamp ∈ gWS ∧ Cond.initialized yX5_mayClamp.cls ∈ gWS ∧ (yX5_mayClamp.cls ≠ "java/lang/invoke/MethodHandle" ∧ yX5_mayClamp.cls ≠ "java/lang/invoke/VarHandle") ∧ (parseMethodDescriptor yX5_mayClamp.desc).map (fun d => d.parameters.length) = some 2 := ⟨(gW_t 377 rfl rfl), (gW_t 1 (by decide +kernel) rfl), ⟨by decide, by decide⟩, by decide +kernel⟩
theorem iX5_mayClamp : Cond.instanceMethod yX5_mayClamp ∈ gWS := (gW_t 376 (by decide +kernel) rfl)
theorem vX5_mayClamp : Cond.selects "RopewayDesk" yX5_mayClamp yX5_mayClamp ∈ gWS := (gW_p 9 (by decide +kernel) rfl)
set_option maxRecDepth 40000 in
theorem qX5_spacing : gcw mX5_spacing yX5_spacing ∈ gWS ∧ Cond.initialized yX5_spacing.cls ∈ gWS ∧ (yX5_spacing.cls ≠ "java/lang/invoke/MethodHandle" ∧ yX5_spacing.cls ≠ "java/lang/invoke/VarHandle") ∧ (parseMethodDescriptor yX5_spacing.desc).map (fun d => d.parameters.length) = some 1 := ⟨(gW_t 381 rfl rfl), (gW_t 1 (by decide +kernel) rfl), ⟨by decide, by decide⟩, by decide +kernel⟩
theorem iX5_spacing : Cond.instanceMethod yX5_spacing ∈ gWS := (gW_t 380 (by decide +kernel) rfl)
theorem vX5_spacing : Cond.selects "RopewayDesk" yX5_spacing yX5_spacing ∈ gWS := (gW_p 10 (by decide +kernel) rfl)
set_option maxRecDepth 40000 in
theorem qX5_goOnClamping : gcw mX5_goOnClamping yX5_goOnClamping ∈ gWS ∧ Cond.initialized yX5_goOnClamping.cls ∈ gWS ∧ (yX5_goOnClamping.cls ≠ "java/lang/invoke/MethodHandle" ∧ yX5_goOnClamping.cls ≠ "java/lang/invoke/VarHandle") ∧ (parseMethodDescriptor yX5_goOnClamping.desc).map (fun d => d.parameters.length) = some 2 := ⟨(gW_t 338 rfl rfl), (gW_t 1 (by decide +kernel) rfl), ⟨by decide, by decide⟩, by decide +kernel⟩
theorem iX5_goOnClamping : Cond.instanceMethod yX5_goOnClamping ∈ gWS := (gW_t 337 (by decide +kernel) rfl)
theorem vX5_goOnClamping : Cond.selects "RopewayDesk" yX5_goOnClamping yX5_goOnClamping ∈ gWS := (gW_p 6 (by decide +kernel) rfl)
set_option maxRecDepth 40000 in
theorem qX5_leave : gcw mX5_leave yX5_leave ∈ gWS ∧ Cond.initialized yX5_leave.cls ∈ gWS ∧ (yX5_leave.cls ≠ "java/lang/invoke/MethodHandle" ∧ yX5_leave.cls ≠ "java/lang/invoke/VarHandle") ∧ (parseMethodDescriptor yX5_leave.desc).map (fun d => d.parameters.length) = some 2 := ⟨(gW_t 354 rfl rfl), (gW_t 1 (by decide +kernel) rfl), ⟨by decide, by decide⟩, by decide +kernel⟩
theorem iX5_leave : Cond.instanceMethod yX5_leave ∈ gWS := (gW_t 353 (by decide +kernel) rfl)
theorem vX5_leave : Cond.selects "RopewayDesk" yX5_leave yX5_leave ∈ gWS := (gW_p 7 (by decide +kernel) rfl)
set_option maxRecDepth 40000 in
theorem qX5_fail : gcw mX5_fail yX5_fail ∈ gWS ∧ Cond.initialized yX5_fail.cls ∈ gWS ∧ (yX5_fail.cls ≠ "java/lang/invoke/MethodHandle" ∧ yX5_fail.cls ≠ "java/lang/invoke/VarHandle") ∧ (parseMethodDescriptor yX5_fail.desc).map (fun d => d.parameters.length) = some 3 := ⟨(gW_t 363 rfl rfl), (gW_t 1 (by decide +kernel) rfl), ⟨by decide, by decide⟩, by decide +kernel⟩
theorem iX5_fail : Cond.instanceMethod yX5_fail ∈ gWS := (gW_t 362 (by decide +kernel) rfl)
theorem vX5_fail : Cond.selects "RopewayDesk" yX5_fail yX5_fail ∈ gWS := (gW_p 8 (by decide +kernel) rfl)
set_option maxRecDepth 40000 in
theorem qX5_targetSpeed : gcw mX5_targetSpeed yX5_targetSpeed ∈ gWS ∧ Cond.initialized yX5_targetSpeed.cls ∈ gWS ∧ (yX5_targetSpeed.cls ≠ "java/lang/invoke/MethodHandle" ∧ yX5_targetSpeed.cls ≠ "java/lang/invoke/VarHandle") ∧ (parseMethodDescriptor yX5_targetSpeed.desc).map (fun d => d.parameters.length) = some 0 := ⟨(gW_t 397 rfl rfl), (gW_t 1 (by decide +kernel) rfl), ⟨by decide, by decide⟩, by decide +kernel⟩
theorem iX5_targetSpeed : Cond.instanceMethod yX5_targetSpeed ∈ gWS := (gW_t 396 (by decide +kernel) rfl)
theorem vX5_targetSpeed : Cond.selects "RopewayDesk" yX5_targetSpeed yX5_targetSpeed ∈ gWS := (gW_p 11 (by decide +kernel) rfl)
set_option maxRecDepth 40000 in
theorem qX5_isArrivalHeldUp : gcw mX5_isArrivalHeldUp yX5_isArrivalHeldUp ∈ gWS ∧ Cond.initialized yX5_isArrivalHeldUp.cls ∈ gWS ∧ (yX5_isArrivalHeldUp.cls ≠ "java/lang/invoke/MethodHandle" ∧ yX5_isArrivalHeldUp.cls ≠ "java/lang/invoke/VarHandle") ∧ (parseMethodDescriptor yX5_isArrivalHeldUp.desc).map (fun d => d.parameters.length) = some 0 := ⟨(gW_t 401 rfl rfl), (gW_t 1 (by decide +kernel) rfl), ⟨by decide, by decide⟩, by decide +kernel⟩
theorem iX5_isArrivalHeldUp : Cond.instanceMethod yX5_isArrivalHeldUp ∈ gWS := (gW_t 400 (by decide +kernel) rfl)
theorem vX5_isArrivalHeldUp : Cond.selects "RopewayDesk" yX5_isArrivalHeldUp yX5_isArrivalHeldUp ∈ gWS := (gW_p 12 (by decide +kernel) rfl)
set_option maxRecDepth 40000 in
theorem qX6_init : gcw mX6_init yX6_init ∈ gWS ∧ Cond.initialized yX6_init.cls ∈ gWS ∧ (yX6_init.cls ≠ "java/lang/invoke/MethodHandle" ∧ yX6_init.cls ≠ "java/lang/invoke/VarHandle") ∧ (parseMethodDescriptor yX6_init.desc).map (fun d => d.parameters.length) = some 0 := ⟨(gW_t 537 rfl rfl), (gW_t 7 (by decide +kernel) rfl), ⟨by decide, by decide⟩, by decide +kernel⟩
theorem iX6_init : Cond.instanceMethod yX6_init ∈ gWS := (gW_t 536 (by decide +kernel) rfl)
set_option maxRecDepth 40000 in
theorem qX6_thrown : gcw mX6_thrown yX6_thrown ∈ gWS ∧ Cond.initialized yX6_thrown.cls ∈ gWS ∧ (yX6_thrown.cls ≠ "java/lang/invoke/MethodHandle" ∧ yX6_thrown.cls ≠ "java/lang/invoke/VarHandle") ∧ (parseMethodDescriptor yX6_thrown.desc).map (fun d => d.parameters.length) = some 0 := ⟨(gW_t 603 rfl rfl), (gW_t 7 (by decide +kernel) rfl), ⟨by decide, by decide⟩, by decide +kernel⟩
theorem iX6_thrown : Cond.instanceMethod yX6_thrown ∈ gWS := (gW_t 601 (by decide +kernel) rfl)
theorem vX6_thrown : Cond.selects "RopewayDeskModel" yX6_thrown yX6_thrown ∈ gWS := (gW_t 602 (by decide +kernel) rfl)
set_option maxRecDepth 40000 in
theorem qX6_fails : gcw mX6_fails yX6_fails ∈ gWS ∧ Cond.initialized yX6_fails.cls ∈ gWS ∧ (yX6_fails.cls ≠ "java/lang/invoke/MethodHandle" ∧ yX6_fails.cls ≠ "java/lang/invoke/VarHandle") ∧ (parseMethodDescriptor yX6_fails.desc).map (fun d => d.parameters.length) = some 1 := ⟨(gW_t 614 rfl rfl), (gW_t 7 (by decide +kernel) rfl), ⟨by decide, by decide⟩, by decide +kernel⟩
theorem iX6_fails : Cond.instanceMethod yX6_fails ∈ gWS := (gW_t 613 (by decide +kernel) rfl)
theorem vX6_fails : Cond.selects "RopewayDeskModel" yX6_fails yX6_fails ∈ gWS := (gW_p 16 (by decide +kernel) rfl)
set_option maxRecDepth 40000 in
theorem qX6_isIn : gcw mX6_isIn yX6_isIn ∈ gWS ∧ Cond.initialized yX6_isIn.cls ∈ gWS ∧ (yX6_isIn.cls ≠ "java/lang/invoke/MethodHandle" ∧ yX6_isIn.cls ≠ "java/lang/invoke/VarHandle") ∧ (parseMethodDescriptor yX6_isIn.desc).map (fun d => d.parameters.length) = some 3 := ⟨(gW_t 610 rfl rfl), (gW_t 7 (by decide +kernel) rfl), ⟨by decide, by decide⟩, by decide +kernel⟩
theorem tX6_isIn : Cond.static yX6_isIn ∈ gWS := (gW_t 609 (by decide +kernel) rfl)
set_option maxRecDepth 40000 in
theorem qX6_isCabin : gcw mX6_isCabin yX6_isCabin ∈ gWS ∧ Cond.initialized yX6_isCabin.cls ∈ gWS ∧ (yX6_isCabin.cls ≠ "java/lang/invoke/MethodHandle" ∧ yX6_isCabin.cls ≠ "java/lang/invoke/VarHandle") ∧ (parseMethodDescriptor yX6_isCabin.desc).map (fun d => d.parameters.length) = some 1 := ⟨(gW_t 688 rfl rfl), (gW_t 7 (by decide +kernel) rfl), ⟨by decide, by decide⟩, by decide +kernel⟩
theorem tX6_isCabin : Cond.static yX6_isCabin ∈ gWS := (gW_t 687 (by decide +kernel) rfl)
set_option maxRecDepth 40000 in
theorem qX6_isStation : gcw mX6_isStation yX6_isStation ∈ gWS ∧ Cond.initialized yX6_isStation.cls ∈ gWS ∧ (yX6_isStation.cls ≠ "java/lang/invoke/MethodHandle" ∧ yX6_isStation.cls ≠ "java/lang/invoke/VarHandle") ∧ (parseMethodDescriptor yX6_isStation.desc).map (fun d => d.parameters.length) = some 1 := ⟨(gW_t 673 rfl rfl), (gW_t 7 (by decide +kernel) rfl), ⟨by decide, by decide⟩, by decide +kernel⟩
theorem tX6_isStation : Cond.static yX6_isStation ∈ gWS := (gW_t 672 (by decide +kernel) rfl)
set_option maxRecDepth 40000 in
theorem qX6_in : gcw mX6_in yX6_in ∈ gWS ∧ Cond.initialized yX6_in.cls ∈ gWS ∧ (yX6_in.cls ≠ "java/lang/invoke/MethodHandle" ∧ yX6_in.cls ≠ "java/lang/invoke/VarHandle") ∧ (parseMethodDescriptor yX6_in.desc).map (fun d => d.parameters.length) = some 2 := ⟨(gW_t 622 rfl rfl), (gW_t 7 (by decide +kernel) rfl), ⟨by decide, by decide⟩, by decide +kernel⟩
theorem iX6_in : Cond.instanceMethod yX6_in ∈ gWS := (gW_t 621 (by decide +kernel) rfl)
theorem vX6_in : Cond.selects "RopewayDeskModel" yX6_in yX6_in ∈ gWS := (gW_p 18 (by decide +kernel) rfl)
set_option maxRecDepth 40000 in
theorem qX6_many : gcw mX6_many yX6_many ∈ gWS ∧ Cond.initialized yX6_many.cls ∈ gWS ∧ (yX6_many.cls ≠ "java/lang/invoke/MethodHandle" ∧ yX6_many.cls ≠ "java/lang/invoke/VarHandle") ∧ (parseMethodDescriptor yX6_many.desc).map (fun d => d.parameters.length) = some 1 := ⟨(gW_t 696 rfl rfl), (gW_t 7 (by decide +kernel) rfl), ⟨by decide, by decide⟩, by decide +kernel⟩
theorem iX6_many : Cond.instanceMethod yX6_many ∈ gWS := (gW_t 695 (by decide +kernel) rfl)
theorem vX6_many : Cond.selects "RopewayDeskModel" yX6_many yX6_many ∈ gWS := (gW_p 29 (by decide +kernel) rfl)
set_option maxRecDepth 40000 in
theorem qX6_inZones : gcw mX6_inZones yX6_inZones ∈ gWS ∧ Cond.initialized yX6_inZones.cls ∈ gWS ∧ (yX6_inZones.cls ≠ "java/lang/invoke/MethodHandle" ∧ yX6_inZones.cls ≠ "java/lang/invoke/VarHandle") ∧ (parseMethodDescriptor yX6_inZones.desc).map (fun d => d.parameters.length) = some 1 := ⟨(gW_t 662 rfl rfl), (gW_t 7 (by decide +kernel) rfl), ⟨by decide, by decide⟩, by decide +kernel⟩
theorem iX6_inZones : Cond.instanceMethod yX6_inZones ∈ gWS := (gW_t 661 (by decide +kernel) rfl)
theorem vX6_inZones : Cond.selects "RopewayDeskModel" yX6_inZones yX6_inZones ∈ gWS := (gW_p 27 (by decide +kernel) rfl)
set_option maxRecDepth 40000 in
theorem qX6_letGo : gcw mX6_letGo yX6_letGo ∈ gWS ∧ Cond.initialized yX6_letGo.cls ∈ gWS ∧ (yX6_letGo.cls ≠ "java/lang/invoke/MethodHandle" ∧ yX6_letGo.cls ≠ "java/lang/invoke/VarHandle") ∧ (parseMethodDescriptor yX6_letGo.desc).map (fun d => d.parameters.length) = some 0 := ⟨(gW_t 618 rfl rfl), (gW_t 7 (by decide +kernel) rfl), ⟨by decide, by decide⟩, by decide +kernel⟩
theorem iX6_letGo : Cond.instanceMethod yX6_letGo ∈ gWS := (gW_t 617 (by decide +kernel) rfl)
theorem vX6_letGo : Cond.selects "RopewayDeskModel" yX6_letGo yX6_letGo ∈ gWS := (gW_p 17 (by decide +kernel) rfl)
set_option maxRecDepth 40000 in
theorem qX6_enter : gcw mX6_enter yX6_enter ∈ gWS ∧ Cond.initialized yX6_enter.cls ∈ gWS ∧ (yX6_enter.cls ≠ "java/lang/invoke/MethodHandle" ∧ yX6_enter.cls ≠ "java/lang/invoke/VarHandle") ∧ (parseMethodDescriptor yX6_enter.desc).map (fun d => d.parameters.length) = some 3 := ⟨(gW_t 626 rfl rfl), (gW_t 7 (by decide +kernel) rfl), ⟨by decide, by decide⟩, by decide +kernel⟩
theorem iX6_enter : Cond.instanceMethod yX6_enter ∈ gWS := (gW_t 625 (by decide +kernel) rfl)
theorem vX6_enter : Cond.selects "RopewayDeskModel" yX6_enter yX6_enter ∈ gWS := (gW_p 19 (by decide +kernel) rfl)
set_option maxRecDepth 40000 in
theorem qX6_isOver : gcw mX6_isOver yX6_isOver ∈ gWS ∧ Cond.initialized yX6_isOver.cls ∈ gWS ∧ (yX6_isOver.cls ≠ "java/lang/invoke/MethodHandle" ∧ yX6_isOver.cls ≠ "java/lang/invoke/VarHandle") ∧ (parseMethodDescriptor yX6_isOver.desc).map (fun d => d.parameters.length) = some 0 := ⟨(gW_t 630 rfl rfl), (gW_t 7 (by decide +kernel) rfl), ⟨by decide, by decide⟩, by decide +kernel⟩
theorem iX6_isOver : Cond.instanceMethod yX6_isOver ∈ gWS := (gW_t 629 (by decide +kernel) rfl)
theorem vX6_isOver : Cond.selects "RopewayDeskModel" yX6_isOver yX6_isOver ∈ gWS := (gW_p 20 (by decide +kernel) rfl)
set_option maxRecDepth 40000 in
theorem qX6_pulse : gcw mX6_pulse yX6_pulse ∈ gWS ∧ Cond.initialized yX6_pulse.cls ∈ gWS ∧ (yX6_pulse.cls ≠ "java/lang/invoke/MethodHandle" ∧ yX6_pulse.cls ≠ "java/lang/invoke/VarHandle") ∧ (parseMethodDescriptor yX6_pulse.desc).map (fun d => d.parameters.length) = some 1 := ⟨(gW_t 607 rfl rfl), (gW_t 7 (by decide +kernel) rfl), ⟨by decide, by decide⟩, by decide +kernel⟩
theorem iX6_pulse : Cond.instanceMethod yX6_pulse ∈ gWS := (gW_t 605 (by decide +kernel) rfl)
theorem vX6_pulse : Cond.selects "RopewayDeskModel" yX6_pulse yX6_pulse ∈ gWS := (gW_t 606 (by decide +kernel) rfl)
set_option maxRecDepth 40000 in
theorem qX6_toSiding : gcw mX6_toSiding yX6_toSiding ∈ gWS ∧ Cond.initialized yX6_toSiding.cls ∈ gWS ∧ (yX6_toSiding.cls ≠ "java/lang/invoke/MethodHandle" ∧ yX6_toSiding.cls ≠ "java/lang/invoke/VarHandle") ∧ (parseMethodDescriptor yX6_toSiding.desc).map (fun d => d.parameters.length) = some 1 := ⟨(gW_t 654 rfl rfl), (gW_t 7 (by decide +kernel) rfl), ⟨by decide, by decide⟩, by decide +kernel⟩
theorem iX6_toSiding : Cond.instanceMethod yX6_toSiding ∈ gWS := (gW_t 653 (by decide +kernel) rfl)
theorem vX6_toSiding : Cond.selects "RopewayDeskModel" yX6_toSiding yX6_toSiding ∈ gWS := (gW_p 25 (by decide +kernel) rfl)
set_option maxRecDepth 40000 in
theorem qX6_unside : gcw mX6_unside yX6_unside ∈ gWS ∧ Cond.initialized yX6_unside.cls ∈ gWS ∧ (yX6_unside.cls ≠ "java/lang/invoke/MethodHandle" ∧ yX6_unside.cls ≠ "java/lang/invoke/VarHandle") ∧ (parseMethodDescriptor yX6_unside.desc).map (fun d => d.parameters.length) = some 1 := ⟨(gW_t 700 rfl rfl), (gW_t 7 (by decide +kernel) rfl), ⟨by decide, by decide⟩, by decide +kernel⟩
theorem iX6_unside : Cond.instanceMethod yX6_unside ∈ gWS := (gW_t 699 (by decide +kernel) rfl)
theorem vX6_unside : Cond.selects "RopewayDeskModel" yX6_unside yX6_unside ∈ gWS := (gW_p 30 (by decide +kernel) rfl)
set_option maxRecDepth 40000 in
theorem qX6_middle : gcw mX6_middle yX6_middle ∈ gWS ∧ Cond.initialized yX6_middle.cls ∈ gWS ∧ (yX6_middle.cls ≠ "java/lang/invoke/MethodHandle" ∧ yX6_middle.cls ≠ "java/lang/invoke/VarHandle") ∧ (parseMethodDescriptor yX6_middle.desc).map (fun d => d.parameters.length) = some 0 := ⟨(gW_t 642 rfl rfl), (gW_t 7 (by decide +kernel) rfl), ⟨by decide, by decide⟩, by decide +kernel⟩
theorem iX6_middle : Cond.instanceMethod yX6_middle ∈ gWS := (gW_t 641 (by decide +kernel) rfl)
theorem vX6_middle : Cond.selects "RopewayDeskModel" yX6_middle yX6_middle ∈ gWS := (gW_p 22 (by decide +kernel) rfl)
set_option maxRecDepth 40000 in
theorem qX6_isTooNear : gcw mX6_isTooNear yX6_isTooNear ∈ gWS ∧ Cond.initialized yX6_isTooNear.cls ∈ gWS ∧ (yX6_isTooNear.cls ≠ "java/lang/invoke/MethodHandle" ∧ yX6_isTooNear.cls ≠ "java/lang/invoke/VarHandle") ∧ (parseMethodDescriptor yX6_isTooNear.desc).map (fun d => d.parameters.length) = some 1 := ⟨(gW_t 658 rfl rfl), (gW_t 7 (by decide +kernel) rfl), ⟨by decide, by decide⟩, by decide +kernel⟩
theorem iX6_isTooNear : Cond.instanceMethod yX6_isTooNear ∈ gWS := (gW_t 657 (by decide +kernel) rfl)
theorem vX6_isTooNear : Cond.selects "RopewayDeskModel" yX6_isTooNear yX6_isTooNear ∈ gWS := (gW_p 26 (by decide +kernel) rfl)
set_option maxRecDepth 40000 in
theorem qX6_clamp : gcw mX6_clamp yX6_clamp ∈ gWS ∧ Cond.initialized yX6_clamp.cls ∈ gWS ∧ (yX6_clamp.cls ≠ "java/lang/invoke/MethodHandle" ∧ yX6_clamp.cls ≠ "java/lang/invoke/VarHandle") ∧ (parseMethodDescriptor yX6_clamp.desc).map (fun d => d.parameters.length) = some 1 := ⟨(gW_t 650 rfl rfl), (gW_t 7 (by decide +kernel) rfl), ⟨by decide, by decide⟩, by decide +kernel⟩
theorem iX6_clamp : Cond.instanceMethod yX6_clamp ∈ gWS := (gW_t 649 (by decide +kernel) rfl)
theorem vX6_clamp : Cond.selects "RopewayDeskModel" yX6_clamp yX6_clamp ∈ gWS := (gW_p 24 (by decide +kernel) rfl)
set_option maxRecDepth 40000 in
theorem qX6_work : gcw mX6_work yX6_work ∈ gWS ∧ Cond.initialized yX6_work.cls ∈ gWS ∧ (yX6_work.cls ≠ "java/lang/invoke/MethodHandle" ∧ yX6_work.cls ≠ "java/lang/invoke/VarHandle") ∧ (parseMethodDescriptor yX6_work.desc).map (fun d => d.parameters.length) = some 2 := ⟨(gW_t 646 rfl rfl), (gW_t 7 (by decide +kernel) rfl), ⟨by decide, by decide⟩, by decide +kernel⟩
theorem iX6_work : Cond.instanceMethod yX6_work ∈ gWS := (gW_t 645 (by decide +kernel) rfl)
theorem vX6_work : Cond.selects "RopewayDeskModel" yX6_work yX6_work ∈ gWS := (gW_p 23 (by decide +kernel) rfl)
set_option maxRecDepth 40000 in
theorem qX6_isWaiting : gcw mX6_isWaiting yX6_isWaiting ∈ gWS ∧ Cond.initialized yX6_isWaiting.cls ∈ gWS ∧ (yX6_isWaiting.cls ≠ "java/lang/invoke/MethodHandle" ∧ yX6_isWaiting.cls ≠ "java/lang/invoke/VarHandle") ∧ (parseMethodDescriptor yX6_isWaiting.desc).map (fun d => d.parameters.length) = some 0 := ⟨(gW_t 666 rfl rfl), (gW_t 7 (by decide +kernel) rfl), ⟨by decide, by decide⟩, by decide +kernel⟩
theorem iX6_isWaiting : Cond.instanceMethod yX6_isWaiting ∈ gWS := (gW_t 665 (by decide +kernel) rfl)
theorem vX6_isWaiting : Cond.selects "RopewayDeskModel" yX6_isWaiting yX6_isWaiting ∈ gWS := (gW_p 28 (by decide +kernel) rfl)
set_option maxRecDepth 40000 in
theorem qX6_one : gcw mX6_one yX6_one ∈ gWS ∧ Cond.initialized yX6_one.cls ∈ gWS ∧ (yX6_one.cls ≠ "java/lang/invoke/MethodHandle" ∧ yX6_one.cls ≠ "java/lang/invoke/VarHandle") ∧ (parseMethodDescriptor yX6_one.desc).map (fun d => d.parameters.length) = some 0 := ⟨(gW_t 638 rfl rfl), (gW_t 7 (by decide +kernel) rfl), ⟨by decide, by decide⟩, by decide +kernel⟩
theorem iX6_one : Cond.instanceMethod yX6_one ∈ gWS := (gW_t 637 (by decide +kernel) rfl)
theorem vX6_one : Cond.selects "RopewayDeskModel" yX6_one yX6_one ∈ gWS := (gW_p 21 (by decide +kernel) rfl)
set_option maxRecDepth 40000 in
theorem qX6_tick : gcw mX6_tick yX6_tick ∈ gWS ∧ Cond.initialized yX6_tick.cls ∈ gWS ∧ (yX6_tick.cls ≠ "java/lang/invoke/MethodHandle" ∧ yX6_tick.cls ≠ "java/lang/invoke/VarHandle") ∧ (parseMethodDescriptor yX6_tick.desc).map (fun d => d.parameters.length) = some 1 := ⟨(gW_t 634 rfl rfl), (gW_t 7 (by decide +kernel) rfl), ⟨by decide, by decide⟩, by decide +kernel⟩
theorem iX6_tick : Cond.instanceMethod yX6_tick ∈ gWS := (gW_t 632 (by decide +kernel) rfl)
theorem vX6_tick : Cond.selects "RopewayDeskModel" yX6_tick yX6_tick ∈ gWS := (gW_t 633 (by decide +kernel) rfl)
set_option maxRecDepth 40000 in
theorem qX6_gauge : gcw mX6_gauge yX6_gauge ∈ gWS ∧ Cond.initialized yX6_gauge.cls ∈ gWS ∧ (yX6_gauge.cls ≠ "java/lang/invoke/MethodHandle" ∧ yX6_gauge.cls ≠ "java/lang/invoke/VarHandle") ∧ (parseMethodDescriptor yX6_gauge.desc).map (fun d => d.parameters.length) = some 3 := ⟨(gW_t 670 rfl rfl), (gW_t 7 (by decide +kernel) rfl), ⟨by decide, by decide⟩, by decide +kernel⟩
theorem iX6_gauge : Cond.instanceMethod yX6_gauge ∈ gWS := (gW_t 668 (by decide +kernel) rfl)
theorem vX6_gauge : Cond.selects "RopewayDeskModel" yX6_gauge yX6_gauge ∈ gWS := (gW_t 669 (by decide +kernel) rfl)
set_option maxRecDepth 40000 in
theorem qX6_wind : gcw mX6_wind yX6_wind ∈ gWS ∧ Cond.initialized yX6_wind.cls ∈ gWS ∧ (yX6_wind.cls ≠ "java/lang/invoke/MethodHandle" ∧ yX6_wind.cls ≠ "java/lang/invoke/VarHandle") ∧ (parseMethodDescriptor yX6_wind.desc).map (fun d => d.parameters.length) = some 1 := ⟨(gW_t 677 rfl rfl), (gW_t 7 (by decide +kernel) rfl), ⟨by decide, by decide⟩, by decide +kernel⟩
theorem iX6_wind : Cond.instanceMethod yX6_wind ∈ gWS := (gW_t 675 (by decide +kernel) rfl)
theorem vX6_wind : Cond.selects "RopewayDeskModel" yX6_wind yX6_wind ∈ gWS := (gW_t 676 (by decide +kernel) rfl)
set_option maxRecDepth 40000 in
theorem qX6_drive : gcw mX6_drive yX6_drive ∈ gWS ∧ Cond.initialized yX6_drive.cls ∈ gWS ∧ (yX6_drive.cls ≠ "java/lang/invoke/MethodHandle" ∧ yX6_drive.cls ≠ "java/lang/invoke/VarHandle") ∧ (parseMethodDescriptor yX6_drive.desc).map (fun d => d.parameters.length) = some 1 := ⟨(gW_t 681 rfl rfl), (gW_t 7 (by decide +kernel) rfl), ⟨by decide, by decide⟩, by decide +kernel⟩
theorem iX6_drive : Cond.instanceMethod yX6_drive ∈ gWS := (gW_t 679 (by decide +kernel) rfl)
theorem vX6_drive : Cond.selects "RopewayDeskModel" yX6_drive yX6_drive ∈ gWS := (gW_t 680 (by decide +kernel) rfl)
set_option maxRecDepth 40000 in
theorem qX6_bring : gcw mX6_bring yX6_bring ∈ gWS ∧ Cond.initialized yX6_bring.cls ∈ gWS ∧ (yX6_bring.cls ≠ "java/lang/invoke/MethodHandle" ∧ yX6_bring.cls ≠ "java/lang/invoke/VarHandle") ∧ (parseMethodDescriptor yX6_bring.desc).map (fun d => d.parameters.length) = some 1 := ⟨(gW_t 685 rfl rfl), (gW_t 7 (by decide +kernel) rfl), ⟨by decide, by decide⟩, by decide +kernel⟩
theorem iX6_bring : Cond.instanceMethod yX6_bring ∈ gWS := (gW_t 683 (by decide +kernel) rfl)
theorem vX6_bring : Cond.selects "RopewayDeskModel" yX6_bring yX6_bring ∈ gWS := (gW_t 684 (by decide +kernel) rfl)
set_option maxRecDepth 40000 in
theorem qX6_putOn : gcw mX6_putOn yX6_putOn ∈ gWS ∧ Cond.initialized yX6_putOn.cls ∈ gWS ∧ (yX6_putOn.cls ≠ "java/lang/invoke/MethodHandle" ∧ yX6_putOn.cls ≠ "java/lang/invoke/VarHandle") ∧ (parseMethodDescriptor yX6_putOn.desc).map (fun d => d.parameters.length) = some 2 := ⟨(gW_t 692 rfl rfl), (gW_t 7 (by decide +kernel) rfl), ⟨by decide, by decide⟩, by decide +kernel⟩
theorem iX6_putOn : Cond.instanceMethod yX6_putOn ∈ gWS := (gW_t 690 (by decide +kernel) rfl)
theorem vX6_putOn : Cond.selects "RopewayDeskModel" yX6_putOn yX6_putOn ∈ gWS := (gW_t 691 (by decide +kernel) rfl)
set_option maxRecDepth 40000 in
theorem qX6_takeOff : gcw mX6_takeOff yX6_takeOff ∈ gWS ∧ Cond.initialized yX6_takeOff.cls ∈ gWS ∧ (yX6_takeOff.cls ≠ "java/lang/invoke/MethodHandle" ∧ yX6_takeOff.cls ≠ "java/lang/invoke/VarHandle") ∧ (parseMethodDescriptor yX6_takeOff.desc).map (fun d => d.parameters.length) = some 2 := ⟨(gW_t 704 rfl rfl), (gW_t 7 (by decide +kernel) rfl), ⟨by decide, by decide⟩, by decide +kernel⟩
theorem iX6_takeOff : Cond.instanceMethod yX6_takeOff ∈ gWS := (gW_t 702 (by decide +kernel) rfl)
theorem vX6_takeOff : Cond.selects "RopewayDeskModel" yX6_takeOff yX6_takeOff ∈ gWS := (gW_t 703 (by decide +kernel) rfl)
set_option maxRecDepth 40000 in
theorem qX6_plan : gcw mX6_plan yX6_plan ∈ gWS ∧ Cond.initialized yX6_plan.cls ∈ gWS ∧ (yX6_plan.cls ≠ "java/lang/invoke/MethodHandle" ∧ yX6_plan.cls ≠ "java/lang/invoke/VarHandle") ∧ (parseMethodDescriptor yX6_plan.desc).map (fun d => d.parameters.length) = some 1 := ⟨(gW_t 708 rfl rfl), (gW_t 7 (by decide +kernel) rfl), ⟨by decide, by decide⟩, by decide +kernel⟩
theorem iX6_plan : Cond.instanceMethod yX6_plan ∈ gWS := (gW_t 706 (by decide +kernel) rfl)
theorem vX6_plan : Cond.selects "RopewayDeskModel" yX6_plan yX6_plan ∈ gWS := (gW_t 707 (by decide +kernel) rfl)
set_option maxRecDepth 40000 in
theorem qX6_release : gcw mX6_release yX6_release ∈ gWS ∧ Cond.initialized yX6_release.cls ∈ gWS ∧ (yX6_release.cls ≠ "java/lang/invoke/MethodHandle" ∧ yX6_release.cls ≠ "java/lang/invoke/VarHandle") ∧ (parseMethodDescriptor yX6_release.desc).map (fun d => d.parameters.length) = some 1 := ⟨(gW_t 712 rfl rfl), (gW_t 7 (by decide +kernel) rfl), ⟨by decide, by decide⟩, by decide +kernel⟩
theorem iX6_release : Cond.instanceMethod yX6_release ∈ gWS := (gW_t 710 (by decide +kernel) rfl)
theorem vX6_release : Cond.selects "RopewayDeskModel" yX6_release yX6_release ∈ gWS := (gW_t 711 (by decide +kernel) rfl)
set_option maxRecDepth 40000 in
theorem qX6_locks : gcw mX6_locks yX6_locks ∈ gWS ∧ Cond.initialized yX6_locks.cls ∈ gWS ∧ (yX6_locks.cls ≠ "java/lang/invoke/MethodHandle" ∧ yX6_locks.cls ≠ "java/lang/invoke/VarHandle") ∧ (parseMethodDescriptor yX6_locks.desc).map (fun d => d.parameters.length) = some 0 := ⟨(gW_t 716 rfl rfl), (gW_t 7 (by decide +kernel) rfl), ⟨by decide, by decide⟩, by decide +kernel⟩
theorem iX6_locks : Cond.instanceMethod yX6_locks ∈ gWS := (gW_t 714 (by decide +kernel) rfl)
theorem vX6_locks : Cond.selects "RopewayDeskModel" yX6_locks yX6_locks ∈ gWS := (gW_t 715 (by decide +kernel) rfl)
set_option maxRecDepth 40000 in
theorem qX6_placeOf : gcw mX6_placeOf yX6_placeOf ∈ gWS ∧ Cond.initialized yX6_placeOf.cls ∈ gWS ∧ (yX6_placeOf.cls ≠ "java/lang/invoke/MethodHandle" ∧ yX6_placeOf.cls ≠ "java/lang/invoke/VarHandle") ∧ (parseMethodDescriptor yX6_placeOf.desc).map (fun d => d.parameters.length) = some 1 := ⟨(gW_t 724 rfl rfl), (gW_t 7 (by decide +kernel) rfl), ⟨by decide, by decide⟩, by decide +kernel⟩
theorem iX6_placeOf : Cond.instanceMethod yX6_placeOf ∈ gWS := (gW_t 723 (by decide +kernel) rfl)
theorem vX6_placeOf : Cond.selects "RopewayDeskModel" yX6_placeOf yX6_placeOf ∈ gWS := (gW_p 31 (by decide +kernel) rfl)
set_option maxRecDepth 40000 in
theorem qX6_hasOpenDoors : gcw mX6_hasOpenDoors yX6_hasOpenDoors ∈ gWS ∧ Cond.initialized yX6_hasOpenDoors.cls ∈ gWS ∧ (yX6_hasOpenDoors.cls ≠ "java/lang/invoke/MethodHandle" ∧ yX6_hasOpenDoors.cls ≠ "java/lang/invoke/VarHandle") ∧ (parseMethodDescriptor yX6_hasOpenDoors.desc).map (fun d => d.parameters.length) = some 1 := ⟨(gW_t 728 rfl rfl), (gW_t 7 (by decide +kernel) rfl), ⟨by decide, by decide⟩, by decide +kernel⟩
theorem iX6_hasOpenDoors : Cond.instanceMethod yX6_hasOpenDoors ∈ gWS := (gW_t 727 (by decide +kernel) rfl)
theorem vX6_hasOpenDoors : Cond.selects "RopewayDeskModel" yX6_hasOpenDoors yX6_hasOpenDoors ∈ gWS := (gW_p 32 (by decide +kernel) rfl)
set_option maxRecDepth 40000 in
theorem qX6_where : gcw mX6_where yX6_where ∈ gWS ∧ Cond.initialized yX6_where.cls ∈ gWS ∧ (yX6_where.cls ≠ "java/lang/invoke/MethodHandle" ∧ yX6_where.cls ≠ "java/lang/invoke/VarHandle") ∧ (parseMethodDescriptor yX6_where.desc).map (fun d => d.parameters.length) = some 2 := ⟨(gW_t 720 rfl rfl), (gW_t 7 (by decide +kernel) rfl), ⟨by decide, by decide⟩, by decide +kernel⟩
theorem iX6_where : Cond.instanceMethod yX6_where ∈ gWS := (gW_t 718 (by decide +kernel) rfl)
theorem vX6_where : Cond.selects "RopewayDeskModel" yX6_where yX6_where ∈ gWS := (gW_t 719 (by decide +kernel) rfl)
set_option maxRecDepth 40000 in
theorem qX6_gap : gcw mX6_gap yX6_gap ∈ gWS ∧ Cond.initialized yX6_gap.cls ∈ gWS ∧ (yX6_gap.cls ≠ "java/lang/invoke/MethodHandle" ∧ yX6_gap.cls ≠ "java/lang/invoke/VarHandle") ∧ (parseMethodDescriptor yX6_gap.desc).map (fun d => d.parameters.length) = some 1 := ⟨(gW_t 732 rfl rfl), (gW_t 7 (by decide +kernel) rfl), ⟨by decide, by decide⟩, by decide +kernel⟩
theorem iX6_gap : Cond.instanceMethod yX6_gap ∈ gWS := (gW_t 730 (by decide +kernel) rfl)
theorem vX6_gap : Cond.selects "RopewayDeskModel" yX6_gap yX6_gap ∈ gWS := (gW_t 731 (by decide +kernel) rfl)
set_option maxRecDepth 40000 in
theorem qX6_sided : gcw mX6_sided yX6_sided ∈ gWS ∧ Cond.initialized yX6_sided.cls ∈ gWS ∧ (yX6_sided.cls ≠ "java/lang/invoke/MethodHandle" ∧ yX6_sided.cls ≠ "java/lang/invoke/VarHandle") ∧ (parseMethodDescriptor yX6_sided.desc).map (fun d => d.parameters.length) = some 1 := ⟨(gW_t 736 rfl rfl), (gW_t 7 (by decide +kernel) rfl), ⟨by decide, by decide⟩, by decide +kernel⟩
theorem iX6_sided : Cond.instanceMethod yX6_sided ∈ gWS := (gW_t 734 (by decide +kernel) rfl)
theorem vX6_sided : Cond.selects "RopewayDeskModel" yX6_sided yX6_sided ∈ gWS := (gW_t 735 (by decide +kernel) rfl)
set_option maxRecDepth 40000 in
theorem qX6_state : gcw mX6_state yX6_state ∈ gWS ∧ Cond.initialized yX6_state.cls ∈ gWS ∧ (yX6_state.cls ≠ "java/lang/invoke/MethodHandle" ∧ yX6_state.cls ≠ "java/lang/invoke/VarHandle") ∧ (parseMethodDescriptor yX6_state.desc).map (fun d => d.parameters.length) = some 1 := ⟨(gW_t 740 rfl rfl), (gW_t 7 (by decide +kernel) rfl), ⟨by decide, by decide⟩, by decide +kernel⟩
theorem iX6_state : Cond.instanceMethod yX6_state ∈ gWS := (gW_t 738 (by decide +kernel) rfl)
theorem vX6_state : Cond.selects "RopewayDeskModel" yX6_state yX6_state ∈ gWS := (gW_t 739 (by decide +kernel) rfl)
set_option maxRecDepth 40000 in
theorem qX6_all : gcw mX6_all yX6_all ∈ gWS ∧ Cond.initialized yX6_all.cls ∈ gWS ∧ (yX6_all.cls ≠ "java/lang/invoke/MethodHandle" ∧ yX6_all.cls ≠ "java/lang/invoke/VarHandle") ∧ (parseMethodDescriptor yX6_all.desc).map (fun d => d.parameters.length) = some 0 := ⟨(gW_t 744 rfl rfl), (gW_t 7 (by decide +kernel) rfl), ⟨by decide, by decide⟩, by decide +kernel⟩
theorem iX6_all : Cond.instanceMethod yX6_all ∈ gWS := (gW_t 743 (by decide +kernel) rfl)
theorem vX6_all : Cond.selects "RopewayDeskModel" yX6_all yX6_all ∈ gWS := (gW_p 33 (by decide +kernel) rfl)
set_option maxRecDepth 40000 in
theorem qL_pulse : gcw mL_pulse yL_pulse ∈ gWS ∧ Cond.initialized yL_pulse.cls ∈ gWS ∧ (yL_pulse.cls ≠ "java/lang/invoke/MethodHandle" ∧ yL_pulse.cls ≠ "java/lang/invoke/VarHandle") ∧ (parseMethodDescriptor yL_pulse.desc).map (fun d => d.parameters.length) = some 3 := ⟨(gW_t 204 rfl rfl), (gW_t 0 (by decide +kernel) rfl), ⟨by decide, by decide⟩, by decide +kernel⟩
theorem tL_pulse : Cond.static yL_pulse ∈ gWS := (gW_t 203 (by decide +kernel) rfl)
set_option maxRecDepth 40000 in
theorem qL_tick : gcw mL_tick yL_tick ∈ gWS ∧ Cond.initialized yL_tick.cls ∈ gWS ∧ (yL_tick.cls ≠ "java/lang/invoke/MethodHandle" ∧ yL_tick.cls ≠ "java/lang/invoke/VarHandle") ∧ (parseMethodDescriptor yL_tick.desc).map (fun d => d.parameters.length) = some 3 := ⟨(gW_t 312 rfl rfl), (gW_t 0 (by decide +kernel) rfl), ⟨by decide, by decide⟩, by decide +kernel⟩
theorem tL_tick : Cond.static yL_tick ∈ gWS := (gW_t 311 (by decide +kernel) rfl)
set_option maxRecDepth 40000 in
theorem qL_gauge : gcw mL_gauge yL_gauge ∈ gWS ∧ Cond.initialized yL_gauge.cls ∈ gWS ∧ (yL_gauge.cls ≠ "java/lang/invoke/MethodHandle" ∧ yL_gauge.cls ≠ "java/lang/invoke/VarHandle") ∧ (parseMethodDescriptor yL_gauge.desc).map (fun d => d.parameters.length) = some 5 := ⟨(gW_t 408 rfl rfl), (gW_t 0 (by decide +kernel) rfl), ⟨by decide, by decide⟩, by decide +kernel⟩
theorem tL_gauge : Cond.static yL_gauge ∈ gWS := (gW_t 407 (by decide +kernel) rfl)
set_option maxRecDepth 40000 in
theorem qL_wind : gcw mL_wind yL_wind ∈ gWS ∧ Cond.initialized yL_wind.cls ∈ gWS ∧ (yL_wind.cls ≠ "java/lang/invoke/MethodHandle" ∧ yL_wind.cls ≠ "java/lang/invoke/VarHandle") ∧ (parseMethodDescriptor yL_wind.desc).map (fun d => d.parameters.length) = some 2 := ⟨(gW_t 420 rfl rfl), (gW_t 0 (by decide +kernel) rfl), ⟨by decide, by decide⟩, by decide +kernel⟩
theorem tL_wind : Cond.static yL_wind ∈ gWS := (gW_t 419 (by decide +kernel) rfl)
set_option maxRecDepth 40000 in
theorem qL_drive : gcw mL_drive yL_drive ∈ gWS ∧ Cond.initialized yL_drive.cls ∈ gWS ∧ (yL_drive.cls ≠ "java/lang/invoke/MethodHandle" ∧ yL_drive.cls ≠ "java/lang/invoke/VarHandle") ∧ (parseMethodDescriptor yL_drive.desc).map (fun d => d.parameters.length) = some 3 := ⟨(gW_t 436 rfl rfl), (gW_t 0 (by decide +kernel) rfl), ⟨by decide, by decide⟩, by decide +kernel⟩
theorem tL_drive : Cond.static yL_drive ∈ gWS := (gW_t 435 (by decide +kernel) rfl)
set_option maxRecDepth 40000 in
theorem qL_bring : gcw mL_bring yL_bring ∈ gWS ∧ Cond.initialized yL_bring.cls ∈ gWS ∧ (yL_bring.cls ≠ "java/lang/invoke/MethodHandle" ∧ yL_bring.cls ≠ "java/lang/invoke/VarHandle") ∧ (parseMethodDescriptor yL_bring.desc).map (fun d => d.parameters.length) = some 3 := ⟨(gW_t 444 rfl rfl), (gW_t 0 (by decide +kernel) rfl), ⟨by decide, by decide⟩, by decide +kernel⟩
theorem tL_bring : Cond.static yL_bring ∈ gWS := (gW_t 443 (by decide +kernel) rfl)
set_option maxRecDepth 40000 in
theorem qL_putOn : gcw mL_putOn yL_putOn ∈ gWS ∧ Cond.initialized yL_putOn.cls ∈ gWS ∧ (yL_putOn.cls ≠ "java/lang/invoke/MethodHandle" ∧ yL_putOn.cls ≠ "java/lang/invoke/VarHandle") ∧ (parseMethodDescriptor yL_putOn.desc).map (fun d => d.parameters.length) = some 4 := ⟨(gW_t 455 rfl rfl), (gW_t 0 (by decide +kernel) rfl), ⟨by decide, by decide⟩, by decide +kernel⟩
theorem tL_putOn : Cond.static yL_putOn ∈ gWS := (gW_t 454 (by decide +kernel) rfl)
set_option maxRecDepth 40000 in
theorem qL_takeOff : gcw mL_takeOff yL_takeOff ∈ gWS ∧ Cond.initialized yL_takeOff.cls ∈ gWS ∧ (yL_takeOff.cls ≠ "java/lang/invoke/MethodHandle" ∧ yL_takeOff.cls ≠ "java/lang/invoke/VarHandle") ∧ (parseMethodDescriptor yL_takeOff.desc).map (fun d => d.parameters.length) = some 4 := ⟨(gW_t 474 rfl rfl), (gW_t 0 (by decide +kernel) rfl), ⟨by decide, by decide⟩, by decide +kernel⟩
theorem tL_takeOff : Cond.static yL_takeOff ∈ gWS := (gW_t 473 (by decide +kernel) rfl)
set_option maxRecDepth 40000 in
theorem qL_plan : gcw mL_plan yL_plan ∈ gWS ∧ Cond.initialized yL_plan.cls ∈ gWS ∧ (yL_plan.cls ≠ "java/lang/invoke/MethodHandle" ∧ yL_plan.cls ≠ "java/lang/invoke/VarHandle") ∧ (parseMethodDescriptor yL_plan.desc).map (fun d => d.parameters.length) = some 3 := ⟨(gW_t 481 rfl rfl), (gW_t 0 (by decide +kernel) rfl), ⟨by decide, by decide⟩, by decide +kernel⟩
theorem tL_plan : Cond.static yL_plan ∈ gWS := (gW_t 480 (by decide +kernel) rfl)
set_option maxRecDepth 40000 in
theorem qL_release : gcw mL_release yL_release ∈ gWS ∧ Cond.initialized yL_release.cls ∈ gWS ∧ (yL_release.cls ≠ "java/lang/invoke/MethodHandle" ∧ yL_release.cls ≠ "java/lang/invoke/VarHandle") ∧ (parseMethodDescriptor yL_release.desc).map (fun d => d.parameters.length) = some 3 := ⟨(gW_t 489 rfl rfl), (gW_t 0 (by decide +kernel) rfl), ⟨by decide, by decide⟩, by decide +kernel⟩
theorem tL_release : Cond.static yL_release ∈ gWS := (gW_t 488 (by decide +kernel) rfl)
set_option maxRecDepth 40000 in
theorem qL_where : gcw mL_where yL_where ∈ gWS ∧ Cond.initialized yL_where.cls ∈ gWS ∧ (yL_where.cls ≠ "java/lang/invoke/MethodHandle" ∧ yL_where.cls ≠ "java/lang/invoke/VarHandle") ∧ (parseMethodDescriptor yL_where.desc).map (fun d => d.parameters.length) = some 4 := ⟨(gW_t 501 rfl rfl), (gW_t 0 (by decide +kernel) rfl), ⟨by decide, by decide⟩, by decide +kernel⟩
theorem tL_where : Cond.static yL_where ∈ gWS := (gW_t 500 (by decide +kernel) rfl)
set_option maxRecDepth 40000 in
theorem qL_gap : gcw mL_gap yL_gap ∈ gWS ∧ Cond.initialized yL_gap.cls ∈ gWS ∧ (yL_gap.cls ≠ "java/lang/invoke/MethodHandle" ∧ yL_gap.cls ≠ "java/lang/invoke/VarHandle") ∧ (parseMethodDescriptor yL_gap.desc).map (fun d => d.parameters.length) = some 3 := ⟨(gW_t 517 rfl rfl), (gW_t 0 (by decide +kernel) rfl), ⟨by decide, by decide⟩, by decide +kernel⟩
theorem tL_gap : Cond.static yL_gap ∈ gWS := (gW_t 516 (by decide +kernel) rfl)
set_option maxRecDepth 40000 in
theorem qJ_floorMod : gcw mJ_floorMod yJ_floorMod ∈ gWS ∧ Cond.initialized yJ_floorMod.cls ∈ gWS ∧ (yJ_floorMod.cls ≠ "java/lang/invoke/MethodHandle" ∧ yJ_floorMod.cls ≠ "java/lang/invoke/VarHandle") ∧ (parseMethodDescriptor yJ_floorMod.desc).map (fun d => d.parameters.length) = some 2 := ⟨(gW_t 531 rfl rfl), (gW_t 12 (by decide +kernel) rfl), ⟨by decide, by decide⟩, by decide +kernel⟩
theorem tJ_floorMod : Cond.static yJ_floorMod ∈ gWS := (gW_t 530 (by decide +kernel) rfl)
end
section
/-! calls at their places -/
theorem oX0_3 : Cond.methodLink "RopewayDesk$Cabin" 3 Lib.objectInit ∈ gWS ∧ Cond.instanceMethod Lib.objectInit ∈ gWS ∧ Cond.code Lib.objectInit ⟨#[0xb1]⟩ 1 none ∈ gWS := ⟨(gW_t 33 (by decide +kernel) rfl), (gW_t 19 (by decide +kernel) rfl), (gW_t 20 (by decide +kernel) rfl)⟩
theorem aX0_45 : Cond.methodLink "RopewayDesk$Cabin" 45 Lib.Math.abs.name ∈ gWS ∧ Cond.static Lib.Math.abs.name ∈ gWS ∧ Cond.initialized "java/lang/Math" ∈ gWS ∧ Cond.code Lib.Math.abs.name Lib.Math.abs.code 1 (some .int) ∈ gWS := ⟨(gW_t 347 (by decide +kernel) rfl), (gW_t 348 (by decide +kernel) rfl), (gW_t 12 (by decide +kernel) rfl), (gW_t 349 (by decide +kernel) rfl)⟩
theorem aX0_51 : Cond.methodLink "RopewayDesk$Cabin" 51 Lib.Math.max.name ∈ gWS ∧ Cond.static Lib.Math.max.name ∈ gWS ∧ Cond.initialized "java/lang/Math" ∈ gWS ∧ Cond.code Lib.Math.max.name Lib.Math.max.code 2 (some .int) ∈ gWS := ⟨(gW_t 350 (by decide +kernel) rfl), (gW_t 297 (by decide +kernel) rfl), (gW_t 12 (by decide +kernel) rfl), (gW_t 298 (by decide +kernel) rfl)⟩
theorem oX1_3 : Cond.methodLink "RopewayDesk$Fleet" 3 Lib.objectInit ∈ gWS ∧ Cond.instanceMethod Lib.objectInit ∈ gWS ∧ Cond.code Lib.objectInit ⟨#[0xb1]⟩ 1 none ∈ gWS := ⟨(gW_t 26 (by decide +kernel) rfl), (gW_t 19 (by decide +kernel) rfl), (gW_t 20 (by decide +kernel) rfl)⟩
theorem kX1_17 : Cond.methodLink "RopewayDesk$Fleet" 17 yX0_init ∈ gWS := (gW_t 30 (by decide +kernel) rfl)
theorem sX1_init_31 (l : Launch) : gW (gπ l) "RopewayDesk$Fleet" mX0_init 17 yX0_init 1 := ⟨qX0_init.1, qX0_init.2.1, kX1_17, qX0_init.2.2.1, qX0_init.2.2.2, gWS_good⟩
theorem aX1_30 : Cond.methodLink "RopewayDesk$Fleet" 30 Lib.Math.max.name ∈ gWS ∧ Cond.static Lib.Math.max.name ∈ gWS ∧ Cond.initialized "java/lang/Math" ∈ gWS ∧ Cond.code Lib.Math.max.name Lib.Math.max.code 2 (some .int) ∈ gWS := ⟨(gW_t 296 (by decide +kernel) rfl), (gW_t 297 (by decide +kernel) rfl), (gW_t 12 (by decide +kernel) rfl), (gW_t 298 (by decide +kernel) rfl)⟩
theorem kX1_36 : Cond.methodLink "RopewayDesk$Fleet" 36 yX1_hasLeft ∈ gWS := (gW_t 391 (by decide +kernel) rfl)
theorem sX1_isClear_15 (l : Launch) : gCS (gπ l) mX1_isClear mX1_hasLeft 36 yX1_hasLeft 2 := ⟨⟨qX1_hasLeft.1, qX1_hasLeft.2.1, kX1_36, qX1_hasLeft.2.2.1, qX1_hasLeft.2.2.2, gWS_good⟩, rfl, ⟨by decide, by decide⟩, tX1_hasLeft⟩
theorem sX1_hasNearEnd_15 (l : Launch) : gCS (gπ l) mX1_hasNearEnd mX1_hasLeft 36 yX1_hasLeft 2 := ⟨⟨qX1_hasLeft.1, qX1_hasLeft.2.1, kX1_36, qX1_hasLeft.2.2.1, qX1_hasLeft.2.2.2, gWS_good⟩, rfl, ⟨by decide, by decide⟩, tX1_hasLeft⟩
theorem kX1_40 : Cond.methodLink "RopewayDesk$Fleet" 40 yX1_spot ∈ gWS := (gW_t 526 (by decide +kernel) rfl)
theorem sX1_wayAhead_38 (l : Launch) : gCS (gπ l) mX1_wayAhead mX1_spot 40 yX1_spot 1 := ⟨⟨qX1_spot.1, qX1_spot.2.1, kX1_40, qX1_spot.2.2.1, qX1_spot.2.2.2, gWS_good⟩, rfl, ⟨by decide, by decide⟩, tX1_spot⟩
theorem sX1_wayAhead_42 (l : Launch) : gCS (gπ l) mX1_wayAhead mX1_spot 40 yX1_spot 1 := ⟨⟨qX1_spot.1, qX1_spot.2.1, kX1_40, qX1_spot.2.2.1, qX1_spot.2.2.2, gWS_good⟩, rfl, ⟨by decide, by decide⟩, tX1_spot⟩
theorem kX1_44 : Cond.methodLink "RopewayDesk$Fleet" 44 yJ_floorMod ∈ gWS := (gW_t 529 (by decide +kernel) rfl)
theorem sX1_wayAhead_49 (l : Launch) : gCS (gπ l) mX1_wayAhead mJ_floorMod 44 yJ_floorMod 2 := ⟨⟨qJ_floorMod.1, qJ_floorMod.2.1, kX1_44, qJ_floorMod.2.2.1, qJ_floorMod.2.2.2, gWS_good⟩, rfl, ⟨by decide, by decide⟩, tJ_floorMod⟩
theorem aX1_47 : Cond.methodLink "RopewayDesk$Fleet" 47 Lib.Math.min.name ∈ gWS ∧ Cond.static Lib.Math.min.name ∈ gWS ∧ Cond.initialized "java/lang/Math" ∈ gWS ∧ Cond.code Lib.Math.min.name Lib.Math.min.code 2 (some .int) ∈ gWS := ⟨(gW_t 532 (by decide +kernel) rfl), (gW_t 304 (by decide +kernel) rfl), (gW_t 12 (by decide +kernel) rfl), (gW_t 305 (by decide +kernel) rfl)⟩
theorem oX2_3 : Cond.methodLink "RopewayDesk$Siding" 3 Lib.objectInit ∈ gWS ∧ Cond.instanceMethod Lib.objectInit ∈ gWS ∧ Cond.code Lib.objectInit ⟨#[0xb1]⟩ 1 none ∈ gWS := ⟨(gW_t 98 (by decide +kernel) rfl), (gW_t 19 (by decide +kernel) rfl), (gW_t 20 (by decide +kernel) rfl)⟩
theorem kX2_21 : Cond.methodLink "RopewayDesk$Siding" 21 yX2_hasRoom ∈ gWS := (gW_t 372 (by decide +kernel) rfl)
theorem sX2_append_1 (l : Launch) : gCV (gπ l) mX2_append mX2_hasRoom 21 yX2_hasRoom 0 2 KX2 := ⟨⟨qX2_hasRoom.1, qX2_hasRoom.2.1, kX2_21, qX2_hasRoom.2.2.1, qX2_hasRoom.2.2.2, gWS_good⟩, rfl, ⟨by decide, by decide⟩, ⟨iX2_hasRoom, vX2_hasRoom⟩, rfl⟩
theorem kX2_25 : Cond.methodLink "RopewayDesk$Siding" 25 yX0_standAt ∈ gWS := (gW_t 373 (by decide +kernel) rfl)
theorem sX2_append_9 (l : Launch) : gCV (gπ l) mX2_append mX0_standAt 25 yX0_standAt 1 0 KX0 := ⟨⟨qX0_standAt.1, qX0_standAt.2.1, kX2_25, qX0_standAt.2.2.1, qX0_standAt.2.2.2, gWS_good⟩, rfl, ⟨by decide, by decide⟩, ⟨iX0_standAt, vX0_standAt⟩, rfl⟩
theorem kX2_29 : Cond.methodLink "RopewayDesk$Siding" 29 yX2_placeOf ∈ gWS := (gW_t 468 (by decide +kernel) rfl)
theorem sX2_remove_2 (l : Launch) : gCV (gπ l) mX2_remove mX2_placeOf 29 yX2_placeOf 1 2 KX2 := ⟨⟨qX2_placeOf.1, qX2_placeOf.2.1, kX2_29, qX2_placeOf.2.2.1, qX2_placeOf.2.2.2, gWS_good⟩, rfl, ⟨by decide, by decide⟩, ⟨iX2_placeOf, vX2_placeOf⟩, rfl⟩
theorem oX3_3 : Cond.methodLink "RopewayDesk$Station" 3 Lib.objectInit ∈ gWS ∧ Cond.instanceMethod Lib.objectInit ∈ gWS ∧ Cond.code Lib.objectInit ⟨#[0xb1]⟩ 1 none ∈ gWS := ⟨(gW_t 136 (by decide +kernel) rfl), (gW_t 19 (by decide +kernel) rfl), (gW_t 20 (by decide +kernel) rfl)⟩
theorem kX3_21 : Cond.methodLink "RopewayDesk$Station" 21 yX0_standAt ∈ gWS := (gW_t 284 (by decide +kernel) rfl)
theorem sX3_admit_2 (l : Launch) : gCV (gπ l) mX3_admit mX0_standAt 21 yX0_standAt 1 0 KX0 := ⟨⟨qX0_standAt.1, qX0_standAt.2.1, kX3_21, qX0_standAt.2.2.1, qX0_standAt.2.2.2, gWS_good⟩, rfl, ⟨by decide, by decide⟩, ⟨iX0_standAt, vX0_standAt⟩, rfl⟩
theorem kX3_34 : Cond.methodLink "RopewayDesk$Station" 34 yX3_admit ∈ gWS := (gW_t 330 (by decide +kernel) rfl)
theorem sX3_goOn_43 (l : Launch) : gCV (gπ l) mX3_goOn mX3_admit 34 yX3_admit 2 3 KX3 := ⟨⟨qX3_admit.1, qX3_admit.2.1, kX3_34, qX3_admit.2.2.1, qX3_admit.2.2.2, gWS_good⟩, rfl, ⟨by decide, by decide⟩, ⟨iX3_admit, vX3_admit⟩, rfl⟩
theorem oX4_1 : Cond.methodLink "RopewayDesk$WindBook" 1 Lib.objectInit ∈ gWS ∧ Cond.instanceMethod Lib.objectInit ∈ gWS ∧ Cond.code Lib.objectInit ⟨#[0xb1]⟩ 1 none ∈ gWS := ⟨(gW_t 113 (by decide +kernel) rfl), (gW_t 19 (by decide +kernel) rfl), (gW_t 20 (by decide +kernel) rfl)⟩
theorem kX4_26 : Cond.methodLink "RopewayDesk$WindBook" 26 yX4_sortIn ∈ gWS := (gW_t 430 (by decide +kernel) rfl)
theorem sX4_report_71 (l : Launch) : gCV (gπ l) mX4_report mX4_sortIn 26 yX4_sortIn 2 4 KX4 := ⟨⟨qX4_sortIn.1, qX4_sortIn.2.1, kX4_26, qX4_sortIn.2.2.1, qX4_sortIn.2.2.2, gWS_good⟩, rfl, ⟨by decide, by decide⟩, ⟨iX4_sortIn, vX4_sortIn⟩, rfl⟩
theorem oX5_1 : Cond.methodLink "RopewayDesk" 1 Lib.objectInit ∈ gWS ∧ Cond.instanceMethod Lib.objectInit ∈ gWS ∧ Cond.code Lib.objectInit ⟨#[0xb1]⟩ 1 none ∈ gWS := ⟨(gW_t 18 (by decide +kernel) rfl), (gW_t 19 (by decide +kernel) rfl), (gW_t 20 (by decide +kernel) rfl)⟩
theorem kX5_9 : Cond.methodLink "RopewayDesk" 9 yX1_init ∈ gWS := (gW_t 23 (by decide +kernel) rfl)
theorem sX5_init_9 (l : Launch) : gW (gπ l) "RopewayDesk" mX1_init 9 yX1_init 0 := ⟨qX1_init.1, qX1_init.2.1, kX5_9, qX1_init.2.2.1, qX1_init.2.2.2, gWS_good⟩
theorem sX5_init_28 (l : Launch) : gcw mX2_init yX2_init ∈ (gπ l).2.1 ∧ Cond.initialized yX2_init.cls ∈ (gπ l).2.1 ∧ (mX5_init.1, 24, yX2_init, "RopewayDesk") ∈ (gπ l).2.2.2.2.2 ∧ (yX2_init.cls ≠ "java/lang/invoke/MethodHandle" ∧ yX2_init.cls ≠ "java/lang/invoke/VarHandle") ∧ (parseMethodDescriptor yX2_init.desc).map (fun d => d.parameters.length) = some 0 ∧ (gπ l).2.1.all goodWord = true := ⟨qX2_init.1, qX2_init.2.1, List.mem_of_getElem? (i := 0) rfl, qX2_init.2.2.1, qX2_init.2.2.2, gWS_good⟩
theorem sX5_init_39 (l : Launch) : gcw mX4_init yX4_init ∈ (gπ l).2.1 ∧ Cond.initialized yX4_init.cls ∈ (gπ l).2.1 ∧ (mX5_init.1, 31, yX4_init, "RopewayDesk") ∈ (gπ l).2.2.2.2.2 ∧ (yX4_init.cls ≠ "java/lang/invoke/MethodHandle" ∧ yX4_init.cls ≠ "java/lang/invoke/VarHandle") ∧ (parseMethodDescriptor yX4_init.desc).map (fun d => d.parameters.length) = some 0 ∧ (gπ l).2.1.all goodWord = true := ⟨qX4_init.1, qX4_init.2.1, List.mem_of_getElem? (i := 1) rfl, qX4_init.2.2.1, qX4_init.2.2.2, gWS_good⟩
theorem kX5_55 : Cond.methodLink "RopewayDesk" 55 yX3_init ∈ gWS := (gW_t 133 (by decide +kernel) rfl)
theorem sX5_init_93 (l : Launch) : gW (gπ l) "RopewayDesk" mX3_init 55 yX3_init 1 := ⟨qX3_init.1, qX3_init.2.1, kX5_55, qX3_init.2.2.1, qX3_init.2.2.2, gWS_good⟩
theorem kX5_65 : Cond.methodLink "RopewayDesk" 65 yX5_letGo ∈ gWS := (gW_t 276 (by decide +kernel) rfl)
theorem sX5_pulse_22 (l : Launch) : gCV (gπ l) mX5_pulse mX5_letGo 65 yX5_letGo 0 5 KX5 := ⟨⟨qX5_letGo.1, qX5_letGo.2.1, kX5_65, qX5_letGo.2.2.1, qX5_letGo.2.2.2, gWS_good⟩, rfl, ⟨by decide, by decide⟩, ⟨iX5_letGo, vX5_letGo⟩, rfl⟩
theorem kX5_68 : Cond.methodLink "RopewayDesk" 68 yX5_moveRope ∈ gWS := (gW_t 288 (by decide +kernel) rfl)
theorem sX5_pulse_27 (l : Launch) : gCV (gπ l) mX5_pulse mX5_moveRope 68 yX5_moveRope 1 5 KX5 := ⟨⟨qX5_moveRope.1, qX5_moveRope.2.1, kX5_68, qX5_moveRope.2.2.1, qX5_moveRope.2.2.2, gWS_good⟩, rfl, ⟨by decide, by decide⟩, ⟨iX5_moveRope, vX5_moveRope⟩, rfl⟩
theorem kX5_74 : Cond.methodLink "RopewayDesk" 74 yX5_passOneTick ∈ gWS := (gW_t 318 (by decide +kernel) rfl)
theorem sX5_tick_29 (l : Launch) : gCV (gπ l) mX5_tick mX5_passOneTick 74 yX5_passOneTick 0 5 KX5 := ⟨⟨qX5_passOneTick.1, qX5_passOneTick.2.1, kX5_74, qX5_passOneTick.2.2.1, qX5_passOneTick.2.2.2, gWS_good⟩, rfl, ⟨by decide, by decide⟩, ⟨iX5_passOneTick, vX5_passOneTick⟩, rfl⟩
theorem kX5_77 : Cond.methodLink "RopewayDesk" 77 yX5_checkStation ∈ gWS := (gW_t 413 (by decide +kernel) rfl)
theorem sX5_gauge_1 (l : Launch) : gCS (gπ l) mX5_gauge mX5_checkStation 77 yX5_checkStation 1 := ⟨⟨qX5_checkStation.1, qX5_checkStation.2.1, kX5_77, qX5_checkStation.2.2.1, qX5_checkStation.2.2.2, gWS_good⟩, rfl, ⟨by decide, by decide⟩, tX5_checkStation⟩
theorem kX5_86 : Cond.methodLink "RopewayDesk" 86 yX0_isClamping ∈ gWS := (gW_t 331 (by decide +kernel) rfl)
theorem sX5_gauge_57 (l : Launch) : gCV (gπ l) mX5_gauge mX0_isClamping 86 yX0_isClamping 0 0 KX0 := ⟨⟨qX0_isClamping.1, qX0_isClamping.2.1, kX5_86, qX0_isClamping.2.2.1, qX0_isClamping.2.2.2, gWS_good⟩, rfl, ⟨by decide, by decide⟩, ⟨iX0_isClamping, vX0_isClamping⟩, rfl⟩
theorem kX5_100 : Cond.methodLink "RopewayDesk" 100 yX4_report ∈ gWS := (gW_t 426 (by decide +kernel) rfl)
theorem sX5_wind_26 (l : Launch) : gCV (gπ l) mX5_wind mX4_report 100 yX4_report 1 4 KX4 := ⟨⟨qX4_report.1, qX4_report.2.1, kX5_100, qX4_report.2.2.1, qX4_report.2.2.2, gWS_good⟩, rfl, ⟨by decide, by decide⟩, ⟨iX4_report, vX4_report⟩, rfl⟩
theorem kX5_105 : Cond.methodLink "RopewayDesk" 105 yX5_checkCabin ∈ gWS := (gW_t 449 (by decide +kernel) rfl)
theorem sX5_bring_1 (l : Launch) : gCS (gπ l) mX5_bring mX5_checkCabin 105 yX5_checkCabin 1 := ⟨⟨qX5_checkCabin.1, qX5_checkCabin.2.1, kX5_105, qX5_checkCabin.2.2.1, qX5_checkCabin.2.2.2, gWS_good⟩, rfl, ⟨by decide, by decide⟩, tX5_checkCabin⟩
theorem kX5_114 : Cond.methodLink "RopewayDesk" 114 yX2_hasRoom ∈ gWS := (gW_t 364 (by decide +kernel) rfl)
theorem sX5_bring_25 (l : Launch) : gCV (gπ l) mX5_bring mX2_hasRoom 114 yX2_hasRoom 0 2 KX2 := ⟨⟨qX2_hasRoom.1, qX2_hasRoom.2.1, kX5_114, qX2_hasRoom.2.2.1, qX2_hasRoom.2.2.2, gWS_good⟩, rfl, ⟨by decide, by decide⟩, ⟨iX2_hasRoom, vX2_hasRoom⟩, rfl⟩
theorem kX5_117 : Cond.methodLink "RopewayDesk" 117 yX2_append ∈ gWS := (gW_t 368 (by decide +kernel) rfl)
theorem sX5_bring_38 (l : Launch) : gCV (gπ l) mX5_bring mX2_append 117 yX2_append 1 2 KX2 := ⟨⟨qX2_append.1, qX2_append.2.1, kX5_117, qX2_append.2.2.1, qX2_append.2.2.2, gWS_good⟩, rfl, ⟨by decide, by decide⟩, ⟨iX2_append, vX2_append⟩, rfl⟩
theorem sX5_putOn_1 (l : Launch) : gCS (gπ l) mX5_putOn mX5_checkStation 77 yX5_checkStation 1 := ⟨⟨qX5_checkStation.1, qX5_checkStation.2.1, kX5_77, qX5_checkStation.2.2.1, qX5_checkStation.2.2.2, gWS_good⟩, rfl, ⟨by decide, by decide⟩, tX5_checkStation⟩
theorem sX5_putOn_5 (l : Launch) : gCS (gπ l) mX5_putOn mX5_checkCabin 105 yX5_checkCabin 1 := ⟨⟨qX5_checkCabin.1, qX5_checkCabin.2.1, kX5_105, qX5_checkCabin.2.2.1, qX5_checkCabin.2.2.2, gWS_good⟩, rfl, ⟨by decide, by decide⟩, tX5_checkCabin⟩
theorem kX5_121 : Cond.methodLink "RopewayDesk" 121 yX3_isEmptyUpTo ∈ gWS := (gW_t 460 (by decide +kernel) rfl)
theorem sX5_putOn_37 (l : Launch) : gCV (gπ l) mX5_putOn mX3_isEmptyUpTo 121 yX3_isEmptyUpTo 1 3 KX3 := ⟨⟨qX3_isEmptyUpTo.1, qX3_isEmptyUpTo.2.1, kX5_121, qX3_isEmptyUpTo.2.2.1, qX3_isEmptyUpTo.2.2.2, gWS_good⟩, rfl, ⟨by decide, by decide⟩, ⟨iX3_isEmptyUpTo, vX3_isEmptyUpTo⟩, rfl⟩
theorem kX5_125 : Cond.methodLink "RopewayDesk" 125 yX1_countAt ∈ gWS := (gW_t 194 (by decide +kernel) rfl)
theorem sX5_putOn_50 (l : Launch) : gCV (gπ l) mX5_putOn mX1_countAt 125 yX1_countAt 1 1 KX1 := ⟨⟨qX1_countAt.1, qX1_countAt.2.1, kX5_125, qX1_countAt.2.2.1, qX1_countAt.2.2.2, gWS_good⟩, rfl, ⟨by decide, by decide⟩, ⟨iX1_countAt, vX1_countAt⟩, rfl⟩
theorem sX5_putOn_58 (l : Launch) : gCV (gπ l) mX5_putOn mX1_countAt 125 yX1_countAt 1 1 KX1 := ⟨⟨qX1_countAt.1, qX1_countAt.2.1, kX5_125, qX1_countAt.2.2.1, qX1_countAt.2.2.2, gWS_good⟩, rfl, ⟨by decide, by decide⟩, ⟨iX1_countAt, vX1_countAt⟩, rfl⟩
theorem kX5_128 : Cond.methodLink "RopewayDesk" 128 yX2_remove ∈ gWS := (gW_t 464 (by decide +kernel) rfl)
theorem sX5_putOn_76 (l : Launch) : gCV (gπ l) mX5_putOn mX2_remove 128 yX2_remove 1 2 KX2 := ⟨⟨qX2_remove.1, qX2_remove.2.1, kX5_128, qX2_remove.2.2.1, qX2_remove.2.2.2, gWS_good⟩, rfl, ⟨by decide, by decide⟩, ⟨iX2_remove, vX2_remove⟩, rfl⟩
theorem kX5_131 : Cond.methodLink "RopewayDesk" 131 yX3_admit ∈ gWS := (gW_t 280 (by decide +kernel) rfl)
theorem sX5_putOn_83 (l : Launch) : gCV (gπ l) mX5_putOn mX3_admit 131 yX3_admit 2 3 KX3 := ⟨⟨qX3_admit.1, qX3_admit.2.1, kX5_131, qX3_admit.2.2.1, qX3_admit.2.2.2, gWS_good⟩, rfl, ⟨by decide, by decide⟩, ⟨iX3_admit, vX3_admit⟩, rfl⟩
theorem sX5_takeOff_1 (l : Launch) : gCS (gπ l) mX5_takeOff mX5_checkStation 77 yX5_checkStation 1 := ⟨⟨qX5_checkStation.1, qX5_checkStation.2.1, kX5_77, qX5_checkStation.2.2.1, qX5_checkStation.2.2.2, gWS_good⟩, rfl, ⟨by decide, by decide⟩, tX5_checkStation⟩
theorem sX5_takeOff_5 (l : Launch) : gCS (gπ l) mX5_takeOff mX5_checkCabin 105 yX5_checkCabin 1 := ⟨⟨qX5_checkCabin.1, qX5_checkCabin.2.1, kX5_105, qX5_checkCabin.2.2.1, qX5_checkCabin.2.2.2, gWS_good⟩, rfl, ⟨by decide, by decide⟩, tX5_checkCabin⟩
theorem sX5_takeOff_57 (l : Launch) : gCV (gπ l) mX5_takeOff mX2_hasRoom 114 yX2_hasRoom 0 2 KX2 := ⟨⟨qX2_hasRoom.1, qX2_hasRoom.2.1, kX5_114, qX2_hasRoom.2.2.1, qX2_hasRoom.2.2.2, gWS_good⟩, rfl, ⟨by decide, by decide⟩, ⟨iX2_hasRoom, vX2_hasRoom⟩, rfl⟩
theorem sX5_takeOff_85 (l : Launch) : gCV (gπ l) mX5_takeOff mX2_append 117 yX2_append 1 2 KX2 := ⟨⟨qX2_append.1, qX2_append.2.1, kX5_117, qX2_append.2.2.1, qX2_append.2.2.2, gWS_good⟩, rfl, ⟨by decide, by decide⟩, ⟨iX2_append, vX2_append⟩, rfl⟩
theorem kX5_145 : Cond.methodLink "RopewayDesk" 145 yX5_hasCauseStill ∈ gWS := (gW_t 495 (by decide +kernel) rfl)
theorem sX5_release_34 (l : Launch) : gCV (gπ l) mX5_release mX5_hasCauseStill 145 yX5_hasCauseStill 1 5 KX5 := ⟨⟨qX5_hasCauseStill.1, qX5_hasCauseStill.2.1, kX5_145, qX5_hasCauseStill.2.2.1, qX5_hasCauseStill.2.2.2, gWS_good⟩, rfl, ⟨by decide, by decide⟩, ⟨iX5_hasCauseStill, vX5_hasCauseStill⟩, rfl⟩
theorem sX5_where_1 (l : Launch) : gCS (gπ l) mX5_where mX5_checkCabin 105 yX5_checkCabin 1 := ⟨⟨qX5_checkCabin.1, qX5_checkCabin.2.1, kX5_105, qX5_checkCabin.2.2.1, qX5_checkCabin.2.2.2, gWS_good⟩, rfl, ⟨by decide, by decide⟩, tX5_checkCabin⟩
theorem kX5_148 : Cond.methodLink "RopewayDesk" 148 yX5_spotOf ∈ gWS := (gW_t 506 (by decide +kernel) rfl)
theorem sX5_where_67 (l : Launch) : gCV (gπ l) mX5_where mX5_spotOf 148 yX5_spotOf 1 5 KX5 := ⟨⟨qX5_spotOf.1, qX5_spotOf.2.1, kX5_148, qX5_spotOf.2.2.1, qX5_spotOf.2.2.2, gWS_good⟩, rfl, ⟨by decide, by decide⟩, ⟨iX5_spotOf, vX5_spotOf⟩, rfl⟩
theorem kX5_158 : Cond.methodLink "RopewayDesk" 158 yX0_hasDoorsOpen ∈ gWS := (gW_t 511 (by decide +kernel) rfl)
theorem sX5_where_87 (l : Launch) : gCV (gπ l) mX5_where mX0_hasDoorsOpen 158 yX0_hasDoorsOpen 0 0 KX0 := ⟨⟨qX0_hasDoorsOpen.1, qX0_hasDoorsOpen.2.1, kX5_158, qX0_hasDoorsOpen.2.2.1, qX0_hasDoorsOpen.2.2.2, gWS_good⟩, rfl, ⟨by decide, by decide⟩, ⟨iX0_hasDoorsOpen, vX0_hasDoorsOpen⟩, rfl⟩
theorem sX5_gap_1 (l : Launch) : gCS (gπ l) mX5_gap mX5_checkCabin 105 yX5_checkCabin 1 := ⟨⟨qX5_checkCabin.1, qX5_checkCabin.2.1, kX5_105, qX5_checkCabin.2.2.1, qX5_checkCabin.2.2.2, gWS_good⟩, rfl, ⟨by decide, by decide⟩, tX5_checkCabin⟩
theorem kX5_167 : Cond.methodLink "RopewayDesk" 167 yX1_wayAhead ∈ gWS := (gW_t 522 (by decide +kernel) rfl)
theorem sX5_gap_27 (l : Launch) : gCV (gπ l) mX5_gap mX1_wayAhead 167 yX1_wayAhead 1 1 KX1 := ⟨⟨qX1_wayAhead.1, qX1_wayAhead.2.1, kX5_167, qX1_wayAhead.2.2.1, qX1_wayAhead.2.2.2, gWS_good⟩, rfl, ⟨by decide, by decide⟩, ⟨iX1_wayAhead, vX1_wayAhead⟩, rfl⟩
theorem kX5_170 : Cond.methodLink "RopewayDesk" 170 yX2_cabinAt ∈ gWS := (gW_t 186 (by decide +kernel) rfl)
theorem sX5_sided_5 (l : Launch) : gCV (gπ l) mX5_sided mX2_cabinAt 170 yX2_cabinAt 1 2 KX2 := ⟨⟨qX2_cabinAt.1, qX2_cabinAt.2.1, kX5_170, qX2_cabinAt.2.2.1, qX2_cabinAt.2.2.2, gWS_good⟩, rfl, ⟨by decide, by decide⟩, ⟨iX2_cabinAt, vX2_cabinAt⟩, rfl⟩
theorem sX5_state_92 (l : Launch) : gCV (gπ l) mX5_state mX1_countAt 125 yX1_countAt 1 1 KX1 := ⟨⟨qX1_countAt.1, qX1_countAt.2.1, kX5_125, qX1_countAt.2.2.1, qX1_countAt.2.2.2, gWS_good⟩, rfl, ⟨by decide, by decide⟩, ⟨iX1_countAt, vX1_countAt⟩, rfl⟩
theorem sX5_state_101 (l : Launch) : gCV (gπ l) mX5_state mX1_countAt 125 yX1_countAt 1 1 KX1 := ⟨⟨qX1_countAt.1, qX1_countAt.2.1, kX5_125, qX1_countAt.2.2.1, qX1_countAt.2.2.2, gWS_good⟩, rfl, ⟨by decide, by decide⟩, ⟨iX1_countAt, vX1_countAt⟩, rfl⟩
theorem kX5_183 : Cond.methodLink "RopewayDesk" 183 yX1_tripsOfAll ∈ gWS := (gW_t 198 (by decide +kernel) rfl)
theorem sX5_state_109 (l : Launch) : gCV (gπ l) mX5_state mX1_tripsOfAll 183 yX1_tripsOfAll 0 1 KX1 := ⟨⟨qX1_tripsOfAll.1, qX1_tripsOfAll.2.1, kX5_183, qX1_tripsOfAll.2.2.1, qX1_tripsOfAll.2.2.2, gWS_good⟩, rfl, ⟨by decide, by decide⟩, ⟨iX1_tripsOfAll, vX1_tripsOfAll⟩, rfl⟩
theorem sX5_hasCauseStill_32 (l : Launch) : gCV (gπ l) mX5_hasCauseStill mX2_hasRoom 114 yX2_hasRoom 0 2 KX2 := ⟨⟨qX2_hasRoom.1, qX2_hasRoom.2.1, kX5_114, qX2_hasRoom.2.2.1, qX2_hasRoom.2.2.2, gWS_good⟩, rfl, ⟨by decide, by decide⟩, ⟨iX2_hasRoom, vX2_hasRoom⟩, rfl⟩
theorem kX5_191 : Cond.methodLink "RopewayDesk" 191 yX1_farthest ∈ gWS := (gW_t 292 (by decide +kernel) rfl)
theorem sX5_hasCauseStill_67 (l : Launch) : gCV (gπ l) mX5_hasCauseStill mX1_farthest 191 yX1_farthest 0 1 KX1 := ⟨⟨qX1_farthest.1, qX1_farthest.2.1, kX5_191, qX1_farthest.2.2.1, qX1_farthest.2.2.2, gWS_good⟩, rfl, ⟨by decide, by decide⟩, ⟨iX1_farthest, vX1_farthest⟩, rfl⟩
theorem kX5_194 : Cond.methodLink "RopewayDesk" 194 yX2_placeOf ∈ gWS := (gW_t 510 (by decide +kernel) rfl)
theorem sX5_spotOf_37 (l : Launch) : gCV (gπ l) mX5_spotOf mX2_placeOf 194 yX2_placeOf 1 2 KX2 := ⟨⟨qX2_placeOf.1, qX2_placeOf.2.1, kX5_194, qX2_placeOf.2.2.1, qX2_placeOf.2.2.2, gWS_good⟩, rfl, ⟨by decide, by decide⟩, ⟨iX2_placeOf, vX2_placeOf⟩, rfl⟩
theorem sX5_letGo_60 (l : Launch) : gCV (gπ l) mX5_letGo mX3_admit 131 yX3_admit 2 3 KX3 := ⟨⟨qX3_admit.1, qX3_admit.2.1, kX5_131, qX3_admit.2.2.1, qX3_admit.2.2.2, gWS_good⟩, rfl, ⟨by decide, by decide⟩, ⟨iX3_admit, vX3_admit⟩, rfl⟩
theorem sX5_moveRope_14 (l : Launch) : gCV (gπ l) mX5_moveRope mX1_farthest 191 yX1_farthest 0 1 KX1 := ⟨⟨qX1_farthest.1, qX1_farthest.2.1, kX5_191, qX1_farthest.2.2.1, qX1_farthest.2.2.2, gWS_good⟩, rfl, ⟨by decide, by decide⟩, ⟨iX1_farthest, vX1_farthest⟩, rfl⟩
theorem kX5_200 : Cond.methodLink "RopewayDesk" 200 yX5_lock ∈ gWS := (gW_t 299 (by decide +kernel) rfl)
theorem sX5_moveRope_25 (l : Launch) : gCV (gπ l) mX5_moveRope mX5_lock 200 yX5_lock 1 5 KX5 := ⟨⟨qX5_lock.1, qX5_lock.2.1, kX5_200, qX5_lock.2.2.1, qX5_lock.2.2.2, gWS_good⟩, rfl, ⟨by decide, by decide⟩, ⟨iX5_lock, vX5_lock⟩, rfl⟩
theorem aX5_203 : Cond.methodLink "RopewayDesk" 203 Lib.Math.min.name ∈ gWS ∧ Cond.static Lib.Math.min.name ∈ gWS ∧ Cond.initialized "java/lang/Math" ∈ gWS ∧ Cond.code Lib.Math.min.name Lib.Math.min.code 2 (some .int) ∈ gWS := ⟨(gW_t 303 (by decide +kernel) rfl), (gW_t 304 (by decide +kernel) rfl), (gW_t 12 (by decide +kernel) rfl), (gW_t 305 (by decide +kernel) rfl)⟩
theorem kX5_209 : Cond.methodLink "RopewayDesk" 209 yX1_advance ∈ gWS := (gW_t 306 (by decide +kernel) rfl)
theorem sX5_moveRope_45 (l : Launch) : gCV (gπ l) mX5_moveRope mX1_advance 209 yX1_advance 1 1 KX1 := ⟨⟨qX1_advance.1, qX1_advance.2.1, kX5_209, qX1_advance.2.2.1, qX1_advance.2.2.2, gWS_good⟩, rfl, ⟨by decide, by decide⟩, ⟨iX1_advance, vX1_advance⟩, rfl⟩
theorem sX5_moveRope_49 (l : Launch) : gCV (gπ l) mX5_moveRope mX5_letGo 65 yX5_letGo 0 5 KX5 := ⟨⟨qX5_letGo.1, qX5_letGo.2.1, kX5_65, qX5_letGo.2.2.1, qX5_letGo.2.2.2, gWS_good⟩, rfl, ⟨by decide, by decide⟩, ⟨iX5_letGo, vX5_letGo⟩, rfl⟩
theorem sX5_passOneTick_15 (l : Launch) : gCV (gπ l) mX5_passOneTick mX5_lock 200 yX5_lock 1 5 KX5 := ⟨⟨qX5_lock.1, qX5_lock.2.1, kX5_200, qX5_lock.2.2.1, qX5_lock.2.2.2, gWS_good⟩, rfl, ⟨by decide, by decide⟩, ⟨iX5_lock, vX5_lock⟩, rfl⟩
theorem kX5_212 : Cond.methodLink "RopewayDesk" 212 yX5_workZones ∈ gWS := (gW_t 322 (by decide +kernel) rfl)
theorem sX5_passOneTick_32 (l : Launch) : gCV (gπ l) mX5_passOneTick mX5_workZones 212 yX5_workZones 1 5 KX5 := ⟨⟨qX5_workZones.1, qX5_workZones.2.1, kX5_212, qX5_workZones.2.2.1, qX5_workZones.2.2.2, gWS_good⟩, rfl, ⟨by decide, by decide⟩, ⟨iX5_workZones, vX5_workZones⟩, rfl⟩
theorem kX5_216 : Cond.methodLink "RopewayDesk" 216 yX5_targetSpeed ∈ gWS := (gW_t 394 (by decide +kernel) rfl)
theorem sX5_passOneTick_42 (l : Launch) : gCV (gπ l) mX5_passOneTick mX5_targetSpeed 216 yX5_targetSpeed 0 5 KX5 := ⟨⟨qX5_targetSpeed.1, qX5_targetSpeed.2.1, kX5_216, qX5_targetSpeed.2.2.1, qX5_targetSpeed.2.2.2, gWS_good⟩, rfl, ⟨by decide, by decide⟩, ⟨iX5_targetSpeed, vX5_targetSpeed⟩, rfl⟩
theorem kX5_219 : Cond.methodLink "RopewayDesk" 219 yX3_goOn ∈ gWS := (gW_t 326 (by decide +kernel) rfl)
theorem sX5_workZones_37 (l : Launch) : gCV (gπ l) mX5_workZones mX3_goOn 219 yX3_goOn 1 3 KX3 := ⟨⟨qX3_goOn.1, qX3_goOn.2.1, kX5_219, qX3_goOn.2.2.1, qX3_goOn.2.2.2, gWS_good⟩, rfl, ⟨by decide, by decide⟩, ⟨iX3_goOn, vX3_goOn⟩, rfl⟩
theorem sX5_workZones_44 (l : Launch) : gCV (gπ l) mX5_workZones mX0_isClamping 86 yX0_isClamping 0 0 KX0 := ⟨⟨qX0_isClamping.1, qX0_isClamping.2.1, kX5_86, qX0_isClamping.2.2.1, qX0_isClamping.2.2.2, gWS_good⟩, rfl, ⟨by decide, by decide⟩, ⟨iX0_isClamping, vX0_isClamping⟩, rfl⟩
theorem kX5_222 : Cond.methodLink "RopewayDesk" 222 yX5_goOnClamping ∈ gWS := (gW_t 335 (by decide +kernel) rfl)
theorem sX5_workZones_53 (l : Launch) : gCV (gπ l) mX5_workZones mX5_goOnClamping 222 yX5_goOnClamping 2 5 KX5 := ⟨⟨qX5_goOnClamping.1, qX5_goOnClamping.2.1, kX5_222, qX5_goOnClamping.2.2.1, qX5_goOnClamping.2.2.2, gWS_good⟩, rfl, ⟨by decide, by decide⟩, ⟨iX5_goOnClamping, vX5_goOnClamping⟩, rfl⟩
theorem kX5_226 : Cond.methodLink "RopewayDesk" 226 yX5_mayClamp ∈ gWS := (gW_t 374 (by decide +kernel) rfl)
theorem sX5_workZones_62 (l : Launch) : gCV (gπ l) mX5_workZones mX5_mayClamp 226 yX5_mayClamp 2 5 KX5 := ⟨⟨qX5_mayClamp.1, qX5_mayClamp.2.1, kX5_226, qX5_mayClamp.2.2.1, qX5_mayClamp.2.2.2, gWS_good⟩, rfl, ⟨by decide, by decide⟩, ⟨iX5_mayClamp, vX5_mayClamp⟩, rfl⟩
theorem kX5_231 : Cond.methodLink "RopewayDesk" 231 yX5_spacing ∈ gWS := (gW_t 378 (by decide +kernel) rfl)
theorem sX5_mayClamp_26 (l : Launch) : gCV (gπ l) mX5_mayClamp mX5_spacing 231 yX5_spacing 1 5 KX5 := ⟨⟨qX5_spacing.1, qX5_spacing.2.1, kX5_231, qX5_spacing.2.2.1, qX5_spacing.2.2.2, gWS_good⟩, rfl, ⟨by decide, by decide⟩, ⟨iX5_spacing, vX5_spacing⟩, rfl⟩
theorem kX5_235 : Cond.methodLink "RopewayDesk" 235 yX1_isClear ∈ gWS := (gW_t 387 (by decide +kernel) rfl)
theorem sX5_mayClamp_29 (l : Launch) : gCV (gπ l) mX5_mayClamp mX1_isClear 235 yX1_isClear 2 1 KX1 := ⟨⟨qX1_isClear.1, qX1_isClear.2.1, kX5_235, qX1_isClear.2.2.1, qX1_isClear.2.2.2, gWS_good⟩, rfl, ⟨by decide, by decide⟩, ⟨iX1_isClear, vX1_isClear⟩, rfl⟩
theorem kX5_239 : Cond.methodLink "RopewayDesk" 239 yX3_count ∈ gWS := (gW_t 382 (by decide +kernel) rfl)
theorem sX5_spacing_1 (l : Launch) : gCV (gπ l) mX5_spacing mX3_count 239 yX3_count 0 3 KX3 := ⟨⟨qX3_count.1, qX3_count.2.1, kX5_239, qX3_count.2.2.1, qX3_count.2.2.2, gWS_good⟩, rfl, ⟨by decide, by decide⟩, ⟨iX3_count, vX3_count⟩, rfl⟩
theorem aX5_242 : Cond.methodLink "RopewayDesk" 242 Lib.Math.max.name ∈ gWS ∧ Cond.static Lib.Math.max.name ∈ gWS ∧ Cond.initialized "java/lang/Math" ∈ gWS ∧ Cond.code Lib.Math.max.name Lib.Math.max.code 2 (some .int) ∈ gWS := ⟨(gW_t 386 (by decide +kernel) rfl), (gW_t 297 (by decide +kernel) rfl), (gW_t 12 (by decide +kernel) rfl), (gW_t 298 (by decide +kernel) rfl)⟩
theorem kX5_245 : Cond.methodLink "RopewayDesk" 245 yX0_hasReport ∈ gWS := (gW_t 339 (by decide +kernel) rfl)
theorem sX5_goOnClamping_11 (l : Launch) : gCV (gπ l) mX5_goOnClamping mX0_hasReport 245 yX0_hasReport 0 0 KX0 := ⟨⟨qX0_hasReport.1, qX0_hasReport.2.1, kX5_245, qX0_hasReport.2.2.1, qX0_hasReport.2.2.2, gWS_good⟩, rfl, ⟨by decide, by decide⟩, ⟨iX0_hasReport, vX0_hasReport⟩, rfl⟩
theorem kX5_248 : Cond.methodLink "RopewayDesk" 248 yX0_faultOfReport ∈ gWS := (gW_t 343 (by decide +kernel) rfl)
theorem sX5_goOnClamping_18 (l : Launch) : gCV (gπ l) mX5_goOnClamping mX0_faultOfReport 248 yX0_faultOfReport 0 0 KX0 := ⟨⟨qX0_faultOfReport.1, qX0_faultOfReport.2.1, kX5_248, qX0_faultOfReport.2.2.1, qX0_faultOfReport.2.2.2, gWS_good⟩, rfl, ⟨by decide, by decide⟩, ⟨iX0_faultOfReport, vX0_faultOfReport⟩, rfl⟩
theorem kX5_251 : Cond.methodLink "RopewayDesk" 251 yX5_leave ∈ gWS := (gW_t 351 (by decide +kernel) rfl)
theorem sX5_goOnClamping_29 (l : Launch) : gCV (gπ l) mX5_goOnClamping mX5_leave 251 yX5_leave 2 5 KX5 := ⟨⟨qX5_leave.1, qX5_leave.2.1, kX5_251, qX5_leave.2.2.1, qX5_leave.2.2.2, gWS_good⟩, rfl, ⟨by decide, by decide⟩, ⟨iX5_leave, vX5_leave⟩, rfl⟩
theorem kX5_254 : Cond.methodLink "RopewayDesk" 254 yX5_fail ∈ gWS := (gW_t 360 (by decide +kernel) rfl)
theorem sX5_goOnClamping_39 (l : Launch) : gCV (gπ l) mX5_goOnClamping mX5_fail 254 yX5_fail 3 5 KX5 := ⟨⟨qX5_fail.1, qX5_fail.2.1, kX5_254, qX5_fail.2.2.1, qX5_fail.2.2.2, gWS_good⟩, rfl, ⟨by decide, by decide⟩, ⟨iX5_fail, vX5_fail⟩, rfl⟩
theorem sX5_goOnClamping_58 (l : Launch) : gCV (gπ l) mX5_goOnClamping mX5_fail 254 yX5_fail 3 5 KX5 := ⟨⟨qX5_fail.1, qX5_fail.2.1, kX5_254, qX5_fail.2.2.1, qX5_fail.2.2.2, gWS_good⟩, rfl, ⟨by decide, by decide⟩, ⟨iX5_fail, vX5_fail⟩, rfl⟩
theorem kX5_258 : Cond.methodLink "RopewayDesk" 258 yX0_stopClamping ∈ gWS := (gW_t 355 (by decide +kernel) rfl)
theorem sX5_leave_9 (l : Launch) : gCV (gπ l) mX5_leave mX0_stopClamping 258 yX0_stopClamping 0 0 KX0 := ⟨⟨qX0_stopClamping.1, qX0_stopClamping.2.1, kX5_258, qX0_stopClamping.2.2.1, qX0_stopClamping.2.2.2, gWS_good⟩, rfl, ⟨by decide, by decide⟩, ⟨iX0_stopClamping, vX0_stopClamping⟩, rfl⟩
theorem kX5_261 : Cond.methodLink "RopewayDesk" 261 yX0_standAt ∈ gWS := (gW_t 359 (by decide +kernel) rfl)
theorem sX5_leave_14 (l : Launch) : gCV (gπ l) mX5_leave mX0_standAt 261 yX0_standAt 1 0 KX0 := ⟨⟨qX0_standAt.1, qX0_standAt.2.1, kX5_261, qX0_standAt.2.2.1, qX0_standAt.2.2.2, gWS_good⟩, rfl, ⟨by decide, by decide⟩, ⟨iX0_standAt, vX0_standAt⟩, rfl⟩
theorem sX5_fail_6 (l : Launch) : gCV (gπ l) mX5_fail mX0_stopClamping 258 yX0_stopClamping 0 0 KX0 := ⟨⟨qX0_stopClamping.1, qX0_stopClamping.2.1, kX5_258, qX0_stopClamping.2.2.1, qX0_stopClamping.2.2.2, gWS_good⟩, rfl, ⟨by decide, by decide⟩, ⟨iX0_stopClamping, vX0_stopClamping⟩, rfl⟩
theorem sX5_fail_11 (l : Launch) : gCV (gπ l) mX5_fail mX5_lock 200 yX5_lock 1 5 KX5 := ⟨⟨qX5_lock.1, qX5_lock.2.1, kX5_200, qX5_lock.2.2.1, qX5_lock.2.2.2, gWS_good⟩, rfl, ⟨by decide, by decide⟩, ⟨iX5_lock, vX5_lock⟩, rfl⟩
theorem sX5_fail_18 (l : Launch) : gCV (gπ l) mX5_fail mX2_hasRoom 114 yX2_hasRoom 0 2 KX2 := ⟨⟨qX2_hasRoom.1, qX2_hasRoom.2.1, kX5_114, qX2_hasRoom.2.2.1, qX2_hasRoom.2.2.2, gWS_good⟩, rfl, ⟨by decide, by decide⟩, ⟨iX2_hasRoom, vX2_hasRoom⟩, rfl⟩
theorem sX5_fail_37 (l : Launch) : gCV (gπ l) mX5_fail mX2_append 117 yX2_append 1 2 KX2 := ⟨⟨qX2_append.1, qX2_append.2.1, kX5_117, qX2_append.2.2.1, qX2_append.2.2.2, gWS_good⟩, rfl, ⟨by decide, by decide⟩, ⟨iX2_append, vX2_append⟩, rfl⟩
theorem sX5_fail_45 (l : Launch) : gCV (gπ l) mX5_fail mX5_lock 200 yX5_lock 1 5 KX5 := ⟨⟨qX5_lock.1, qX5_lock.2.1, kX5_200, qX5_lock.2.2.1, qX5_lock.2.2.2, gWS_good⟩, rfl, ⟨by decide, by decide⟩, ⟨iX5_lock, vX5_lock⟩, rfl⟩
theorem kX5_264 : Cond.methodLink "RopewayDesk" 264 yX5_isArrivalHeldUp ∈ gWS := (gW_t 398 (by decide +kernel) rfl)
theorem sX5_targetSpeed_8 (l : Launch) : gCV (gπ l) mX5_targetSpeed mX5_isArrivalHeldUp 264 yX5_isArrivalHeldUp 0 5 KX5 := ⟨⟨qX5_isArrivalHeldUp.1, qX5_isArrivalHeldUp.2.1, kX5_264, qX5_isArrivalHeldUp.2.2.1, qX5_isArrivalHeldUp.2.2.2, gWS_good⟩, rfl, ⟨by decide, by decide⟩, ⟨iX5_isArrivalHeldUp, vX5_isArrivalHeldUp⟩, rfl⟩
theorem kX5_267 : Cond.methodLink "RopewayDesk" 267 yX1_hasNearEnd ∈ gWS := (gW_t 402 (by decide +kernel) rfl)
theorem sX5_isArrivalHeldUp_28 (l : Launch) : gCV (gπ l) mX5_isArrivalHeldUp mX1_hasNearEnd 267 yX1_hasNearEnd 1 1 KX1 := ⟨⟨qX1_hasNearEnd.1, qX1_hasNearEnd.2.1, kX5_267, qX1_hasNearEnd.2.2.1, qX1_hasNearEnd.2.2.2, gWS_good⟩, rfl, ⟨by decide, by decide⟩, ⟨iX1_hasNearEnd, vX1_hasNearEnd⟩, rfl⟩
theorem oX6_1 : Cond.methodLink "RopewayDeskModel" 1 Lib.objectInit ∈ gWS ∧ Cond.instanceMethod Lib.objectInit ∈ gWS ∧ Cond.code Lib.objectInit ⟨#[0xb1]⟩ 1 none ∈ gWS := ⟨(gW_t 538 (by decide +kernel) rfl), (gW_t 19 (by decide +kernel) rfl), (gW_t 20 (by decide +kernel) rfl)⟩
theorem kX6_50 : Cond.methodLink "RopewayDeskModel" 50 yX6_isIn ∈ gWS := (gW_t 608 (by decide +kernel) rfl)
theorem sX6_isCabin_4 (l : Launch) : gCS (gπ l) mX6_isCabin mX6_isIn 50 yX6_isIn 3 := ⟨⟨qX6_isIn.1, qX6_isIn.2.1, kX6_50, qX6_isIn.2.2.1, qX6_isIn.2.2.2, gWS_good⟩, rfl, ⟨by decide, by decide⟩, tX6_isIn⟩
theorem sX6_isStation_3 (l : Launch) : gCS (gπ l) mX6_isStation mX6_isIn 50 yX6_isIn 3 := ⟨⟨qX6_isIn.1, qX6_isIn.2.1, kX6_50, qX6_isIn.2.2.1, qX6_isIn.2.2.2, gWS_good⟩, rfl, ⟨by decide, by decide⟩, tX6_isIn⟩
theorem kX6_54 : Cond.methodLink "RopewayDeskModel" 54 yX6_in ∈ gWS := (gW_t 619 (by decide +kernel) rfl)
theorem sX6_letGo_40 (l : Launch) : gCV (gπ l) mX6_letGo mX6_in 54 yX6_in 2 6 KX6 := ⟨⟨qX6_in.1, qX6_in.2.1, kX6_54, qX6_in.2.2.1, qX6_in.2.2.2, gWS_good⟩, rfl, ⟨by decide, by decide⟩, ⟨iX6_in, vX6_in⟩, rfl⟩
theorem kX6_58 : Cond.methodLink "RopewayDeskModel" 58 yX6_enter ∈ gWS := (gW_t 623 (by decide +kernel) rfl)
theorem sX6_letGo_60 (l : Launch) : gCV (gπ l) mX6_letGo mX6_enter 58 yX6_enter 3 6 KX6 := ⟨⟨qX6_enter.1, qX6_enter.2.1, kX6_58, qX6_enter.2.2.1, qX6_enter.2.2.2, gWS_good⟩, rfl, ⟨by decide, by decide⟩, ⟨iX6_enter, vX6_enter⟩, rfl⟩
theorem sX6_pulse_6 (l : Launch) : gCS (gπ l) mX6_pulse mX6_isIn 50 yX6_isIn 3 := ⟨⟨qX6_isIn.1, qX6_isIn.2.1, kX6_50, qX6_isIn.2.2.1, qX6_isIn.2.2.2, gWS_good⟩, rfl, ⟨by decide, by decide⟩, tX6_isIn⟩
theorem kX6_62 : Cond.methodLink "RopewayDeskModel" 62 yX6_fails ∈ gWS := (gW_t 611 (by decide +kernel) rfl)
theorem sX6_pulse_17 (l : Launch) : gCV (gπ l) mX6_pulse mX6_fails 62 yX6_fails 1 6 KX6 := ⟨⟨qX6_fails.1, qX6_fails.2.1, kX6_62, qX6_fails.2.2.1, qX6_fails.2.2.2, gWS_good⟩, rfl, ⟨by decide, by decide⟩, ⟨iX6_fails, vX6_fails⟩, rfl⟩
theorem kX6_66 : Cond.methodLink "RopewayDeskModel" 66 yX6_letGo ∈ gWS := (gW_t 615 (by decide +kernel) rfl)
theorem sX6_pulse_26 (l : Launch) : gCV (gπ l) mX6_pulse mX6_letGo 66 yX6_letGo 0 6 KX6 := ⟨⟨qX6_letGo.1, qX6_letGo.2.1, kX6_66, qX6_letGo.2.2.1, qX6_letGo.2.2.2, gWS_good⟩, rfl, ⟨by decide, by decide⟩, ⟨iX6_letGo, vX6_letGo⟩, rfl⟩
theorem kX6_69 : Cond.methodLink "RopewayDeskModel" 69 yX6_isOver ∈ gWS := (gW_t 627 (by decide +kernel) rfl)
theorem sX6_pulse_37 (l : Launch) : gCV (gπ l) mX6_pulse mX6_isOver 69 yX6_isOver 0 6 KX6 := ⟨⟨qX6_isOver.1, qX6_isOver.2.1, kX6_69, qX6_isOver.2.2.1, qX6_isOver.2.2.2, gWS_good⟩, rfl, ⟨by decide, by decide⟩, ⟨iX6_isOver, vX6_isOver⟩, rfl⟩
theorem sX6_pulse_85 (l : Launch) : gCV (gπ l) mX6_pulse mX6_letGo 66 yX6_letGo 0 6 KX6 := ⟨⟨qX6_letGo.1, qX6_letGo.2.1, kX6_66, qX6_letGo.2.2.1, qX6_letGo.2.2.2, gWS_good⟩, rfl, ⟨by decide, by decide⟩, ⟨iX6_letGo, vX6_letGo⟩, rfl⟩
theorem kX6_85 : Cond.methodLink "RopewayDeskModel" 85 yX6_inZones ∈ gWS := (gW_t 659 (by decide +kernel) rfl)
theorem sX6_isTooNear_2 (l : Launch) : gCV (gπ l) mX6_isTooNear mX6_inZones 85 yX6_inZones 1 6 KX6 := ⟨⟨qX6_inZones.1, qX6_inZones.2.1, kX6_85, qX6_inZones.2.2.1, qX6_inZones.2.2.2, gWS_good⟩, rfl, ⟨by decide, by decide⟩, ⟨iX6_inZones, vX6_inZones⟩, rfl⟩
theorem kX6_89 : Cond.methodLink "RopewayDeskModel" 89 yX6_toSiding ∈ gWS := (gW_t 651 (by decide +kernel) rfl)
theorem sX6_clamp_237 (l : Launch) : gCV (gπ l) mX6_clamp mX6_toSiding 89 yX6_toSiding 1 6 KX6 := ⟨⟨qX6_toSiding.1, qX6_toSiding.2.1, kX6_89, qX6_toSiding.2.2.1, qX6_toSiding.2.2.2, gWS_good⟩, rfl, ⟨by decide, by decide⟩, ⟨iX6_toSiding, vX6_toSiding⟩, rfl⟩
theorem sX6_work_3 (l : Launch) : gCV (gπ l) mX6_work mX6_in 54 yX6_in 2 6 KX6 := ⟨⟨qX6_in.1, qX6_in.2.1, kX6_54, qX6_in.2.2.1, qX6_in.2.2.2, gWS_good⟩, rfl, ⟨by decide, by decide⟩, ⟨iX6_in, vX6_in⟩, rfl⟩
theorem sX6_work_44 (l : Launch) : gCV (gπ l) mX6_work mX6_in 54 yX6_in 2 6 KX6 := ⟨⟨qX6_in.1, qX6_in.2.1, kX6_54, qX6_in.2.2.1, qX6_in.2.2.2, gWS_good⟩, rfl, ⟨by decide, by decide⟩, ⟨iX6_in, vX6_in⟩, rfl⟩
theorem sX6_work_56 (l : Launch) : gCV (gπ l) mX6_work mX6_enter 58 yX6_enter 3 6 KX6 := ⟨⟨qX6_enter.1, qX6_enter.2.1, kX6_58, qX6_enter.2.2.1, qX6_enter.2.2.2, gWS_good⟩, rfl, ⟨by decide, by decide⟩, ⟨iX6_enter, vX6_enter⟩, rfl⟩
theorem kX6_93 : Cond.methodLink "RopewayDeskModel" 93 yX6_clamp ∈ gWS := (gW_t 647 (by decide +kernel) rfl)
theorem sX6_work_73 (l : Launch) : gCV (gπ l) mX6_work mX6_clamp 93 yX6_clamp 1 6 KX6 := ⟨⟨qX6_clamp.1, qX6_clamp.2.1, kX6_93, qX6_clamp.2.2.1, qX6_clamp.2.2.2, gWS_good⟩, rfl, ⟨by decide, by decide⟩, ⟨iX6_clamp, vX6_clamp⟩, rfl⟩
theorem kX6_96 : Cond.methodLink "RopewayDeskModel" 96 yX6_isTooNear ∈ gWS := (gW_t 655 (by decide +kernel) rfl)
theorem sX6_work_99 (l : Launch) : gCV (gπ l) mX6_work mX6_isTooNear 96 yX6_isTooNear 1 6 KX6 := ⟨⟨qX6_isTooNear.1, qX6_isTooNear.2.1, kX6_96, qX6_isTooNear.2.2.1, qX6_isTooNear.2.2.2, gWS_good⟩, rfl, ⟨by decide, by decide⟩, ⟨iX6_isTooNear, vX6_isTooNear⟩, rfl⟩
theorem sX6_isWaiting_40 (l : Launch) : gCV (gπ l) mX6_isWaiting mX6_in 54 yX6_in 2 6 KX6 := ⟨⟨qX6_in.1, qX6_in.2.1, kX6_54, qX6_in.2.2.1, qX6_in.2.2.2, gWS_good⟩, rfl, ⟨by decide, by decide⟩, ⟨iX6_in, vX6_in⟩, rfl⟩
theorem kX6_100 : Cond.methodLink "RopewayDeskModel" 100 yX6_middle ∈ gWS := (gW_t 639 (by decide +kernel) rfl)
theorem sX6_one_1 (l : Launch) : gCV (gπ l) mX6_one mX6_middle 100 yX6_middle 0 6 KX6 := ⟨⟨qX6_middle.1, qX6_middle.2.1, kX6_100, qX6_middle.2.2.1, qX6_middle.2.2.2, gWS_good⟩, rfl, ⟨by decide, by decide⟩, ⟨iX6_middle, vX6_middle⟩, rfl⟩
theorem kX6_104 : Cond.methodLink "RopewayDeskModel" 104 yX6_work ∈ gWS := (gW_t 643 (by decide +kernel) rfl)
theorem sX6_one_37 (l : Launch) : gCV (gπ l) mX6_one mX6_work 104 yX6_work 2 6 KX6 := ⟨⟨qX6_work.1, qX6_work.2.1, kX6_104, qX6_work.2.2.1, qX6_work.2.2.2, gWS_good⟩, rfl, ⟨by decide, by decide⟩, ⟨iX6_work, vX6_work⟩, rfl⟩
theorem kX6_108 : Cond.methodLink "RopewayDeskModel" 108 yX6_isWaiting ∈ gWS := (gW_t 663 (by decide +kernel) rfl)
theorem sX6_one_60 (l : Launch) : gCV (gπ l) mX6_one mX6_isWaiting 108 yX6_isWaiting 0 6 KX6 := ⟨⟨qX6_isWaiting.1, qX6_isWaiting.2.1, kX6_108, qX6_isWaiting.2.2.1, qX6_isWaiting.2.2.2, gWS_good⟩, rfl, ⟨by decide, by decide⟩, ⟨iX6_isWaiting, vX6_isWaiting⟩, rfl⟩
theorem sX6_one_71 (l : Launch) : gCV (gπ l) mX6_one mX6_middle 100 yX6_middle 0 6 KX6 := ⟨⟨qX6_middle.1, qX6_middle.2.1, kX6_100, qX6_middle.2.2.1, qX6_middle.2.2.2, gWS_good⟩, rfl, ⟨by decide, by decide⟩, ⟨iX6_middle, vX6_middle⟩, rfl⟩
theorem sX6_tick_5 (l : Launch) : gCS (gπ l) mX6_tick mX6_isIn 50 yX6_isIn 3 := ⟨⟨qX6_isIn.1, qX6_isIn.2.1, kX6_50, qX6_isIn.2.2.1, qX6_isIn.2.2.2, gWS_good⟩, rfl, ⟨by decide, by decide⟩, tX6_isIn⟩
theorem sX6_tick_16 (l : Launch) : gCV (gπ l) mX6_tick mX6_fails 62 yX6_fails 1 6 KX6 := ⟨⟨qX6_fails.1, qX6_fails.2.1, kX6_62, qX6_fails.2.2.1, qX6_fails.2.2.2, gWS_good⟩, rfl, ⟨by decide, by decide⟩, ⟨iX6_fails, vX6_fails⟩, rfl⟩
theorem kX6_120 : Cond.methodLink "RopewayDeskModel" 120 yX6_one ∈ gWS := (gW_t 635 (by decide +kernel) rfl)
theorem sX6_tick_32 (l : Launch) : gCV (gπ l) mX6_tick mX6_one 120 yX6_one 0 6 KX6 := ⟨⟨qX6_one.1, qX6_one.2.1, kX6_120, qX6_one.2.2.1, qX6_one.2.2.2, gWS_good⟩, rfl, ⟨by decide, by decide⟩, ⟨iX6_one, vX6_one⟩, rfl⟩
theorem kX6_123 : Cond.methodLink "RopewayDeskModel" 123 yX6_isStation ∈ gWS := (gW_t 671 (by decide +kernel) rfl)
theorem sX6_gauge_2 (l : Launch) : gCS (gπ l) mX6_gauge mX6_isStation 123 yX6_isStation 1 := ⟨⟨qX6_isStation.1, qX6_isStation.2.1, kX6_123, qX6_isStation.2.2.1, qX6_isStation.2.2.2, gWS_good⟩, rfl, ⟨by decide, by decide⟩, tX6_isStation⟩
theorem sX6_gauge_13 (l : Launch) : gCS (gπ l) mX6_gauge mX6_isIn 50 yX6_isIn 3 := ⟨⟨qX6_isIn.1, qX6_isIn.2.1, kX6_50, qX6_isIn.2.2.1, qX6_isIn.2.2.2, gWS_good⟩, rfl, ⟨by decide, by decide⟩, tX6_isIn⟩
theorem sX6_gauge_24 (l : Launch) : gCS (gπ l) mX6_gauge mX6_isIn 50 yX6_isIn 3 := ⟨⟨qX6_isIn.1, qX6_isIn.2.1, kX6_50, qX6_isIn.2.2.1, qX6_isIn.2.2.2, gWS_good⟩, rfl, ⟨by decide, by decide⟩, tX6_isIn⟩
theorem sX6_gauge_35 (l : Launch) : gCV (gπ l) mX6_gauge mX6_fails 62 yX6_fails 1 6 KX6 := ⟨⟨qX6_fails.1, qX6_fails.2.1, kX6_62, qX6_fails.2.2.1, qX6_fails.2.2.2, gWS_good⟩, rfl, ⟨by decide, by decide⟩, ⟨iX6_fails, vX6_fails⟩, rfl⟩
theorem sX6_gauge_47 (l : Launch) : gCV (gπ l) mX6_gauge mX6_in 54 yX6_in 2 6 KX6 := ⟨⟨qX6_in.1, qX6_in.2.1, kX6_54, qX6_in.2.2.1, qX6_in.2.2.2, gWS_good⟩, rfl, ⟨by decide, by decide⟩, ⟨iX6_in, vX6_in⟩, rfl⟩
theorem sX6_wind_6 (l : Launch) : gCS (gπ l) mX6_wind mX6_isIn 50 yX6_isIn 3 := ⟨⟨qX6_isIn.1, qX6_isIn.2.1, kX6_50, qX6_isIn.2.2.1, qX6_isIn.2.2.2, gWS_good⟩, rfl, ⟨by decide, by decide⟩, tX6_isIn⟩
theorem sX6_wind_17 (l : Launch) : gCV (gπ l) mX6_wind mX6_fails 62 yX6_fails 1 6 KX6 := ⟨⟨qX6_fails.1, qX6_fails.2.1, kX6_62, qX6_fails.2.2.1, qX6_fails.2.2.2, gWS_good⟩, rfl, ⟨by decide, by decide⟩, ⟨iX6_fails, vX6_fails⟩, rfl⟩
theorem sX6_drive_4 (l : Launch) : gCS (gπ l) mX6_drive mX6_isIn 50 yX6_isIn 3 := ⟨⟨qX6_isIn.1, qX6_isIn.2.1, kX6_50, qX6_isIn.2.2.1, qX6_isIn.2.2.2, gWS_good⟩, rfl, ⟨by decide, by decide⟩, tX6_isIn⟩
theorem sX6_drive_15 (l : Launch) : gCV (gπ l) mX6_drive mX6_fails 62 yX6_fails 1 6 KX6 := ⟨⟨qX6_fails.1, qX6_fails.2.1, kX6_62, qX6_fails.2.2.1, qX6_fails.2.2.2, gWS_good⟩, rfl, ⟨by decide, by decide⟩, ⟨iX6_fails, vX6_fails⟩, rfl⟩
theorem kX6_126 : Cond.methodLink "RopewayDeskModel" 126 yX6_isCabin ∈ gWS := (gW_t 686 (by decide +kernel) rfl)
theorem sX6_bring_2 (l : Launch) : gCS (gπ l) mX6_bring mX6_isCabin 126 yX6_isCabin 1 := ⟨⟨qX6_isCabin.1, qX6_isCabin.2.1, kX6_126, qX6_isCabin.2.2.1, qX6_isCabin.2.2.2, gWS_good⟩, rfl, ⟨by decide, by decide⟩, tX6_isCabin⟩
theorem sX6_bring_13 (l : Launch) : gCV (gπ l) mX6_bring mX6_fails 62 yX6_fails 1 6 KX6 := ⟨⟨qX6_fails.1, qX6_fails.2.1, kX6_62, qX6_fails.2.2.1, qX6_fails.2.2.2, gWS_good⟩, rfl, ⟨by decide, by decide⟩, ⟨iX6_fails, vX6_fails⟩, rfl⟩
theorem sX6_bring_41 (l : Launch) : gCV (gπ l) mX6_bring mX6_toSiding 89 yX6_toSiding 1 6 KX6 := ⟨⟨qX6_toSiding.1, qX6_toSiding.2.1, kX6_89, qX6_toSiding.2.2.1, qX6_toSiding.2.2.2, gWS_good⟩, rfl, ⟨by decide, by decide⟩, ⟨iX6_toSiding, vX6_toSiding⟩, rfl⟩
theorem sX6_putOn_2 (l : Launch) : gCS (gπ l) mX6_putOn mX6_isStation 123 yX6_isStation 1 := ⟨⟨qX6_isStation.1, qX6_isStation.2.1, kX6_123, qX6_isStation.2.2.1, qX6_isStation.2.2.2, gWS_good⟩, rfl, ⟨by decide, by decide⟩, tX6_isStation⟩
theorem sX6_putOn_9 (l : Launch) : gCS (gπ l) mX6_putOn mX6_isCabin 126 yX6_isCabin 1 := ⟨⟨qX6_isCabin.1, qX6_isCabin.2.1, kX6_126, qX6_isCabin.2.2.1, qX6_isCabin.2.2.2, gWS_good⟩, rfl, ⟨by decide, by decide⟩, tX6_isCabin⟩
theorem sX6_putOn_20 (l : Launch) : gCV (gπ l) mX6_putOn mX6_fails 62 yX6_fails 1 6 KX6 := ⟨⟨qX6_fails.1, qX6_fails.2.1, kX6_62, qX6_fails.2.2.1, qX6_fails.2.2.2, gWS_good⟩, rfl, ⟨by decide, by decide⟩, ⟨iX6_fails, vX6_fails⟩, rfl⟩
theorem kX6_129 : Cond.methodLink "RopewayDeskModel" 129 yX6_many ∈ gWS := (gW_t 693 (by decide +kernel) rfl)
theorem sX6_putOn_38 (l : Launch) : gCV (gπ l) mX6_putOn mX6_many 129 yX6_many 1 6 KX6 := ⟨⟨qX6_many.1, qX6_many.2.1, kX6_129, qX6_many.2.2.1, qX6_many.2.2.2, gWS_good⟩, rfl, ⟨by decide, by decide⟩, ⟨iX6_many, vX6_many⟩, rfl⟩
theorem sX6_putOn_43 (l : Launch) : gCV (gπ l) mX6_putOn mX6_many 129 yX6_many 1 6 KX6 := ⟨⟨qX6_many.1, qX6_many.2.1, kX6_129, qX6_many.2.2.1, qX6_many.2.2.2, gWS_good⟩, rfl, ⟨by decide, by decide⟩, ⟨iX6_many, vX6_many⟩, rfl⟩
theorem sX6_putOn_67 (l : Launch) : gCV (gπ l) mX6_putOn mX6_in 54 yX6_in 2 6 KX6 := ⟨⟨qX6_in.1, qX6_in.2.1, kX6_54, qX6_in.2.2.1, qX6_in.2.2.2, gWS_good⟩, rfl, ⟨by decide, by decide⟩, ⟨iX6_in, vX6_in⟩, rfl⟩
theorem kX6_132 : Cond.methodLink "RopewayDeskModel" 132 yX6_unside ∈ gWS := (gW_t 697 (by decide +kernel) rfl)
theorem sX6_putOn_83 (l : Launch) : gCV (gπ l) mX6_putOn mX6_unside 132 yX6_unside 1 6 KX6 := ⟨⟨qX6_unside.1, qX6_unside.2.1, kX6_132, qX6_unside.2.2.1, qX6_unside.2.2.2, gWS_good⟩, rfl, ⟨by decide, by decide⟩, ⟨iX6_unside, vX6_unside⟩, rfl⟩
theorem sX6_putOn_90 (l : Launch) : gCV (gπ l) mX6_putOn mX6_enter 58 yX6_enter 3 6 KX6 := ⟨⟨qX6_enter.1, qX6_enter.2.1, kX6_58, qX6_enter.2.2.1, qX6_enter.2.2.2, gWS_good⟩, rfl, ⟨by decide, by decide⟩, ⟨iX6_enter, vX6_enter⟩, rfl⟩
theorem sX6_takeOff_2 (l : Launch) : gCS (gπ l) mX6_takeOff mX6_isStation 123 yX6_isStation 1 := ⟨⟨qX6_isStation.1, qX6_isStation.2.1, kX6_123, qX6_isStation.2.2.1, qX6_isStation.2.2.2, gWS_good⟩, rfl, ⟨by decide, by decide⟩, tX6_isStation⟩
theorem sX6_takeOff_9 (l : Launch) : gCS (gπ l) mX6_takeOff mX6_isCabin 126 yX6_isCabin 1 := ⟨⟨qX6_isCabin.1, qX6_isCabin.2.1, kX6_126, qX6_isCabin.2.2.1, qX6_isCabin.2.2.2, gWS_good⟩, rfl, ⟨by decide, by decide⟩, tX6_isCabin⟩
theorem sX6_takeOff_20 (l : Launch) : gCV (gπ l) mX6_takeOff mX6_fails 62 yX6_fails 1 6 KX6 := ⟨⟨qX6_fails.1, qX6_fails.2.1, kX6_62, qX6_fails.2.2.1, qX6_fails.2.2.2, gWS_good⟩, rfl, ⟨by decide, by decide⟩, ⟨iX6_fails, vX6_fails⟩, rfl⟩
theorem sX6_takeOff_55 (l : Launch) : gCS (gπ l) mX6_takeOff mX6_isIn 50 yX6_isIn 3 := ⟨⟨qX6_isIn.1, qX6_isIn.2.1, kX6_50, qX6_isIn.2.2.1, qX6_isIn.2.2.2, gWS_good⟩, rfl, ⟨by decide, by decide⟩, tX6_isIn⟩
theorem sX6_takeOff_74 (l : Launch) : gCV (gπ l) mX6_takeOff mX6_toSiding 89 yX6_toSiding 1 6 KX6 := ⟨⟨qX6_toSiding.1, qX6_toSiding.2.1, kX6_89, qX6_toSiding.2.2.1, qX6_toSiding.2.2.2, gWS_good⟩, rfl, ⟨by decide, by decide⟩, ⟨iX6_toSiding, vX6_toSiding⟩, rfl⟩
theorem sX6_plan_6 (l : Launch) : gCS (gπ l) mX6_plan mX6_isIn 50 yX6_isIn 3 := ⟨⟨qX6_isIn.1, qX6_isIn.2.1, kX6_50, qX6_isIn.2.2.1, qX6_isIn.2.2.2, gWS_good⟩, rfl, ⟨by decide, by decide⟩, tX6_isIn⟩
theorem sX6_plan_17 (l : Launch) : gCV (gπ l) mX6_plan mX6_fails 62 yX6_fails 1 6 KX6 := ⟨⟨qX6_fails.1, qX6_fails.2.1, kX6_62, qX6_fails.2.2.1, qX6_fails.2.2.2, gWS_good⟩, rfl, ⟨by decide, by decide⟩, ⟨iX6_fails, vX6_fails⟩, rfl⟩
theorem sX6_release_4 (l : Launch) : gCS (gπ l) mX6_release mX6_isIn 50 yX6_isIn 3 := ⟨⟨qX6_isIn.1, qX6_isIn.2.1, kX6_50, qX6_isIn.2.2.1, qX6_isIn.2.2.2, gWS_good⟩, rfl, ⟨by decide, by decide⟩, tX6_isIn⟩
theorem sX6_release_15 (l : Launch) : gCV (gπ l) mX6_release mX6_fails 62 yX6_fails 1 6 KX6 := ⟨⟨qX6_fails.1, qX6_fails.2.1, kX6_62, qX6_fails.2.2.1, qX6_fails.2.2.2, gWS_good⟩, rfl, ⟨by decide, by decide⟩, ⟨iX6_fails, vX6_fails⟩, rfl⟩
theorem sX6_release_54 (l : Launch) : gCV (gπ l) mX6_release mX6_middle 100 yX6_middle 0 6 KX6 := ⟨⟨qX6_middle.1, qX6_middle.2.1, kX6_100, qX6_middle.2.2.1, qX6_middle.2.2.2, gWS_good⟩, rfl, ⟨by decide, by decide⟩, ⟨iX6_middle, vX6_middle⟩, rfl⟩
theorem sX6_release_69 (l : Launch) : gCV (gπ l) mX6_release mX6_isOver 69 yX6_isOver 0 6 KX6 := ⟨⟨qX6_isOver.1, qX6_isOver.2.1, kX6_69, qX6_isOver.2.2.1, qX6_isOver.2.2.2, gWS_good⟩, rfl, ⟨by decide, by decide⟩, ⟨iX6_isOver, vX6_isOver⟩, rfl⟩
theorem sX6_where_2 (l : Launch) : gCS (gπ l) mX6_where mX6_isCabin 126 yX6_isCabin 1 := ⟨⟨qX6_isCabin.1, qX6_isCabin.2.1, kX6_126, qX6_isCabin.2.2.1, qX6_isCabin.2.2.2, gWS_good⟩, rfl, ⟨by decide, by decide⟩, tX6_isCabin⟩
theorem sX6_where_13 (l : Launch) : gCV (gπ l) mX6_where mX6_fails 62 yX6_fails 1 6 KX6 := ⟨⟨qX6_fails.1, qX6_fails.2.1, kX6_62, qX6_fails.2.2.1, qX6_fails.2.2.2, gWS_good⟩, rfl, ⟨by decide, by decide⟩, ⟨iX6_fails, vX6_fails⟩, rfl⟩
theorem kX6_135 : Cond.methodLink "RopewayDeskModel" 135 yX6_placeOf ∈ gWS := (gW_t 721 (by decide +kernel) rfl)
theorem sX6_where_100 (l : Launch) : gCV (gπ l) mX6_where mX6_placeOf 135 yX6_placeOf 1 6 KX6 := ⟨⟨qX6_placeOf.1, qX6_placeOf.2.1, kX6_135, qX6_placeOf.2.2.1, qX6_placeOf.2.2.2, gWS_good⟩, rfl, ⟨by decide, by decide⟩, ⟨iX6_placeOf, vX6_placeOf⟩, rfl⟩
theorem kX6_138 : Cond.methodLink "RopewayDeskModel" 138 yX6_hasOpenDoors ∈ gWS := (gW_t 725 (by decide +kernel) rfl)
theorem sX6_where_178 (l : Launch) : gCV (gπ l) mX6_where mX6_hasOpenDoors 138 yX6_hasOpenDoors 1 6 KX6 := ⟨⟨qX6_hasOpenDoors.1, qX6_hasOpenDoors.2.1, kX6_138, qX6_hasOpenDoors.2.2.1, qX6_hasOpenDoors.2.2.2, gWS_good⟩, rfl, ⟨by decide, by decide⟩, ⟨iX6_hasOpenDoors, vX6_hasOpenDoors⟩, rfl⟩
theorem sX6_gap_2 (l : Launch) : gCS (gπ l) mX6_gap mX6_isCabin 126 yX6_isCabin 1 := ⟨⟨qX6_isCabin.1, qX6_isCabin.2.1, kX6_126, qX6_isCabin.2.2.1, qX6_isCabin.2.2.2, gWS_good⟩, rfl, ⟨by decide, by decide⟩, tX6_isCabin⟩
theorem sX6_gap_13 (l : Launch) : gCV (gπ l) mX6_gap mX6_fails 62 yX6_fails 1 6 KX6 := ⟨⟨qX6_fails.1, qX6_fails.2.1, kX6_62, qX6_fails.2.2.1, qX6_fails.2.2.2, gWS_good⟩, rfl, ⟨by decide, by decide⟩, ⟨iX6_fails, vX6_fails⟩, rfl⟩
theorem sX6_sided_13 (l : Launch) : gCS (gπ l) mX6_sided mX6_isIn 50 yX6_isIn 3 := ⟨⟨qX6_isIn.1, qX6_isIn.2.1, kX6_50, qX6_isIn.2.2.1, qX6_isIn.2.2.2, gWS_good⟩, rfl, ⟨by decide, by decide⟩, tX6_isIn⟩
theorem sX6_state_76 (l : Launch) : gCV (gπ l) mX6_state mX6_middle 100 yX6_middle 0 6 KX6 := ⟨⟨qX6_middle.1, qX6_middle.2.1, kX6_100, qX6_middle.2.2.1, qX6_middle.2.2.2, gWS_good⟩, rfl, ⟨by decide, by decide⟩, ⟨iX6_middle, vX6_middle⟩, rfl⟩
theorem sX6_state_87 (l : Launch) : gCV (gπ l) mX6_state mX6_many 129 yX6_many 1 6 KX6 := ⟨⟨qX6_many.1, qX6_many.2.1, kX6_129, qX6_many.2.2.1, qX6_many.2.2.2, gWS_good⟩, rfl, ⟨by decide, by decide⟩, ⟨iX6_many, vX6_many⟩, rfl⟩
theorem sX6_state_93 (l : Launch) : gCV (gπ l) mX6_state mX6_many 129 yX6_many 1 6 KX6 := ⟨⟨qX6_many.1, qX6_many.2.1, kX6_129, qX6_many.2.2.1, qX6_many.2.2.2, gWS_good⟩, rfl, ⟨by decide, by decide⟩, ⟨iX6_many, vX6_many⟩, rfl⟩
theorem kX6_141 : Cond.methodLink "RopewayDeskModel" 141 yX6_all ∈ gWS := (gW_t 741 (by decide +kernel) rfl)
theorem sX6_state_98 (l : Launch) : gCV (gπ l) mX6_state mX6_all 141 yX6_all 0 6 KX6 := ⟨⟨qX6_all.1, qX6_all.2.1, kX6_141, qX6_all.2.2.1, qX6_all.2.2.2, gWS_good⟩, rfl, ⟨by decide, by decide⟩, ⟨iX6_all, vX6_all⟩, rfl⟩
theorem kL_7 : Cond.methodLink "RopewayDeskLaw" 7 yX5_pulse ∈ gWS := (gW_t 206 (by decide +kernel) rfl)
theorem sL_pulse_4 (l : Launch) : gCV (gπ l) mL_pulse mX5_pulse 7 yX5_pulse 1 5 KX5 := ⟨⟨qX5_pulse.1, qX5_pulse.2.1, kL_7, qX5_pulse.2.2.1, qX5_pulse.2.2.2, gWS_good⟩, rfl, ⟨by decide, by decide⟩, ⟨iX5_pulse, vX5_pulse⟩, rfl⟩
theorem kL_15 : Cond.methodLink "RopewayDeskLaw" 15 yX5_tick ∈ gWS := (gW_t 313 (by decide +kernel) rfl)
theorem sL_tick_4 (l : Launch) : gCV (gπ l) mL_tick mX5_tick 15 yX5_tick 1 5 KX5 := ⟨⟨qX5_tick.1, qX5_tick.2.1, kL_15, qX5_tick.2.2.1, qX5_tick.2.2.2, gWS_good⟩, rfl, ⟨by decide, by decide⟩, ⟨iX5_tick, vX5_tick⟩, rfl⟩
theorem kL_18 : Cond.methodLink "RopewayDeskLaw" 18 yX5_gauge ∈ gWS := (gW_t 409 (by decide +kernel) rfl)
theorem sL_gauge_7 (l : Launch) : gCV (gπ l) mL_gauge mX5_gauge 18 yX5_gauge 3 5 KX5 := ⟨⟨qX5_gauge.1, qX5_gauge.2.1, kL_18, qX5_gauge.2.2.1, qX5_gauge.2.2.2, gWS_good⟩, rfl, ⟨by decide, by decide⟩, ⟨iX5_gauge, vX5_gauge⟩, rfl⟩
theorem kL_22 : Cond.methodLink "RopewayDeskLaw" 22 yX5_wind ∈ gWS := (gW_t 421 (by decide +kernel) rfl)
theorem sL_wind_2 (l : Launch) : gCV (gπ l) mL_wind mX5_wind 22 yX5_wind 1 5 KX5 := ⟨⟨qX5_wind.1, qX5_wind.2.1, kL_22, qX5_wind.2.2.1, qX5_wind.2.2.2, gWS_good⟩, rfl, ⟨by decide, by decide⟩, ⟨iX5_wind, vX5_wind⟩, rfl⟩
theorem kL_26 : Cond.methodLink "RopewayDeskLaw" 26 yX5_drive ∈ gWS := (gW_t 437 (by decide +kernel) rfl)
theorem sL_drive_4 (l : Launch) : gCV (gπ l) mL_drive mX5_drive 26 yX5_drive 1 5 KX5 := ⟨⟨qX5_drive.1, qX5_drive.2.1, kL_26, qX5_drive.2.2.1, qX5_drive.2.2.2, gWS_good⟩, rfl, ⟨by decide, by decide⟩, ⟨iX5_drive, vX5_drive⟩, rfl⟩
theorem kL_30 : Cond.methodLink "RopewayDeskLaw" 30 yX5_bring ∈ gWS := (gW_t 445 (by decide +kernel) rfl)
theorem sL_bring_4 (l : Launch) : gCV (gπ l) mL_bring mX5_bring 30 yX5_bring 1 5 KX5 := ⟨⟨qX5_bring.1, qX5_bring.2.1, kL_30, qX5_bring.2.2.1, qX5_bring.2.2.2, gWS_good⟩, rfl, ⟨by decide, by decide⟩, ⟨iX5_bring, vX5_bring⟩, rfl⟩
theorem kL_33 : Cond.methodLink "RopewayDeskLaw" 33 yX5_putOn ∈ gWS := (gW_t 456 (by decide +kernel) rfl)
theorem sL_putOn_5 (l : Launch) : gCV (gπ l) mL_putOn mX5_putOn 33 yX5_putOn 2 5 KX5 := ⟨⟨qX5_putOn.1, qX5_putOn.2.1, kL_33, qX5_putOn.2.2.1, qX5_putOn.2.2.2, gWS_good⟩, rfl, ⟨by decide, by decide⟩, ⟨iX5_putOn, vX5_putOn⟩, rfl⟩
theorem kL_37 : Cond.methodLink "RopewayDeskLaw" 37 yX5_takeOff ∈ gWS := (gW_t 475 (by decide +kernel) rfl)
theorem sL_takeOff_5 (l : Launch) : gCV (gπ l) mL_takeOff mX5_takeOff 37 yX5_takeOff 2 5 KX5 := ⟨⟨qX5_takeOff.1, qX5_takeOff.2.1, kL_37, qX5_takeOff.2.2.1, qX5_takeOff.2.2.2, gWS_good⟩, rfl, ⟨by decide, by decide⟩, ⟨iX5_takeOff, vX5_takeOff⟩, rfl⟩
theorem kL_40 : Cond.methodLink "RopewayDeskLaw" 40 yX5_plan ∈ gWS := (gW_t 482 (by decide +kernel) rfl)
theorem sL_plan_4 (l : Launch) : gCV (gπ l) mL_plan mX5_plan 40 yX5_plan 1 5 KX5 := ⟨⟨qX5_plan.1, qX5_plan.2.1, kL_40, qX5_plan.2.2.1, qX5_plan.2.2.2, gWS_good⟩, rfl, ⟨by decide, by decide⟩, ⟨iX5_plan, vX5_plan⟩, rfl⟩
theorem kL_43 : Cond.methodLink "RopewayDeskLaw" 43 yX5_release ∈ gWS := (gW_t 490 (by decide +kernel) rfl)
theorem sL_release_4 (l : Launch) : gCV (gπ l) mL_release mX5_release 43 yX5_release 1 5 KX5 := ⟨⟨qX5_release.1, qX5_release.2.1, kL_43, qX5_release.2.2.1, qX5_release.2.2.2, gWS_good⟩, rfl, ⟨by decide, by decide⟩, ⟨iX5_release, vX5_release⟩, rfl⟩
theorem kL_46 : Cond.methodLink "RopewayDeskLaw" 46 yX5_where ∈ gWS := (gW_t 502 (by decide +kernel) rfl)
theorem sL_where_5 (l : Launch) : gCV (gπ l) mL_where mX5_where 46 yX5_where 2 5 KX5 := ⟨⟨qX5_where.1, qX5_where.2.1, kL_46, qX5_where.2.2.1, qX5_where.2.2.2, gWS_good⟩, rfl, ⟨by decide, by decide⟩, ⟨iX5_where, vX5_where⟩, rfl⟩
theorem kL_50 : Cond.methodLink "RopewayDeskLaw" 50 yX5_gap ∈ gWS := (gW_t 518 (by decide +kernel) rfl)
theorem sL_gap_4 (l : Launch) : gCV (gπ l) mL_gap mX5_gap 50 yX5_gap 1 5 KX5 := ⟨⟨qX5_gap.1, qX5_gap.2.1, kL_50, qX5_gap.2.2.1, qX5_gap.2.2.2, gWS_good⟩, rfl, ⟨by decide, by decide⟩, ⟨iX5_gap, vX5_gap⟩, rfl⟩
theorem kL_53 : Cond.methodLink "RopewayDeskLaw" 53 yX5_init ∈ gWS := (gW_t 15 (by decide +kernel) rfl)
theorem sL_law_4 (l : Launch) : gW (gπ l) "RopewayDeskLaw" mX5_init 53 yX5_init 0 := ⟨qX5_init.1, qX5_init.2.1, kL_53, qX5_init.2.2.1, qX5_init.2.2.2, gWS_good⟩
theorem kL_56 : Cond.methodLink "RopewayDeskLaw" 56 yX6_init ∈ gWS := (gW_t 535 (by decide +kernel) rfl)
theorem sL_law_12 (l : Launch) : gW (gπ l) "RopewayDeskLaw" mX6_init 56 yX6_init 0 := ⟨qX6_init.1, qX6_init.2.1, kL_56, qX6_init.2.2.1, qX6_init.2.2.2, gWS_good⟩
theorem kL_57 : Cond.methodLink "RopewayDeskLaw" 57 yL_pulse ∈ gWS := (gW_t 202 (by decide +kernel) rfl)
theorem sL_law_120 (l : Launch) : gW (gπ l) "RopewayDeskLaw" mL_pulse 57 yL_pulse 3 := ⟨qL_pulse.1, qL_pulse.2.1, kL_57, qL_pulse.2.2.1, qL_pulse.2.2.2, gWS_good⟩
theorem kL_62 : Cond.methodLink "RopewayDeskLaw" 62 yX6_pulse ∈ gWS := (gW_t 604 (by decide +kernel) rfl)
theorem sL_law_132 (l : Launch) : gCV (gπ l) mL_law mX6_pulse 62 yX6_pulse 1 6 KX6 := ⟨⟨qX6_pulse.1, qX6_pulse.2.1, kL_62, qX6_pulse.2.2.1, qX6_pulse.2.2.2, gWS_good⟩, rfl, ⟨by decide, by decide⟩, ⟨iX6_pulse, vX6_pulse⟩, rfl⟩
theorem kL_63 : Cond.methodLink "RopewayDeskLaw" 63 yX6_thrown ∈ gWS := (gW_t 600 (by decide +kernel) rfl)
theorem sL_law_138 (l : Launch) : gCV (gπ l) mL_law mX6_thrown 63 yX6_thrown 0 6 KX6 := ⟨⟨qX6_thrown.1, qX6_thrown.2.1, kL_63, qX6_thrown.2.2.1, qX6_thrown.2.2.2, gWS_good⟩, rfl, ⟨by decide, by decide⟩, ⟨iX6_thrown, vX6_thrown⟩, rfl⟩
theorem kL_67 : Cond.methodLink "RopewayDeskLaw" 67 yL_tick ∈ gWS := (gW_t 310 (by decide +kernel) rfl)
theorem sL_law_176 (l : Launch) : gW (gπ l) "RopewayDeskLaw" mL_tick 67 yL_tick 3 := ⟨qL_tick.1, qL_tick.2.1, kL_67, qL_tick.2.2.1, qL_tick.2.2.2, gWS_good⟩
theorem kL_69 : Cond.methodLink "RopewayDeskLaw" 69 yX6_tick ∈ gWS := (gW_t 631 (by decide +kernel) rfl)
theorem sL_law_188 (l : Launch) : gCV (gπ l) mL_law mX6_tick 69 yX6_tick 1 6 KX6 := ⟨⟨qX6_tick.1, qX6_tick.2.1, kL_69, qX6_tick.2.2.1, qX6_tick.2.2.2, gWS_good⟩, rfl, ⟨by decide, by decide⟩, ⟨iX6_tick, vX6_tick⟩, rfl⟩
theorem sL_law_194 (l : Launch) : gCV (gπ l) mL_law mX6_thrown 63 yX6_thrown 0 6 KX6 := ⟨⟨qX6_thrown.1, qX6_thrown.2.1, kL_63, qX6_thrown.2.2.1, qX6_thrown.2.2.2, gWS_good⟩, rfl, ⟨by decide, by decide⟩, ⟨iX6_thrown, vX6_thrown⟩, rfl⟩
theorem kL_70 : Cond.methodLink "RopewayDeskLaw" 70 yL_gauge ∈ gWS := (gW_t 406 (by decide +kernel) rfl)
theorem sL_law_244 (l : Launch) : gW (gπ l) "RopewayDeskLaw" mL_gauge 70 yL_gauge 5 := ⟨qL_gauge.1, qL_gauge.2.1, kL_70, qL_gauge.2.2.1, qL_gauge.2.2.2, gWS_good⟩
theorem kL_73 : Cond.methodLink "RopewayDeskLaw" 73 yX6_gauge ∈ gWS := (gW_t 667 (by decide +kernel) rfl)
theorem sL_law_268 (l : Launch) : gCV (gπ l) mL_law mX6_gauge 73 yX6_gauge 3 6 KX6 := ⟨⟨qX6_gauge.1, qX6_gauge.2.1, kL_73, qX6_gauge.2.2.1, qX6_gauge.2.2.2, gWS_good⟩, rfl, ⟨by decide, by decide⟩, ⟨iX6_gauge, vX6_gauge⟩, rfl⟩
theorem sL_law_274 (l : Launch) : gCV (gπ l) mL_law mX6_thrown 63 yX6_thrown 0 6 KX6 := ⟨⟨qX6_thrown.1, qX6_thrown.2.1, kL_63, qX6_thrown.2.2.1, qX6_thrown.2.2.2, gWS_good⟩, rfl, ⟨by decide, by decide⟩, ⟨iX6_thrown, vX6_thrown⟩, rfl⟩
theorem kL_74 : Cond.methodLink "RopewayDeskLaw" 74 yL_wind ∈ gWS := (gW_t 418 (by decide +kernel) rfl)
theorem sL_law_318 (l : Launch) : gW (gπ l) "RopewayDeskLaw" mL_wind 74 yL_wind 2 := ⟨qL_wind.1, qL_wind.2.1, kL_74, qL_wind.2.2.1, qL_wind.2.2.2, gWS_good⟩
theorem kL_77 : Cond.methodLink "RopewayDeskLaw" 77 yX6_wind ∈ gWS := (gW_t 674 (by decide +kernel) rfl)
theorem sL_law_330 (l : Launch) : gCV (gπ l) mL_law mX6_wind 77 yX6_wind 1 6 KX6 := ⟨⟨qX6_wind.1, qX6_wind.2.1, kL_77, qX6_wind.2.2.1, qX6_wind.2.2.2, gWS_good⟩, rfl, ⟨by decide, by decide⟩, ⟨iX6_wind, vX6_wind⟩, rfl⟩
theorem sL_law_334 (l : Launch) : gCV (gπ l) mL_law mX6_thrown 63 yX6_thrown 0 6 KX6 := ⟨⟨qX6_thrown.1, qX6_thrown.2.1, kL_63, qX6_thrown.2.2.1, qX6_thrown.2.2.2, gWS_good⟩, rfl, ⟨by decide, by decide⟩, ⟨iX6_thrown, vX6_thrown⟩, rfl⟩
theorem kL_78 : Cond.methodLink "RopewayDeskLaw" 78 yL_drive ∈ gWS := (gW_t 434 (by decide +kernel) rfl)
theorem sL_law_355 (l : Launch) : gW (gπ l) "RopewayDeskLaw" mL_drive 78 yL_drive 3 := ⟨qL_drive.1, qL_drive.2.1, kL_78, qL_drive.2.2.1, qL_drive.2.2.2, gWS_good⟩
theorem kL_80 : Cond.methodLink "RopewayDeskLaw" 80 yX6_drive ∈ gWS := (gW_t 678 (by decide +kernel) rfl)
theorem sL_law_367 (l : Launch) : gCV (gπ l) mL_law mX6_drive 80 yX6_drive 1 6 KX6 := ⟨⟨qX6_drive.1, qX6_drive.2.1, kL_80, qX6_drive.2.2.1, qX6_drive.2.2.2, gWS_good⟩, rfl, ⟨by decide, by decide⟩, ⟨iX6_drive, vX6_drive⟩, rfl⟩
theorem sL_law_373 (l : Launch) : gCV (gπ l) mL_law mX6_thrown 63 yX6_thrown 0 6 KX6 := ⟨⟨qX6_thrown.1, qX6_thrown.2.1, kL_63, qX6_thrown.2.2.1, qX6_thrown.2.2.2, gWS_good⟩, rfl, ⟨by decide, by decide⟩, ⟨iX6_thrown, vX6_thrown⟩, rfl⟩
theorem kL_81 : Cond.methodLink "RopewayDeskLaw" 81 yL_bring ∈ gWS := (gW_t 442 (by decide +kernel) rfl)
theorem sL_law_418 (l : Launch) : gW (gπ l) "RopewayDeskLaw" mL_bring 81 yL_bring 3 := ⟨qL_bring.1, qL_bring.2.1, kL_81, qL_bring.2.2.1, qL_bring.2.2.2, gWS_good⟩
theorem kL_83 : Cond.methodLink "RopewayDeskLaw" 83 yX6_bring ∈ gWS := (gW_t 682 (by decide +kernel) rfl)
theorem sL_law_430 (l : Launch) : gCV (gπ l) mL_law mX6_bring 83 yX6_bring 1 6 KX6 := ⟨⟨qX6_bring.1, qX6_bring.2.1, kL_83, qX6_bring.2.2.1, qX6_bring.2.2.2, gWS_good⟩, rfl, ⟨by decide, by decide⟩, ⟨iX6_bring, vX6_bring⟩, rfl⟩
theorem sL_law_436 (l : Launch) : gCV (gπ l) mL_law mX6_thrown 63 yX6_thrown 0 6 KX6 := ⟨⟨qX6_thrown.1, qX6_thrown.2.1, kL_63, qX6_thrown.2.2.1, qX6_thrown.2.2.2, gWS_good⟩, rfl, ⟨by decide, by decide⟩, ⟨iX6_thrown, vX6_thrown⟩, rfl⟩
theorem kL_84 : Cond.methodLink "RopewayDeskLaw" 84 yL_putOn ∈ gWS := (gW_t 453 (by decide +kernel) rfl)
theorem sL_law_487 (l : Launch) : gW (gπ l) "RopewayDeskLaw" mL_putOn 84 yL_putOn 4 := ⟨qL_putOn.1, qL_putOn.2.1, kL_84, qL_putOn.2.2.1, qL_putOn.2.2.2, gWS_good⟩
theorem kL_87 : Cond.methodLink "RopewayDeskLaw" 87 yX6_putOn ∈ gWS := (gW_t 689 (by decide +kernel) rfl)
theorem sL_law_505 (l : Launch) : gCV (gπ l) mL_law mX6_putOn 87 yX6_putOn 2 6 KX6 := ⟨⟨qX6_putOn.1, qX6_putOn.2.1, kL_87, qX6_putOn.2.2.1, qX6_putOn.2.2.2, gWS_good⟩, rfl, ⟨by decide, by decide⟩, ⟨iX6_putOn, vX6_putOn⟩, rfl⟩
theorem sL_law_511 (l : Launch) : gCV (gπ l) mL_law mX6_thrown 63 yX6_thrown 0 6 KX6 := ⟨⟨qX6_thrown.1, qX6_thrown.2.1, kL_63, qX6_thrown.2.2.1, qX6_thrown.2.2.2, gWS_good⟩, rfl, ⟨by decide, by decide⟩, ⟨iX6_thrown, vX6_thrown⟩, rfl⟩
theorem kL_88 : Cond.methodLink "RopewayDeskLaw" 88 yL_takeOff ∈ gWS := (gW_t 472 (by decide +kernel) rfl)
theorem sL_law_562 (l : Launch) : gW (gπ l) "RopewayDeskLaw" mL_takeOff 88 yL_takeOff 4 := ⟨qL_takeOff.1, qL_takeOff.2.1, kL_88, qL_takeOff.2.2.1, qL_takeOff.2.2.2, gWS_good⟩
theorem kL_90 : Cond.methodLink "RopewayDeskLaw" 90 yX6_takeOff ∈ gWS := (gW_t 701 (by decide +kernel) rfl)
theorem sL_law_580 (l : Launch) : gCV (gπ l) mL_law mX6_takeOff 90 yX6_takeOff 2 6 KX6 := ⟨⟨qX6_takeOff.1, qX6_takeOff.2.1, kL_90, qX6_takeOff.2.2.1, qX6_takeOff.2.2.2, gWS_good⟩, rfl, ⟨by decide, by decide⟩, ⟨iX6_takeOff, vX6_takeOff⟩, rfl⟩
theorem sL_law_586 (l : Launch) : gCV (gπ l) mL_law mX6_thrown 63 yX6_thrown 0 6 KX6 := ⟨⟨qX6_thrown.1, qX6_thrown.2.1, kL_63, qX6_thrown.2.2.1, qX6_thrown.2.2.2, gWS_good⟩, rfl, ⟨by decide, by decide⟩, ⟨iX6_thrown, vX6_thrown⟩, rfl⟩
theorem kL_91 : Cond.methodLink "RopewayDeskLaw" 91 yL_plan ∈ gWS := (gW_t 479 (by decide +kernel) rfl)
theorem sL_law_631 (l : Launch) : gW (gπ l) "RopewayDeskLaw" mL_plan 91 yL_plan 3 := ⟨qL_plan.1, qL_plan.2.1, kL_91, qL_plan.2.2.1, qL_plan.2.2.2, gWS_good⟩
theorem kL_93 : Cond.methodLink "RopewayDeskLaw" 93 yX6_plan ∈ gWS := (gW_t 705 (by decide +kernel) rfl)
theorem sL_law_643 (l : Launch) : gCV (gπ l) mL_law mX6_plan 93 yX6_plan 1 6 KX6 := ⟨⟨qX6_plan.1, qX6_plan.2.1, kL_93, qX6_plan.2.2.1, qX6_plan.2.2.2, gWS_good⟩, rfl, ⟨by decide, by decide⟩, ⟨iX6_plan, vX6_plan⟩, rfl⟩
theorem sL_law_649 (l : Launch) : gCV (gπ l) mL_law mX6_thrown 63 yX6_thrown 0 6 KX6 := ⟨⟨qX6_thrown.1, qX6_thrown.2.1, kL_63, qX6_thrown.2.2.1, qX6_thrown.2.2.2, gWS_good⟩, rfl, ⟨by decide, by decide⟩, ⟨iX6_thrown, vX6_thrown⟩, rfl⟩
theorem kL_94 : Cond.methodLink "RopewayDeskLaw" 94 yL_release ∈ gWS := (gW_t 487 (by decide +kernel) rfl)
theorem sL_law_687 (l : Launch) : gW (gπ l) "RopewayDeskLaw" mL_release 94 yL_release 3 := ⟨qL_release.1, qL_release.2.1, kL_94, qL_release.2.2.1, qL_release.2.2.2, gWS_good⟩
theorem kL_96 : Cond.methodLink "RopewayDeskLaw" 96 yX6_release ∈ gWS := (gW_t 709 (by decide +kernel) rfl)
theorem sL_law_699 (l : Launch) : gCV (gπ l) mL_law mX6_release 96 yX6_release 1 6 KX6 := ⟨⟨qX6_release.1, qX6_release.2.1, kL_96, qX6_release.2.2.1, qX6_release.2.2.2, gWS_good⟩, rfl, ⟨by decide, by decide⟩, ⟨iX6_release, vX6_release⟩, rfl⟩
theorem sL_law_705 (l : Launch) : gCV (gπ l) mL_law mX6_thrown 63 yX6_thrown 0 6 KX6 := ⟨⟨qX6_thrown.1, qX6_thrown.2.1, kL_63, qX6_thrown.2.2.1, qX6_thrown.2.2.2, gWS_good⟩, rfl, ⟨by decide, by decide⟩, ⟨iX6_thrown, vX6_thrown⟩, rfl⟩
theorem kL_97 : Cond.methodLink "RopewayDeskLaw" 97 yX5_locks ∈ gWS := (gW_t 178 (by decide +kernel) rfl)
theorem sL_law_743 (l : Launch) : gCV (gπ l) mL_law mX5_locks 97 yX5_locks 0 5 KX5 := ⟨⟨qX5_locks.1, qX5_locks.2.1, kL_97, qX5_locks.2.2.1, qX5_locks.2.2.2, gWS_good⟩, rfl, ⟨by decide, by decide⟩, ⟨iX5_locks, vX5_locks⟩, rfl⟩
theorem kL_100 : Cond.methodLink "RopewayDeskLaw" 100 yX6_locks ∈ gWS := (gW_t 713 (by decide +kernel) rfl)
theorem sL_law_747 (l : Launch) : gCV (gπ l) mL_law mX6_locks 100 yX6_locks 0 6 KX6 := ⟨⟨qX6_locks.1, qX6_locks.2.1, kL_100, qX6_locks.2.2.1, qX6_locks.2.2.2, gWS_good⟩, rfl, ⟨by decide, by decide⟩, ⟨iX6_locks, vX6_locks⟩, rfl⟩
theorem kL_101 : Cond.methodLink "RopewayDeskLaw" 101 yL_where ∈ gWS := (gW_t 499 (by decide +kernel) rfl)
theorem sL_law_769 (l : Launch) : gW (gπ l) "RopewayDeskLaw" mL_where 101 yL_where 4 := ⟨qL_where.1, qL_where.2.1, kL_101, qL_where.2.2.1, qL_where.2.2.2, gWS_good⟩
theorem kL_103 : Cond.methodLink "RopewayDeskLaw" 103 yX6_where ∈ gWS := (gW_t 717 (by decide +kernel) rfl)
theorem sL_law_787 (l : Launch) : gCV (gπ l) mL_law mX6_where 103 yX6_where 2 6 KX6 := ⟨⟨qX6_where.1, qX6_where.2.1, kL_103, qX6_where.2.2.1, qX6_where.2.2.2, gWS_good⟩, rfl, ⟨by decide, by decide⟩, ⟨iX6_where, vX6_where⟩, rfl⟩
theorem sL_law_793 (l : Launch) : gCV (gπ l) mL_law mX6_thrown 63 yX6_thrown 0 6 KX6 := ⟨⟨qX6_thrown.1, qX6_thrown.2.1, kL_63, qX6_thrown.2.2.1, qX6_thrown.2.2.2, gWS_good⟩, rfl, ⟨by decide, by decide⟩, ⟨iX6_thrown, vX6_thrown⟩, rfl⟩
theorem kL_104 : Cond.methodLink "RopewayDeskLaw" 104 yL_gap ∈ gWS := (gW_t 515 (by decide +kernel) rfl)
theorem sL_law_831 (l : Launch) : gW (gπ l) "RopewayDeskLaw" mL_gap 104 yL_gap 3 := ⟨qL_gap.1, qL_gap.2.1, kL_104, qL_gap.2.2.1, qL_gap.2.2.2, gWS_good⟩
theorem kL_106 : Cond.methodLink "RopewayDeskLaw" 106 yX6_gap ∈ gWS := (gW_t 729 (by decide +kernel) rfl)
theorem sL_law_843 (l : Launch) : gCV (gπ l) mL_law mX6_gap 106 yX6_gap 1 6 KX6 := ⟨⟨qX6_gap.1, qX6_gap.2.1, kL_106, qX6_gap.2.2.1, qX6_gap.2.2.2, gWS_good⟩, rfl, ⟨by decide, by decide⟩, ⟨iX6_gap, vX6_gap⟩, rfl⟩
theorem sL_law_849 (l : Launch) : gCV (gπ l) mL_law mX6_thrown 63 yX6_thrown 0 6 KX6 := ⟨⟨qX6_thrown.1, qX6_thrown.2.1, kL_63, qX6_thrown.2.2.1, qX6_thrown.2.2.2, gWS_good⟩, rfl, ⟨by decide, by decide⟩, ⟨iX6_thrown, vX6_thrown⟩, rfl⟩
theorem kL_107 : Cond.methodLink "RopewayDeskLaw" 107 yX5_sided ∈ gWS := (gW_t 182 (by decide +kernel) rfl)
theorem sL_law_886 (l : Launch) : gCV (gπ l) mL_law mX5_sided 107 yX5_sided 1 5 KX5 := ⟨⟨qX5_sided.1, qX5_sided.2.1, kL_107, qX5_sided.2.2.1, qX5_sided.2.2.2, gWS_good⟩, rfl, ⟨by decide, by decide⟩, ⟨iX5_sided, vX5_sided⟩, rfl⟩
theorem kL_110 : Cond.methodLink "RopewayDeskLaw" 110 yX6_sided ∈ gWS := (gW_t 733 (by decide +kernel) rfl)
theorem sL_law_896 (l : Launch) : gCV (gπ l) mL_law mX6_sided 110 yX6_sided 1 6 KX6 := ⟨⟨qX6_sided.1, qX6_sided.2.1, kL_110, qX6_sided.2.2.1, qX6_sided.2.2.2, gWS_good⟩, rfl, ⟨by decide, by decide⟩, ⟨iX6_sided, vX6_sided⟩, rfl⟩
theorem kL_111 : Cond.methodLink "RopewayDeskLaw" 111 yX5_state ∈ gWS := (gW_t 190 (by decide +kernel) rfl)
theorem sL_law_911 (l : Launch) : gCV (gπ l) mL_law mX5_state 111 yX5_state 1 5 KX5 := ⟨⟨qX5_state.1, qX5_state.2.1, kL_111, qX5_state.2.2.1, qX5_state.2.2.2, gWS_good⟩, rfl, ⟨by decide, by decide⟩, ⟨iX5_state, vX5_state⟩, rfl⟩
theorem kL_114 : Cond.methodLink "RopewayDeskLaw" 114 yX6_state ∈ gWS := (gW_t 737 (by decide +kernel) rfl)
theorem sL_law_921 (l : Launch) : gCV (gπ l) mL_law mX6_state 114 yX6_state 1 6 KX6 := ⟨⟨qX6_state.1, qX6_state.2.1, kL_114, qX6_state.2.2.1, qX6_state.2.2.2, gWS_good⟩, rfl, ⟨by decide, by decide⟩, ⟨iX6_state, vX6_state⟩, rfl⟩
end
section
/-! decode rows -/
theorem dX0_init_0 : decode mX0_init.2.1 0 = .ok (.aload_n 0, 1) := by decide +kernel
theorem dX0_init_1 : decode mX0_init.2.1 1 = .ok (.invokespecial 3, 3) := by decide +kernel
theorem dX0_init_4 : decode mX0_init.2.1 4 = .ok (.aload_n 0, 1) := by decide +kernel
theorem dX0_init_5 : decode mX0_init.2.1 5 = .ok (.iconst 0, 1) := by decide +kernel
theorem dX0_init_6 : decode mX0_init.2.1 6 = .ok (.putfield 9, 3) := by decide +kernel
theorem dX0_init_9 : decode mX0_init.2.1 9 = .ok (.aload_n 0, 1) := by decide +kernel
theorem dX0_init_10 : decode mX0_init.2.1 10 = .ok (.iconst (-1), 1) := by decide +kernel
theorem dX0_init_11 : decode mX0_init.2.1 11 = .ok (.putfield 15, 3) := by decide +kernel
theorem dX0_init_14 : decode mX0_init.2.1 14 = .ok (.aload_n 0, 1) := by decide +kernel
theorem dX0_init_15 : decode mX0_init.2.1 15 = .ok (.iconst (-1), 1) := by decide +kernel
theorem dX0_init_16 : decode mX0_init.2.1 16 = .ok (.putfield 18, 3) := by decide +kernel
theorem dX0_init_19 : decode mX0_init.2.1 19 = .ok (.aload_n 0, 1) := by decide +kernel
theorem dX0_init_20 : decode mX0_init.2.1 20 = .ok (.iconst 0, 1) := by decide +kernel
theorem dX0_init_21 : decode mX0_init.2.1 21 = .ok (.putfield 21, 3) := by decide +kernel
theorem dX0_init_24 : decode mX0_init.2.1 24 = .ok (.aload_n 0, 1) := by decide +kernel
theorem dX0_init_25 : decode mX0_init.2.1 25 = .ok (.iconst (-1), 1) := by decide +kernel
theorem dX0_init_26 : decode mX0_init.2.1 26 = .ok (.putfield 24, 3) := by decide +kernel
theorem dX0_init_29 : decode mX0_init.2.1 29 = .ok (.aload_n 0, 1) := by decide +kernel
theorem dX0_init_30 : decode mX0_init.2.1 30 = .ok (.iconst (-1), 1) := by decide +kernel
theorem dX0_init_31 : decode mX0_init.2.1 31 = .ok (.putfield 27, 3) := by decide +kernel
theorem dX0_init_34 : decode mX0_init.2.1 34 = .ok (.aload_n 0, 1) := by decide +kernel
theorem dX0_init_35 : decode mX0_init.2.1 35 = .ok (.iconst (-1), 1) := by decide +kernel
theorem dX0_init_36 : decode mX0_init.2.1 36 = .ok (.putfield 30, 3) := by decide +kernel
theorem dX0_init_39 : decode mX0_init.2.1 39 = .ok (.aload_n 0, 1) := by decide +kernel
theorem dX0_init_40 : decode mX0_init.2.1 40 = .ok (.iconst (-1), 1) := by decide +kernel
theorem dX0_init_41 : decode mX0_init.2.1 41 = .ok (.putfield 33, 3) := by decide +kernel
theorem dX0_init_44 : decode mX0_init.2.1 44 = .ok (.aload_n 0, 1) := by decide +kernel
theorem dX0_init_45 : decode mX0_init.2.1 45 = .ok (.iconst 0, 1) := by decide +kernel
theorem dX0_init_46 : decode mX0_init.2.1 46 = .ok (.putfield 36, 3) := by decide +kernel
theorem dX0_init_49 : decode mX0_init.2.1 49 = .ok (.aload_n 0, 1) := by decide +kernel
theorem dX0_init_50 : decode mX0_init.2.1 50 = .ok (.iconst 0, 1) := by decide +kernel
theorem dX0_init_51 : decode mX0_init.2.1 51 = .ok (.putfield 39, 3) := by decide +kernel
theorem dX0_init_54 : decode mX0_init.2.1 54 = .ok (.aload_n 0, 1) := by decide +kernel
theorem dX0_init_55 : decode mX0_init.2.1 55 = .ok (.iload_n 1, 1) := by decide +kernel
theorem dX0_init_56 : decode mX0_init.2.1 56 = .ok (.putfield 42, 3) := by decide +kernel
theorem dX0_init_59 : decode mX0_init.2.1 59 = .ok (.return_, 1) := by decide +kernel
theorem dX0_standAt_0 : decode mX0_standAt.2.1 0 = .ok (.aload_n 0, 1) := by decide +kernel
theorem dX0_standAt_1 : decode mX0_standAt.2.1 1 = .ok (.iload_n 1, 1) := by decide +kernel
theorem dX0_standAt_2 : decode mX0_standAt.2.1 2 = .ok (.putfield 9, 3) := by decide +kernel
theorem dX0_standAt_5 : decode mX0_standAt.2.1 5 = .ok (.aload_n 0, 1) := by decide +kernel
theorem dX0_standAt_6 : decode mX0_standAt.2.1 6 = .ok (.iconst (-1), 1) := by decide +kernel
theorem dX0_standAt_7 : decode mX0_standAt.2.1 7 = .ok (.putfield 15, 3) := by decide +kernel
theorem dX0_standAt_10 : decode mX0_standAt.2.1 10 = .ok (.aload_n 0, 1) := by decide +kernel
theorem dX0_standAt_11 : decode mX0_standAt.2.1 11 = .ok (.iconst (-1), 1) := by decide +kernel
theorem dX0_standAt_12 : decode mX0_standAt.2.1 12 = .ok (.putfield 18, 3) := by decide +kernel
theorem dX0_standAt_15 : decode mX0_standAt.2.1 15 = .ok (.aload_n 0, 1) := by decide +kernel
theorem dX0_standAt_16 : decode mX0_standAt.2.1 16 = .ok (.iconst (-1), 1) := by decide +kernel
theorem dX0_standAt_17 : decode mX0_standAt.2.1 17 = .ok (.putfield 24, 3) := by decide +kernel
theorem dX0_standAt_20 : decode mX0_standAt.2.1 20 = .ok (.return_, 1) := by decide +kernel
theorem dX0_stopClamping_0 : decode mX0_stopClamping.2.1 0 = .ok (.aload_n 0, 1) := by decide +kernel
theorem dX0_stopClamping_1 : decode mX0_stopClamping.2.1 1 = .ok (.iconst (-1), 1) := by decide +kernel
theorem dX0_stopClamping_2 : decode mX0_stopClamping.2.1 2 = .ok (.putfield 27, 3) := by decide +kernel
theorem dX0_stopClamping_5 : decode mX0_stopClamping.2.1 5 = .ok (.aload_n 0, 1) := by decide +kernel
theorem dX0_stopClamping_6 : decode mX0_stopClamping.2.1 6 = .ok (.iconst (-1), 1) := by decide +kernel
theorem dX0_stopClamping_7 : decode mX0_stopClamping.2.1 7 = .ok (.putfield 30, 3) := by decide +kernel
theorem dX0_stopClamping_10 : decode mX0_stopClamping.2.1 10 = .ok (.aload_n 0, 1) := by decide +kernel
theorem dX0_stopClamping_11 : decode mX0_stopClamping.2.1 11 = .ok (.iconst (-1), 1) := by decide +kernel
theorem dX0_stopClamping_12 : decode mX0_stopClamping.2.1 12 = .ok (.putfield 33, 3) := by decide +kernel
theorem dX0_stopClamping_15 : decode mX0_stopClamping.2.1 15 = .ok (.return_, 1) := by decide +kernel
theorem dX0_isClamping_0 : decode mX0_isClamping.2.1 0 = .ok (.aload_n 0, 1) := by decide +kernel
theorem dX0_isClamping_1 : decode mX0_isClamping.2.1 1 = .ok (.getfield 27, 3) := by decide +kernel
theorem dX0_isClamping_4 : decode mX0_isClamping.2.1 4 = .ok (.ifCond .lt 7, 3) := by decide +kernel
theorem dX0_isClamping_7 : decode mX0_isClamping.2.1 7 = .ok (.iconst 1, 1) := by decide +kernel
theorem dX0_isClamping_8 : decode mX0_isClamping.2.1 8 = .ok (.goto 4, 3) := by decide +kernel
theorem dX0_isClamping_11 : decode mX0_isClamping.2.1 11 = .ok (.iconst 0, 1) := by decide +kernel
theorem dX0_isClamping_12 : decode mX0_isClamping.2.1 12 = .ok (.ireturn, 1) := by decide +kernel
theorem dX0_hasReport_0 : decode mX0_hasReport.2.1 0 = .ok (.aload_n 0, 1) := by decide +kernel
theorem dX0_hasReport_1 : decode mX0_hasReport.2.1 1 = .ok (.getfield 30, 3) := by decide +kernel
theorem dX0_hasReport_4 : decode mX0_hasReport.2.1 4 = .ok (.ifCond .lt 7, 3) := by decide +kernel
theorem dX0_hasReport_7 : decode mX0_hasReport.2.1 7 = .ok (.iconst 1, 1) := by decide +kernel
theorem dX0_hasReport_8 : decode mX0_hasReport.2.1 8 = .ok (.goto 4, 3) := by decide +kernel
theorem dX0_hasReport_11 : decode mX0_hasReport.2.1 11 = .ok (.iconst 0, 1) := by decide +kernel
theorem dX0_hasReport_12 : decode mX0_hasReport.2.1 12 = .ok (.ireturn, 1) := by decide +kernel
theorem dX0_faultOfReport_0 : decode mX0_faultOfReport.2.1 0 = .ok (.aload_n 0, 1) := by decide +kernel
theorem dX0_faultOfReport_1 : decode mX0_faultOfReport.2.1 1 = .ok (.getfield 30, 3) := by decide +kernel
theorem dX0_faultOfReport_4 : decode mX0_faultOfReport.2.1 4 = .ok (.sipush 4000, 3) := by decide +kernel
theorem dX0_faultOfReport_7 : decode mX0_faultOfReport.2.1 7 = .ok (.if_icmp .le 13, 3) := by decide +kernel
theorem dX0_faultOfReport_10 : decode mX0_faultOfReport.2.1 10 = .ok (.aload_n 0, 1) := by decide +kernel
theorem dX0_faultOfReport_11 : decode mX0_faultOfReport.2.1 11 = .ok (.getfield 33, 3) := by decide +kernel
theorem dX0_faultOfReport_14 : decode mX0_faultOfReport.2.1 14 = .ok (.sipush 4000, 3) := by decide +kernel
theorem dX0_faultOfReport_17 : decode mX0_faultOfReport.2.1 17 = .ok (.if_icmp .gt 5, 3) := by decide +kernel
theorem dX0_faultOfReport_20 : decode mX0_faultOfReport.2.1 20 = .ok (.iconst 1, 1) := by decide +kernel
theorem dX0_faultOfReport_21 : decode mX0_faultOfReport.2.1 21 = .ok (.ireturn, 1) := by decide +kernel
theorem dX0_faultOfReport_22 : decode mX0_faultOfReport.2.1 22 = .ok (.bipush 100, 2) := by decide +kernel
theorem dX0_faultOfReport_24 : decode mX0_faultOfReport.2.1 24 = .ok (.aload_n 0, 1) := by decide +kernel
theorem dX0_faultOfReport_25 : decode mX0_faultOfReport.2.1 25 = .ok (.getfield 30, 3) := by decide +kernel
theorem dX0_faultOfReport_28 : decode mX0_faultOfReport.2.1 28 = .ok (.aload_n 0, 1) := by decide +kernel
theorem dX0_faultOfReport_29 : decode mX0_faultOfReport.2.1 29 = .ok (.getfield 33, 3) := by decide +kernel
theorem dX0_faultOfReport_32 : decode mX0_faultOfReport.2.1 32 = .ok (.isub, 1) := by decide +kernel
theorem dX0_faultOfReport_33 : decode mX0_faultOfReport.2.1 33 = .ok (.invokestatic 45, 3) := by decide +kernel
theorem dX0_faultOfReport_36 : decode mX0_faultOfReport.2.1 36 = .ok (.imul, 1) := by decide +kernel
theorem dX0_faultOfReport_37 : decode mX0_faultOfReport.2.1 37 = .ok (.iconst 3, 1) := by decide +kernel
theorem dX0_faultOfReport_38 : decode mX0_faultOfReport.2.1 38 = .ok (.aload_n 0, 1) := by decide +kernel
theorem dX0_faultOfReport_39 : decode mX0_faultOfReport.2.1 39 = .ok (.getfield 30, 3) := by decide +kernel
theorem dX0_faultOfReport_42 : decode mX0_faultOfReport.2.1 42 = .ok (.aload_n 0, 1) := by decide +kernel
theorem dX0_faultOfReport_43 : decode mX0_faultOfReport.2.1 43 = .ok (.getfield 33, 3) := by decide +kernel
theorem dX0_faultOfReport_46 : decode mX0_faultOfReport.2.1 46 = .ok (.invokestatic 51, 3) := by decide +kernel
theorem dX0_faultOfReport_49 : decode mX0_faultOfReport.2.1 49 = .ok (.imul, 1) := by decide +kernel
theorem dX0_faultOfReport_50 : decode mX0_faultOfReport.2.1 50 = .ok (.if_icmp .gt 7, 3) := by decide +kernel
theorem dX0_faultOfReport_53 : decode mX0_faultOfReport.2.1 53 = .ok (.iconst 1, 1) := by decide +kernel
theorem dX0_faultOfReport_54 : decode mX0_faultOfReport.2.1 54 = .ok (.goto 4, 3) := by decide +kernel
theorem dX0_faultOfReport_57 : decode mX0_faultOfReport.2.1 57 = .ok (.iconst 0, 1) := by decide +kernel
theorem dX0_faultOfReport_58 : decode mX0_faultOfReport.2.1 58 = .ok (.istore_n 1, 1) := by decide +kernel
theorem dX0_faultOfReport_59 : decode mX0_faultOfReport.2.1 59 = .ok (.iload_n 1, 1) := by decide +kernel
theorem dX0_faultOfReport_60 : decode mX0_faultOfReport.2.1 60 = .ok (.ifCond .eq 7, 3) := by decide +kernel
theorem dX0_faultOfReport_63 : decode mX0_faultOfReport.2.1 63 = .ok (.iconst 0, 1) := by decide +kernel
theorem dX0_faultOfReport_64 : decode mX0_faultOfReport.2.1 64 = .ok (.goto 4, 3) := by decide +kernel
theorem dX0_faultOfReport_67 : decode mX0_faultOfReport.2.1 67 = .ok (.iconst 2, 1) := by decide +kernel
theorem dX0_faultOfReport_68 : decode mX0_faultOfReport.2.1 68 = .ok (.ireturn, 1) := by decide +kernel
theorem dX0_hasDoorsOpen_0 : decode mX0_hasDoorsOpen.2.1 0 = .ok (.aload_n 0, 1) := by decide +kernel
theorem dX0_hasDoorsOpen_1 : decode mX0_hasDoorsOpen.2.1 1 = .ok (.getfield 18, 3) := by decide +kernel
theorem dX0_hasDoorsOpen_4 : decode mX0_hasDoorsOpen.2.1 4 = .ok (.tableswitch 63 5 8 #[32, 46, 46, 48], 32) := by decide +kernel
theorem dX0_hasDoorsOpen_36 : decode mX0_hasDoorsOpen.2.1 36 = .ok (.aload_n 0, 1) := by decide +kernel
theorem dX0_hasDoorsOpen_37 : decode mX0_hasDoorsOpen.2.1 37 = .ok (.getfield 24, 3) := by decide +kernel
theorem dX0_hasDoorsOpen_40 : decode mX0_hasDoorsOpen.2.1 40 = .ok (.iconst 5, 1) := by decide +kernel
theorem dX0_hasDoorsOpen_41 : decode mX0_hasDoorsOpen.2.1 41 = .ok (.if_icmp .lt 7, 3) := by decide +kernel
theorem dX0_hasDoorsOpen_44 : decode mX0_hasDoorsOpen.2.1 44 = .ok (.iconst 1, 1) := by decide +kernel
theorem dX0_hasDoorsOpen_45 : decode mX0_hasDoorsOpen.2.1 45 = .ok (.goto 4, 3) := by decide +kernel
theorem dX0_hasDoorsOpen_48 : decode mX0_hasDoorsOpen.2.1 48 = .ok (.iconst 0, 1) := by decide +kernel
theorem dX0_hasDoorsOpen_49 : decode mX0_hasDoorsOpen.2.1 49 = .ok (.ireturn, 1) := by decide +kernel
theorem dX0_hasDoorsOpen_50 : decode mX0_hasDoorsOpen.2.1 50 = .ok (.iconst 1, 1) := by decide +kernel
theorem dX0_hasDoorsOpen_51 : decode mX0_hasDoorsOpen.2.1 51 = .ok (.ireturn, 1) := by decide +kernel
theorem dX0_hasDoorsOpen_52 : decode mX0_hasDoorsOpen.2.1 52 = .ok (.aload_n 0, 1) := by decide +kernel
theorem dX0_hasDoorsOpen_53 : decode mX0_hasDoorsOpen.2.1 53 = .ok (.getfield 24, 3) := by decide +kernel
theorem dX0_hasDoorsOpen_56 : decode mX0_hasDoorsOpen.2.1 56 = .ok (.bipush 10, 2) := by decide +kernel
theorem dX0_hasDoorsOpen_58 : decode mX0_hasDoorsOpen.2.1 58 = .ok (.if_icmp .ge 7, 3) := by decide +kernel
theorem dX0_hasDoorsOpen_61 : decode mX0_hasDoorsOpen.2.1 61 = .ok (.iconst 1, 1) := by decide +kernel
theorem dX0_hasDoorsOpen_62 : decode mX0_hasDoorsOpen.2.1 62 = .ok (.goto 4, 3) := by decide +kernel
theorem dX0_hasDoorsOpen_65 : decode mX0_hasDoorsOpen.2.1 65 = .ok (.iconst 0, 1) := by decide +kernel
theorem dX0_hasDoorsOpen_66 : decode mX0_hasDoorsOpen.2.1 66 = .ok (.ireturn, 1) := by decide +kernel
theorem dX0_hasDoorsOpen_67 : decode mX0_hasDoorsOpen.2.1 67 = .ok (.iconst 0, 1) := by decide +kernel
theorem dX0_hasDoorsOpen_68 : decode mX0_hasDoorsOpen.2.1 68 = .ok (.ireturn, 1) := by decide +kernel
end
section
/-! decode rows -/
theorem dX1_init_0 : decode mX1_init.2.1 0 = .ok (.aload_n 0, 1) := by decide +kernel
theorem dX1_init_1 : decode mX1_init.2.1 1 = .ok (.invokespecial 3, 3) := by decide +kernel
theorem dX1_init_4 : decode mX1_init.2.1 4 = .ok (.aload_n 0, 1) := by decide +kernel
theorem dX1_init_5 : decode mX1_init.2.1 5 = .ok (.bipush 60, 2) := by decide +kernel
theorem dX1_init_7 : decode mX1_init.2.1 7 = .ok (.anewarray 9, 3) := by decide +kernel
theorem dX1_init_10 : decode mX1_init.2.1 10 = .ok (.putfield 11, 3) := by decide +kernel
theorem dX1_init_13 : decode mX1_init.2.1 13 = .ok (.iconst 0, 1) := by decide +kernel
theorem dX1_init_14 : decode mX1_init.2.1 14 = .ok (.istore_n 1, 1) := by decide +kernel
theorem dX1_init_15 : decode mX1_init.2.1 15 = .ok (.iload_n 1, 1) := by decide +kernel
theorem dX1_init_16 : decode mX1_init.2.1 16 = .ok (.bipush 60, 2) := by decide +kernel
theorem dX1_init_18 : decode mX1_init.2.1 18 = .ok (.if_icmp .ge 23, 3) := by decide +kernel
theorem dX1_init_21 : decode mX1_init.2.1 21 = .ok (.aload_n 0, 1) := by decide +kernel
theorem dX1_init_22 : decode mX1_init.2.1 22 = .ok (.getfield 11, 3) := by decide +kernel
theorem dX1_init_25 : decode mX1_init.2.1 25 = .ok (.iload_n 1, 1) := by decide +kernel
theorem dX1_init_26 : decode mX1_init.2.1 26 = .ok (.new 9, 3) := by decide +kernel
theorem dX1_init_29 : decode mX1_init.2.1 29 = .ok (.dup, 1) := by decide +kernel
theorem dX1_init_30 : decode mX1_init.2.1 30 = .ok (.iload_n 1, 1) := by decide +kernel
theorem dX1_init_31 : decode mX1_init.2.1 31 = .ok (.invokespecial 17, 3) := by decide +kernel
theorem dX1_init_34 : decode mX1_init.2.1 34 = .ok (.aastore, 1) := by decide +kernel
theorem dX1_init_35 : decode mX1_init.2.1 35 = .ok (.iinc 1 1, 3) := by decide +kernel
theorem dX1_init_38 : decode mX1_init.2.1 38 = .ok (.goto (-23), 3) := by decide +kernel
theorem dX1_init_41 : decode mX1_init.2.1 41 = .ok (.return_, 1) := by decide +kernel
theorem dX1_countAt_0 : decode mX1_countAt.2.1 0 = .ok (.iconst 0, 1) := by decide +kernel
theorem dX1_countAt_1 : decode mX1_countAt.2.1 1 = .ok (.istore_n 2, 1) := by decide +kernel
theorem dX1_countAt_2 : decode mX1_countAt.2.1 2 = .ok (.iconst 0, 1) := by decide +kernel
theorem dX1_countAt_3 : decode mX1_countAt.2.1 3 = .ok (.istore_n 3, 1) := by decide +kernel
theorem dX1_countAt_4 : decode mX1_countAt.2.1 4 = .ok (.iload_n 3, 1) := by decide +kernel
theorem dX1_countAt_5 : decode mX1_countAt.2.1 5 = .ok (.bipush 60, 2) := by decide +kernel
theorem dX1_countAt_7 : decode mX1_countAt.2.1 7 = .ok (.if_icmp .ge 25, 3) := by decide +kernel
theorem dX1_countAt_10 : decode mX1_countAt.2.1 10 = .ok (.aload_n 0, 1) := by decide +kernel
theorem dX1_countAt_11 : decode mX1_countAt.2.1 11 = .ok (.getfield 11, 3) := by decide +kernel
theorem dX1_countAt_14 : decode mX1_countAt.2.1 14 = .ok (.iload_n 3, 1) := by decide +kernel
theorem dX1_countAt_15 : decode mX1_countAt.2.1 15 = .ok (.aaload, 1) := by decide +kernel
theorem dX1_countAt_16 : decode mX1_countAt.2.1 16 = .ok (.getfield 20, 3) := by decide +kernel
theorem dX1_countAt_19 : decode mX1_countAt.2.1 19 = .ok (.iload_n 1, 1) := by decide +kernel
theorem dX1_countAt_20 : decode mX1_countAt.2.1 20 = .ok (.if_icmp .ne 6, 3) := by decide +kernel
theorem dX1_countAt_23 : decode mX1_countAt.2.1 23 = .ok (.iinc 2 1, 3) := by decide +kernel
theorem dX1_countAt_26 : decode mX1_countAt.2.1 26 = .ok (.iinc 3 1, 3) := by decide +kernel
theorem dX1_countAt_29 : decode mX1_countAt.2.1 29 = .ok (.goto (-25), 3) := by decide +kernel
theorem dX1_countAt_32 : decode mX1_countAt.2.1 32 = .ok (.iload_n 2, 1) := by decide +kernel
theorem dX1_countAt_33 : decode mX1_countAt.2.1 33 = .ok (.ireturn, 1) := by decide +kernel
theorem dX1_tripsOfAll_0 : decode mX1_tripsOfAll.2.1 0 = .ok (.iconst 0, 1) := by decide +kernel
theorem dX1_tripsOfAll_1 : decode mX1_tripsOfAll.2.1 1 = .ok (.istore_n 1, 1) := by decide +kernel
theorem dX1_tripsOfAll_2 : decode mX1_tripsOfAll.2.1 2 = .ok (.iconst 0, 1) := by decide +kernel
theorem dX1_tripsOfAll_3 : decode mX1_tripsOfAll.2.1 3 = .ok (.istore_n 2, 1) := by decide +kernel
theorem dX1_tripsOfAll_4 : decode mX1_tripsOfAll.2.1 4 = .ok (.iload_n 2, 1) := by decide +kernel
theorem dX1_tripsOfAll_5 : decode mX1_tripsOfAll.2.1 5 = .ok (.bipush 60, 2) := by decide +kernel
theorem dX1_tripsOfAll_7 : decode mX1_tripsOfAll.2.1 7 = .ok (.if_icmp .ge 21, 3) := by decide +kernel
theorem dX1_tripsOfAll_10 : decode mX1_tripsOfAll.2.1 10 = .ok (.iload_n 1, 1) := by decide +kernel
theorem dX1_tripsOfAll_11 : decode mX1_tripsOfAll.2.1 11 = .ok (.aload_n 0, 1) := by decide +kernel
theorem dX1_tripsOfAll_12 : decode mX1_tripsOfAll.2.1 12 = .ok (.getfield 11, 3) := by decide +kernel
theorem dX1_tripsOfAll_15 : decode mX1_tripsOfAll.2.1 15 = .ok (.iload_n 2, 1) := by decide +kernel
theorem dX1_tripsOfAll_16 : decode mX1_tripsOfAll.2.1 16 = .ok (.aaload, 1) := by decide +kernel
theorem dX1_tripsOfAll_17 : decode mX1_tripsOfAll.2.1 17 = .ok (.getfield 24, 3) := by decide +kernel
theorem dX1_tripsOfAll_20 : decode mX1_tripsOfAll.2.1 20 = .ok (.iadd, 1) := by decide +kernel
theorem dX1_tripsOfAll_21 : decode mX1_tripsOfAll.2.1 21 = .ok (.istore_n 1, 1) := by decide +kernel
theorem dX1_tripsOfAll_22 : decode mX1_tripsOfAll.2.1 22 = .ok (.iinc 2 1, 3) := by decide +kernel
theorem dX1_tripsOfAll_25 : decode mX1_tripsOfAll.2.1 25 = .ok (.goto (-21), 3) := by decide +kernel
theorem dX1_tripsOfAll_28 : decode mX1_tripsOfAll.2.1 28 = .ok (.iload_n 1, 1) := by decide +kernel
theorem dX1_tripsOfAll_29 : decode mX1_tripsOfAll.2.1 29 = .ok (.ireturn, 1) := by decide +kernel
theorem dX1_farthest_0 : decode mX1_farthest.2.1 0 = .ok (.iconst 0, 1) := by decide +kernel
theorem dX1_farthest_1 : decode mX1_farthest.2.1 1 = .ok (.istore_n 1, 1) := by decide +kernel
theorem dX1_farthest_2 : decode mX1_farthest.2.1 2 = .ok (.iconst 0, 1) := by decide +kernel
theorem dX1_farthest_3 : decode mX1_farthest.2.1 3 = .ok (.istore_n 2, 1) := by decide +kernel
theorem dX1_farthest_4 : decode mX1_farthest.2.1 4 = .ok (.iload_n 2, 1) := by decide +kernel
theorem dX1_farthest_5 : decode mX1_farthest.2.1 5 = .ok (.bipush 60, 2) := by decide +kernel
theorem dX1_farthest_7 : decode mX1_farthest.2.1 7 = .ok (.if_icmp .ge 36, 3) := by decide +kernel
theorem dX1_farthest_10 : decode mX1_farthest.2.1 10 = .ok (.aload_n 0, 1) := by decide +kernel
theorem dX1_farthest_11 : decode mX1_farthest.2.1 11 = .ok (.getfield 11, 3) := by decide +kernel
theorem dX1_farthest_14 : decode mX1_farthest.2.1 14 = .ok (.iload_n 2, 1) := by decide +kernel
theorem dX1_farthest_15 : decode mX1_farthest.2.1 15 = .ok (.aaload, 1) := by decide +kernel
theorem dX1_farthest_16 : decode mX1_farthest.2.1 16 = .ok (.getfield 20, 3) := by decide +kernel
theorem dX1_farthest_19 : decode mX1_farthest.2.1 19 = .ok (.iconst 3, 1) := by decide +kernel
theorem dX1_farthest_20 : decode mX1_farthest.2.1 20 = .ok (.if_icmp .ne 17, 3) := by decide +kernel
theorem dX1_farthest_23 : decode mX1_farthest.2.1 23 = .ok (.iload_n 1, 1) := by decide +kernel
theorem dX1_farthest_24 : decode mX1_farthest.2.1 24 = .ok (.aload_n 0, 1) := by decide +kernel
theorem dX1_farthest_25 : decode mX1_farthest.2.1 25 = .ok (.getfield 11, 3) := by decide +kernel
theorem dX1_farthest_28 : decode mX1_farthest.2.1 28 = .ok (.iload_n 2, 1) := by decide +kernel
theorem dX1_farthest_29 : decode mX1_farthest.2.1 29 = .ok (.aaload, 1) := by decide +kernel
theorem dX1_farthest_30 : decode mX1_farthest.2.1 30 = .ok (.getfield 27, 3) := by decide +kernel
theorem dX1_farthest_33 : decode mX1_farthest.2.1 33 = .ok (.invokestatic 30, 3) := by decide +kernel
theorem dX1_farthest_36 : decode mX1_farthest.2.1 36 = .ok (.istore_n 1, 1) := by decide +kernel
theorem dX1_farthest_37 : decode mX1_farthest.2.1 37 = .ok (.iinc 2 1, 3) := by decide +kernel
theorem dX1_farthest_40 : decode mX1_farthest.2.1 40 = .ok (.goto (-36), 3) := by decide +kernel
theorem dX1_farthest_43 : decode mX1_farthest.2.1 43 = .ok (.iload_n 1, 1) := by decide +kernel
theorem dX1_farthest_44 : decode mX1_farthest.2.1 44 = .ok (.ireturn, 1) := by decide +kernel
theorem dX1_advance_0 : decode mX1_advance.2.1 0 = .ok (.iconst 0, 1) := by decide +kernel
theorem dX1_advance_1 : decode mX1_advance.2.1 1 = .ok (.istore_n 2, 1) := by decide +kernel
theorem dX1_advance_2 : decode mX1_advance.2.1 2 = .ok (.iload_n 2, 1) := by decide +kernel
theorem dX1_advance_3 : decode mX1_advance.2.1 3 = .ok (.bipush 60, 2) := by decide +kernel
theorem dX1_advance_5 : decode mX1_advance.2.1 5 = .ok (.if_icmp .ge 37, 3) := by decide +kernel
theorem dX1_advance_8 : decode mX1_advance.2.1 8 = .ok (.aload_n 0, 1) := by decide +kernel
theorem dX1_advance_9 : decode mX1_advance.2.1 9 = .ok (.getfield 11, 3) := by decide +kernel
theorem dX1_advance_12 : decode mX1_advance.2.1 12 = .ok (.iload_n 2, 1) := by decide +kernel
theorem dX1_advance_13 : decode mX1_advance.2.1 13 = .ok (.aaload, 1) := by decide +kernel
theorem dX1_advance_14 : decode mX1_advance.2.1 14 = .ok (.getfield 20, 3) := by decide +kernel
theorem dX1_advance_17 : decode mX1_advance.2.1 17 = .ok (.iconst 3, 1) := by decide +kernel
theorem dX1_advance_18 : decode mX1_advance.2.1 18 = .ok (.if_icmp .ne 18, 3) := by decide +kernel
theorem dX1_advance_21 : decode mX1_advance.2.1 21 = .ok (.aload_n 0, 1) := by decide +kernel
theorem dX1_advance_22 : decode mX1_advance.2.1 22 = .ok (.getfield 11, 3) := by decide +kernel
theorem dX1_advance_25 : decode mX1_advance.2.1 25 = .ok (.iload_n 2, 1) := by decide +kernel
theorem dX1_advance_26 : decode mX1_advance.2.1 26 = .ok (.aaload, 1) := by decide +kernel
theorem dX1_advance_27 : decode mX1_advance.2.1 27 = .ok (.dup, 1) := by decide +kernel
theorem dX1_advance_28 : decode mX1_advance.2.1 28 = .ok (.getfield 27, 3) := by decide +kernel
theorem dX1_advance_31 : decode mX1_advance.2.1 31 = .ok (.iload_n 1, 1) := by decide +kernel
theorem dX1_advance_32 : decode mX1_advance.2.1 32 = .ok (.iadd, 1) := by decide +kernel
theorem dX1_advance_33 : decode mX1_advance.2.1 33 = .ok (.putfield 27, 3) := by decide +kernel
theorem dX1_advance_36 : decode mX1_advance.2.1 36 = .ok (.iinc 2 1, 3) := by decide +kernel
theorem dX1_advance_39 : decode mX1_advance.2.1 39 = .ok (.goto (-37), 3) := by decide +kernel
theorem dX1_advance_42 : decode mX1_advance.2.1 42 = .ok (.return_, 1) := by decide +kernel
theorem dX1_isClear_0 : decode mX1_isClear.2.1 0 = .ok (.iconst 0, 1) := by decide +kernel
theorem dX1_isClear_1 : decode mX1_isClear.2.1 1 = .ok (.istore_n 3, 1) := by decide +kernel
theorem dX1_isClear_2 : decode mX1_isClear.2.1 2 = .ok (.iload_n 3, 1) := by decide +kernel
theorem dX1_isClear_3 : decode mX1_isClear.2.1 3 = .ok (.bipush 60, 2) := by decide +kernel
theorem dX1_isClear_5 : decode mX1_isClear.2.1 5 = .ok (.if_icmp .ge 37, 3) := by decide +kernel
theorem dX1_isClear_8 : decode mX1_isClear.2.1 8 = .ok (.aload_n 0, 1) := by decide +kernel
theorem dX1_isClear_9 : decode mX1_isClear.2.1 9 = .ok (.getfield 11, 3) := by decide +kernel
theorem dX1_isClear_12 : decode mX1_isClear.2.1 12 = .ok (.iload_n 3, 1) := by decide +kernel
theorem dX1_isClear_13 : decode mX1_isClear.2.1 13 = .ok (.aaload, 1) := by decide +kernel
theorem dX1_isClear_14 : decode mX1_isClear.2.1 14 = .ok (.iload_n 1, 1) := by decide +kernel
theorem dX1_isClear_15 : decode mX1_isClear.2.1 15 = .ok (.invokestatic 36, 3) := by decide +kernel
theorem dX1_isClear_18 : decode mX1_isClear.2.1 18 = .ok (.ifCond .eq 18, 3) := by decide +kernel
theorem dX1_isClear_21 : decode mX1_isClear.2.1 21 = .ok (.aload_n 0, 1) := by decide +kernel
theorem dX1_isClear_22 : decode mX1_isClear.2.1 22 = .ok (.getfield 11, 3) := by decide +kernel
theorem dX1_isClear_25 : decode mX1_isClear.2.1 25 = .ok (.iload_n 3, 1) := by decide +kernel
theorem dX1_isClear_26 : decode mX1_isClear.2.1 26 = .ok (.aaload, 1) := by decide +kernel
theorem dX1_isClear_27 : decode mX1_isClear.2.1 27 = .ok (.getfield 27, 3) := by decide +kernel
theorem dX1_isClear_30 : decode mX1_isClear.2.1 30 = .ok (.iload_n 2, 1) := by decide +kernel
theorem dX1_isClear_31 : decode mX1_isClear.2.1 31 = .ok (.if_icmp .ge 5, 3) := by decide +kernel
theorem dX1_isClear_34 : decode mX1_isClear.2.1 34 = .ok (.iconst 0, 1) := by decide +kernel
theorem dX1_isClear_35 : decode mX1_isClear.2.1 35 = .ok (.ireturn, 1) := by decide +kernel
theorem dX1_isClear_36 : decode mX1_isClear.2.1 36 = .ok (.iinc 3 1, 3) := by decide +kernel
theorem dX1_isClear_39 : decode mX1_isClear.2.1 39 = .ok (.goto (-37), 3) := by decide +kernel
theorem dX1_isClear_42 : decode mX1_isClear.2.1 42 = .ok (.iconst 1, 1) := by decide +kernel
theorem dX1_isClear_43 : decode mX1_isClear.2.1 43 = .ok (.ireturn, 1) := by decide +kernel
theorem dX1_hasNearEnd_0 : decode mX1_hasNearEnd.2.1 0 = .ok (.iconst 0, 1) := by decide +kernel
theorem dX1_hasNearEnd_1 : decode mX1_hasNearEnd.2.1 1 = .ok (.istore_n 2, 1) := by decide +kernel
theorem dX1_hasNearEnd_2 : decode mX1_hasNearEnd.2.1 2 = .ok (.iload_n 2, 1) := by decide +kernel
theorem dX1_hasNearEnd_3 : decode mX1_hasNearEnd.2.1 3 = .ok (.bipush 60, 2) := by decide +kernel
theorem dX1_hasNearEnd_5 : decode mX1_hasNearEnd.2.1 5 = .ok (.if_icmp .ge 39, 3) := by decide +kernel
theorem dX1_hasNearEnd_8 : decode mX1_hasNearEnd.2.1 8 = .ok (.aload_n 0, 1) := by decide +kernel
theorem dX1_hasNearEnd_9 : decode mX1_hasNearEnd.2.1 9 = .ok (.getfield 11, 3) := by decide +kernel
theorem dX1_hasNearEnd_12 : decode mX1_hasNearEnd.2.1 12 = .ok (.iload_n 2, 1) := by decide +kernel
theorem dX1_hasNearEnd_13 : decode mX1_hasNearEnd.2.1 13 = .ok (.aaload, 1) := by decide +kernel
theorem dX1_hasNearEnd_14 : decode mX1_hasNearEnd.2.1 14 = .ok (.iload_n 1, 1) := by decide +kernel
theorem dX1_hasNearEnd_15 : decode mX1_hasNearEnd.2.1 15 = .ok (.invokestatic 36, 3) := by decide +kernel
theorem dX1_hasNearEnd_18 : decode mX1_hasNearEnd.2.1 18 = .ok (.ifCond .eq 20, 3) := by decide +kernel
theorem dX1_hasNearEnd_21 : decode mX1_hasNearEnd.2.1 21 = .ok (.aload_n 0, 1) := by decide +kernel
theorem dX1_hasNearEnd_22 : decode mX1_hasNearEnd.2.1 22 = .ok (.getfield 11, 3) := by decide +kernel
theorem dX1_hasNearEnd_25 : decode mX1_hasNearEnd.2.1 25 = .ok (.iload_n 2, 1) := by decide +kernel
theorem dX1_hasNearEnd_26 : decode mX1_hasNearEnd.2.1 26 = .ok (.aaload, 1) := by decide +kernel
theorem dX1_hasNearEnd_27 : decode mX1_hasNearEnd.2.1 27 = .ok (.getfield 27, 3) := by decide +kernel
theorem dX1_hasNearEnd_30 : decode mX1_hasNearEnd.2.1 30 = .ok (.sipush 5640, 3) := by decide +kernel
theorem dX1_hasNearEnd_33 : decode mX1_hasNearEnd.2.1 33 = .ok (.if_icmp .lt 5, 3) := by decide +kernel
theorem dX1_hasNearEnd_36 : decode mX1_hasNearEnd.2.1 36 = .ok (.iconst 1, 1) := by decide +kernel
theorem dX1_hasNearEnd_37 : decode mX1_hasNearEnd.2.1 37 = .ok (.ireturn, 1) := by decide +kernel
theorem dX1_hasNearEnd_38 : decode mX1_hasNearEnd.2.1 38 = .ok (.iinc 2 1, 3) := by decide +kernel
theorem dX1_hasNearEnd_41 : decode mX1_hasNearEnd.2.1 41 = .ok (.goto (-39), 3) := by decide +kernel
theorem dX1_hasNearEnd_44 : decode mX1_hasNearEnd.2.1 44 = .ok (.iconst 0, 1) := by decide +kernel
theorem dX1_hasNearEnd_45 : decode mX1_hasNearEnd.2.1 45 = .ok (.ireturn, 1) := by decide +kernel
theorem dX1_wayAhead_0 : decode mX1_wayAhead.2.1 0 = .ok (.sipush 12000, 3) := by decide +kernel
theorem dX1_wayAhead_3 : decode mX1_wayAhead.2.1 3 = .ok (.istore_n 2, 1) := by decide +kernel
theorem dX1_wayAhead_4 : decode mX1_wayAhead.2.1 4 = .ok (.iconst 0, 1) := by decide +kernel
theorem dX1_wayAhead_5 : decode mX1_wayAhead.2.1 5 = .ok (.istore_n 3, 1) := by decide +kernel
theorem dX1_wayAhead_6 : decode mX1_wayAhead.2.1 6 = .ok (.iload_n 3, 1) := by decide +kernel
theorem dX1_wayAhead_7 : decode mX1_wayAhead.2.1 7 = .ok (.bipush 60, 2) := by decide +kernel
theorem dX1_wayAhead_9 : decode mX1_wayAhead.2.1 9 = .ok (.if_icmp .ge 53, 3) := by decide +kernel
theorem dX1_wayAhead_12 : decode mX1_wayAhead.2.1 12 = .ok (.aload_n 0, 1) := by decide +kernel
theorem dX1_wayAhead_13 : decode mX1_wayAhead.2.1 13 = .ok (.getfield 11, 3) := by decide +kernel
theorem dX1_wayAhead_16 : decode mX1_wayAhead.2.1 16 = .ok (.iload_n 3, 1) := by decide +kernel
theorem dX1_wayAhead_17 : decode mX1_wayAhead.2.1 17 = .ok (.aaload, 1) := by decide +kernel
theorem dX1_wayAhead_18 : decode mX1_wayAhead.2.1 18 = .ok (.astore 4, 2) := by decide +kernel
theorem dX1_wayAhead_20 : decode mX1_wayAhead.2.1 20 = .ok (.aload 4, 2) := by decide +kernel
theorem dX1_wayAhead_22 : decode mX1_wayAhead.2.1 22 = .ok (.aload_n 1, 1) := by decide +kernel
theorem dX1_wayAhead_23 : decode mX1_wayAhead.2.1 23 = .ok (.if_acmp .eq 33, 3) := by decide +kernel
theorem dX1_wayAhead_26 : decode mX1_wayAhead.2.1 26 = .ok (.aload 4, 2) := by decide +kernel
theorem dX1_wayAhead_28 : decode mX1_wayAhead.2.1 28 = .ok (.getfield 20, 3) := by decide +kernel
theorem dX1_wayAhead_31 : decode mX1_wayAhead.2.1 31 = .ok (.iconst 3, 1) := by decide +kernel
theorem dX1_wayAhead_32 : decode mX1_wayAhead.2.1 32 = .ok (.if_icmp .ne 24, 3) := by decide +kernel
theorem dX1_wayAhead_35 : decode mX1_wayAhead.2.1 35 = .ok (.iload_n 2, 1) := by decide +kernel
theorem dX1_wayAhead_36 : decode mX1_wayAhead.2.1 36 = .ok (.aload 4, 2) := by decide +kernel
theorem dX1_wayAhead_38 : decode mX1_wayAhead.2.1 38 = .ok (.invokestatic 40, 3) := by decide +kernel
theorem dX1_wayAhead_41 : decode mX1_wayAhead.2.1 41 = .ok (.aload_n 1, 1) := by decide +kernel
theorem dX1_wayAhead_42 : decode mX1_wayAhead.2.1 42 = .ok (.invokestatic 40, 3) := by decide +kernel
theorem dX1_wayAhead_45 : decode mX1_wayAhead.2.1 45 = .ok (.isub, 1) := by decide +kernel
theorem dX1_wayAhead_46 : decode mX1_wayAhead.2.1 46 = .ok (.sipush 12000, 3) := by decide +kernel
theorem dX1_wayAhead_49 : decode mX1_wayAhead.2.1 49 = .ok (.invokestatic 44, 3) := by decide +kernel
theorem dX1_wayAhead_52 : decode mX1_wayAhead.2.1 52 = .ok (.invokestatic 47, 3) := by decide +kernel
theorem dX1_wayAhead_55 : decode mX1_wayAhead.2.1 55 = .ok (.istore_n 2, 1) := by decide +kernel
theorem dX1_wayAhead_56 : decode mX1_wayAhead.2.1 56 = .ok (.iinc 3 1, 3) := by decide +kernel
theorem dX1_wayAhead_59 : decode mX1_wayAhead.2.1 59 = .ok (.goto (-53), 3) := by decide +kernel
theorem dX1_wayAhead_62 : decode mX1_wayAhead.2.1 62 = .ok (.iload_n 2, 1) := by decide +kernel
theorem dX1_wayAhead_63 : decode mX1_wayAhead.2.1 63 = .ok (.ireturn, 1) := by decide +kernel
theorem dX1_hasLeft_0 : decode mX1_hasLeft.2.1 0 = .ok (.aload_n 0, 1) := by decide +kernel
theorem dX1_hasLeft_1 : decode mX1_hasLeft.2.1 1 = .ok (.getfield 20, 3) := by decide +kernel
theorem dX1_hasLeft_4 : decode mX1_hasLeft.2.1 4 = .ok (.iconst 3, 1) := by decide +kernel
theorem dX1_hasLeft_5 : decode mX1_hasLeft.2.1 5 = .ok (.if_icmp .ne 15, 3) := by decide +kernel
theorem dX1_hasLeft_8 : decode mX1_hasLeft.2.1 8 = .ok (.aload_n 0, 1) := by decide +kernel
theorem dX1_hasLeft_9 : decode mX1_hasLeft.2.1 9 = .ok (.getfield 50, 3) := by decide +kernel
theorem dX1_hasLeft_12 : decode mX1_hasLeft.2.1 12 = .ok (.iload_n 1, 1) := by decide +kernel
theorem dX1_hasLeft_13 : decode mX1_hasLeft.2.1 13 = .ok (.if_icmp .ne 7, 3) := by decide +kernel
theorem dX1_hasLeft_16 : decode mX1_hasLeft.2.1 16 = .ok (.iconst 1, 1) := by decide +kernel
theorem dX1_hasLeft_17 : decode mX1_hasLeft.2.1 17 = .ok (.goto 4, 3) := by decide +kernel
theorem dX1_hasLeft_20 : decode mX1_hasLeft.2.1 20 = .ok (.iconst 0, 1) := by decide +kernel
theorem dX1_hasLeft_21 : decode mX1_hasLeft.2.1 21 = .ok (.ireturn, 1) := by decide +kernel
theorem dX1_spot_0 : decode mX1_spot.2.1 0 = .ok (.sipush 6000, 3) := by decide +kernel
theorem dX1_spot_3 : decode mX1_spot.2.1 3 = .ok (.aload_n 0, 1) := by decide +kernel
theorem dX1_spot_4 : decode mX1_spot.2.1 4 = .ok (.getfield 50, 3) := by decide +kernel
theorem dX1_spot_7 : decode mX1_spot.2.1 7 = .ok (.imul, 1) := by decide +kernel
theorem dX1_spot_8 : decode mX1_spot.2.1 8 = .ok (.aload_n 0, 1) := by decide +kernel
theorem dX1_spot_9 : decode mX1_spot.2.1 9 = .ok (.getfield 27, 3) := by decide +kernel
theorem dX1_spot_12 : decode mX1_spot.2.1 12 = .ok (.iadd, 1) := by decide +kernel
theorem dX1_spot_13 : decode mX1_spot.2.1 13 = .ok (.ireturn, 1) := by decide +kernel
end
section
/-! decode rows -/
theorem dX2_init_0 : decode mX2_init.2.1 0 = .ok (.aload_n 0, 1) := by decide +kernel
theorem dX2_init_1 : decode mX2_init.2.1 1 = .ok (.invokespecial 3, 3) := by decide +kernel
theorem dX2_init_4 : decode mX2_init.2.1 4 = .ok (.aload_n 0, 1) := by decide +kernel
theorem dX2_init_5 : decode mX2_init.2.1 5 = .ok (.bipush 20, 2) := by decide +kernel
theorem dX2_init_7 : decode mX2_init.2.1 7 = .ok (.anewarray 9, 3) := by decide +kernel
theorem dX2_init_10 : decode mX2_init.2.1 10 = .ok (.putfield 11, 3) := by decide +kernel
theorem dX2_init_13 : decode mX2_init.2.1 13 = .ok (.aload_n 0, 1) := by decide +kernel
theorem dX2_init_14 : decode mX2_init.2.1 14 = .ok (.iconst 0, 1) := by decide +kernel
theorem dX2_init_15 : decode mX2_init.2.1 15 = .ok (.putfield 17, 3) := by decide +kernel
theorem dX2_init_18 : decode mX2_init.2.1 18 = .ok (.return_, 1) := by decide +kernel
theorem dX2_hasRoom_0 : decode mX2_hasRoom.2.1 0 = .ok (.aload_n 0, 1) := by decide +kernel
theorem dX2_hasRoom_1 : decode mX2_hasRoom.2.1 1 = .ok (.getfield 17, 3) := by decide +kernel
theorem dX2_hasRoom_4 : decode mX2_hasRoom.2.1 4 = .ok (.bipush 20, 2) := by decide +kernel
theorem dX2_hasRoom_6 : decode mX2_hasRoom.2.1 6 = .ok (.if_icmp .ge 7, 3) := by decide +kernel
theorem dX2_hasRoom_9 : decode mX2_hasRoom.2.1 9 = .ok (.iconst 1, 1) := by decide +kernel
theorem dX2_hasRoom_10 : decode mX2_hasRoom.2.1 10 = .ok (.goto 4, 3) := by decide +kernel
theorem dX2_hasRoom_13 : decode mX2_hasRoom.2.1 13 = .ok (.iconst 0, 1) := by decide +kernel
theorem dX2_hasRoom_14 : decode mX2_hasRoom.2.1 14 = .ok (.ireturn, 1) := by decide +kernel
theorem dX2_cabinAt_0 : decode mX2_cabinAt.2.1 0 = .ok (.iload_n 1, 1) := by decide +kernel
theorem dX2_cabinAt_1 : decode mX2_cabinAt.2.1 1 = .ok (.ifCond .lt 11, 3) := by decide +kernel
theorem dX2_cabinAt_4 : decode mX2_cabinAt.2.1 4 = .ok (.iload_n 1, 1) := by decide +kernel
theorem dX2_cabinAt_5 : decode mX2_cabinAt.2.1 5 = .ok (.aload_n 0, 1) := by decide +kernel
theorem dX2_cabinAt_6 : decode mX2_cabinAt.2.1 6 = .ok (.getfield 17, 3) := by decide +kernel
theorem dX2_cabinAt_9 : decode mX2_cabinAt.2.1 9 = .ok (.if_icmp .lt 7, 3) := by decide +kernel
theorem dX2_cabinAt_12 : decode mX2_cabinAt.2.1 12 = .ok (.aconst_null, 1) := by decide +kernel
theorem dX2_cabinAt_13 : decode mX2_cabinAt.2.1 13 = .ok (.goto 9, 3) := by decide +kernel
theorem dX2_cabinAt_16 : decode mX2_cabinAt.2.1 16 = .ok (.aload_n 0, 1) := by decide +kernel
theorem dX2_cabinAt_17 : decode mX2_cabinAt.2.1 17 = .ok (.getfield 11, 3) := by decide +kernel
theorem dX2_cabinAt_20 : decode mX2_cabinAt.2.1 20 = .ok (.iload_n 1, 1) := by decide +kernel
theorem dX2_cabinAt_21 : decode mX2_cabinAt.2.1 21 = .ok (.aaload, 1) := by decide +kernel
theorem dX2_cabinAt_22 : decode mX2_cabinAt.2.1 22 = .ok (.areturn, 1) := by decide +kernel
theorem dX2_append_0 : decode mX2_append.2.1 0 = .ok (.aload_n 0, 1) := by decide +kernel
theorem dX2_append_1 : decode mX2_append.2.1 1 = .ok (.invokevirtual 21, 3) := by decide +kernel
theorem dX2_append_4 : decode mX2_append.2.1 4 = .ok (.ifCond .eq 28, 3) := by decide +kernel
theorem dX2_append_7 : decode mX2_append.2.1 7 = .ok (.aload_n 1, 1) := by decide +kernel
theorem dX2_append_8 : decode mX2_append.2.1 8 = .ok (.iconst 1, 1) := by decide +kernel
theorem dX2_append_9 : decode mX2_append.2.1 9 = .ok (.invokevirtual 25, 3) := by decide +kernel
theorem dX2_append_12 : decode mX2_append.2.1 12 = .ok (.aload_n 0, 1) := by decide +kernel
theorem dX2_append_13 : decode mX2_append.2.1 13 = .ok (.getfield 11, 3) := by decide +kernel
theorem dX2_append_16 : decode mX2_append.2.1 16 = .ok (.aload_n 0, 1) := by decide +kernel
theorem dX2_append_17 : decode mX2_append.2.1 17 = .ok (.getfield 17, 3) := by decide +kernel
theorem dX2_append_20 : decode mX2_append.2.1 20 = .ok (.aload_n 1, 1) := by decide +kernel
theorem dX2_append_21 : decode mX2_append.2.1 21 = .ok (.aastore, 1) := by decide +kernel
theorem dX2_append_22 : decode mX2_append.2.1 22 = .ok (.aload_n 0, 1) := by decide +kernel
theorem dX2_append_23 : decode mX2_append.2.1 23 = .ok (.dup, 1) := by decide +kernel
theorem dX2_append_24 : decode mX2_append.2.1 24 = .ok (.getfield 17, 3) := by decide +kernel
theorem dX2_append_27 : decode mX2_append.2.1 27 = .ok (.iconst 1, 1) := by decide +kernel
theorem dX2_append_28 : decode mX2_append.2.1 28 = .ok (.iadd, 1) := by decide +kernel
theorem dX2_append_29 : decode mX2_append.2.1 29 = .ok (.putfield 17, 3) := by decide +kernel
theorem dX2_append_32 : decode mX2_append.2.1 32 = .ok (.return_, 1) := by decide +kernel
theorem dX2_remove_0 : decode mX2_remove.2.1 0 = .ok (.aload_n 0, 1) := by decide +kernel
theorem dX2_remove_1 : decode mX2_remove.2.1 1 = .ok (.aload_n 1, 1) := by decide +kernel
theorem dX2_remove_2 : decode mX2_remove.2.1 2 = .ok (.invokevirtual 29, 3) := by decide +kernel
theorem dX2_remove_5 : decode mX2_remove.2.1 5 = .ok (.istore_n 2, 1) := by decide +kernel
theorem dX2_remove_6 : decode mX2_remove.2.1 6 = .ok (.iload_n 2, 1) := by decide +kernel
theorem dX2_remove_7 : decode mX2_remove.2.1 7 = .ok (.ifCond .ge 4, 3) := by decide +kernel
theorem dX2_remove_10 : decode mX2_remove.2.1 10 = .ok (.return_, 1) := by decide +kernel
theorem dX2_remove_11 : decode mX2_remove.2.1 11 = .ok (.iload_n 2, 1) := by decide +kernel
theorem dX2_remove_12 : decode mX2_remove.2.1 12 = .ok (.iconst 1, 1) := by decide +kernel
theorem dX2_remove_13 : decode mX2_remove.2.1 13 = .ok (.iadd, 1) := by decide +kernel
theorem dX2_remove_14 : decode mX2_remove.2.1 14 = .ok (.istore_n 3, 1) := by decide +kernel
theorem dX2_remove_15 : decode mX2_remove.2.1 15 = .ok (.iload_n 3, 1) := by decide +kernel
theorem dX2_remove_16 : decode mX2_remove.2.1 16 = .ok (.aload_n 0, 1) := by decide +kernel
theorem dX2_remove_17 : decode mX2_remove.2.1 17 = .ok (.getfield 17, 3) := by decide +kernel
theorem dX2_remove_20 : decode mX2_remove.2.1 20 = .ok (.if_icmp .ge 23, 3) := by decide +kernel
theorem dX2_remove_23 : decode mX2_remove.2.1 23 = .ok (.aload_n 0, 1) := by decide +kernel
theorem dX2_remove_24 : decode mX2_remove.2.1 24 = .ok (.getfield 11, 3) := by decide +kernel
theorem dX2_remove_27 : decode mX2_remove.2.1 27 = .ok (.iload_n 3, 1) := by decide +kernel
theorem dX2_remove_28 : decode mX2_remove.2.1 28 = .ok (.iconst 1, 1) := by decide +kernel
theorem dX2_remove_29 : decode mX2_remove.2.1 29 = .ok (.isub, 1) := by decide +kernel
theorem dX2_remove_30 : decode mX2_remove.2.1 30 = .ok (.aload_n 0, 1) := by decide +kernel
theorem dX2_remove_31 : decode mX2_remove.2.1 31 = .ok (.getfield 11, 3) := by decide +kernel
theorem dX2_remove_34 : decode mX2_remove.2.1 34 = .ok (.iload_n 3, 1) := by decide +kernel
theorem dX2_remove_35 : decode mX2_remove.2.1 35 = .ok (.aaload, 1) := by decide +kernel
theorem dX2_remove_36 : decode mX2_remove.2.1 36 = .ok (.aastore, 1) := by decide +kernel
theorem dX2_remove_37 : decode mX2_remove.2.1 37 = .ok (.iinc 3 1, 3) := by decide +kernel
theorem dX2_remove_40 : decode mX2_remove.2.1 40 = .ok (.goto (-25), 3) := by decide +kernel
theorem dX2_remove_43 : decode mX2_remove.2.1 43 = .ok (.aload_n 0, 1) := by decide +kernel
theorem dX2_remove_44 : decode mX2_remove.2.1 44 = .ok (.dup, 1) := by decide +kernel
theorem dX2_remove_45 : decode mX2_remove.2.1 45 = .ok (.getfield 17, 3) := by decide +kernel
theorem dX2_remove_48 : decode mX2_remove.2.1 48 = .ok (.iconst 1, 1) := by decide +kernel
theorem dX2_remove_49 : decode mX2_remove.2.1 49 = .ok (.isub, 1) := by decide +kernel
theorem dX2_remove_50 : decode mX2_remove.2.1 50 = .ok (.putfield 17, 3) := by decide +kernel
theorem dX2_remove_53 : decode mX2_remove.2.1 53 = .ok (.aload_n 0, 1) := by decide +kernel
theorem dX2_remove_54 : decode mX2_remove.2.1 54 = .ok (.getfield 11, 3) := by decide +kernel
theorem dX2_remove_57 : decode mX2_remove.2.1 57 = .ok (.aload_n 0, 1) := by decide +kernel
theorem dX2_remove_58 : decode mX2_remove.2.1 58 = .ok (.getfield 17, 3) := by decide +kernel
theorem dX2_remove_61 : decode mX2_remove.2.1 61 = .ok (.aconst_null, 1) := by decide +kernel
theorem dX2_remove_62 : decode mX2_remove.2.1 62 = .ok (.aastore, 1) := by decide +kernel
theorem dX2_remove_63 : decode mX2_remove.2.1 63 = .ok (.return_, 1) := by decide +kernel
theorem dX2_placeOf_0 : decode mX2_placeOf.2.1 0 = .ok (.iconst 0, 1) := by decide +kernel
theorem dX2_placeOf_1 : decode mX2_placeOf.2.1 1 = .ok (.istore_n 2, 1) := by decide +kernel
theorem dX2_placeOf_2 : decode mX2_placeOf.2.1 2 = .ok (.iload_n 2, 1) := by decide +kernel
theorem dX2_placeOf_3 : decode mX2_placeOf.2.1 3 = .ok (.aload_n 0, 1) := by decide +kernel
theorem dX2_placeOf_4 : decode mX2_placeOf.2.1 4 = .ok (.getfield 17, 3) := by decide +kernel
theorem dX2_placeOf_7 : decode mX2_placeOf.2.1 7 = .ok (.if_icmp .ge 21, 3) := by decide +kernel
theorem dX2_placeOf_10 : decode mX2_placeOf.2.1 10 = .ok (.aload_n 0, 1) := by decide +kernel
theorem dX2_placeOf_11 : decode mX2_placeOf.2.1 11 = .ok (.getfield 11, 3) := by decide +kernel
theorem dX2_placeOf_14 : decode mX2_placeOf.2.1 14 = .ok (.iload_n 2, 1) := by decide +kernel
theorem dX2_placeOf_15 : decode mX2_placeOf.2.1 15 = .ok (.aaload, 1) := by decide +kernel
theorem dX2_placeOf_16 : decode mX2_placeOf.2.1 16 = .ok (.aload_n 1, 1) := by decide +kernel
theorem dX2_placeOf_17 : decode mX2_placeOf.2.1 17 = .ok (.if_acmp .ne 5, 3) := by decide +kernel
theorem dX2_placeOf_20 : decode mX2_placeOf.2.1 20 = .ok (.iload_n 2, 1) := by decide +kernel
theorem dX2_placeOf_21 : decode mX2_placeOf.2.1 21 = .ok (.ireturn, 1) := by decide +kernel
theorem dX2_placeOf_22 : decode mX2_placeOf.2.1 22 = .ok (.iinc 2 1, 3) := by decide +kernel
theorem dX2_placeOf_25 : decode mX2_placeOf.2.1 25 = .ok (.goto (-23), 3) := by decide +kernel
theorem dX2_placeOf_28 : decode mX2_placeOf.2.1 28 = .ok (.iconst (-1), 1) := by decide +kernel
theorem dX2_placeOf_29 : decode mX2_placeOf.2.1 29 = .ok (.ireturn, 1) := by decide +kernel
theorem dX3_init_0 : decode mX3_init.2.1 0 = .ok (.aload_n 0, 1) := by decide +kernel
theorem dX3_init_1 : decode mX3_init.2.1 1 = .ok (.invokespecial 3, 3) := by decide +kernel
theorem dX3_init_4 : decode mX3_init.2.1 4 = .ok (.aload_n 0, 1) := by decide +kernel
theorem dX3_init_5 : decode mX3_init.2.1 5 = .ok (.bipush 13, 2) := by decide +kernel
theorem dX3_init_7 : decode mX3_init.2.1 7 = .ok (.anewarray 9, 3) := by decide +kernel
theorem dX3_init_10 : decode mX3_init.2.1 10 = .ok (.putfield 11, 3) := by decide +kernel
theorem dX3_init_13 : decode mX3_init.2.1 13 = .ok (.aload_n 0, 1) := by decide +kernel
theorem dX3_init_14 : decode mX3_init.2.1 14 = .ok (.iload_n 1, 1) := by decide +kernel
theorem dX3_init_15 : decode mX3_init.2.1 15 = .ok (.putfield 17, 3) := by decide +kernel
theorem dX3_init_18 : decode mX3_init.2.1 18 = .ok (.return_, 1) := by decide +kernel
theorem dX3_admit_0 : decode mX3_admit.2.1 0 = .ok (.aload_n 1, 1) := by decide +kernel
theorem dX3_admit_1 : decode mX3_admit.2.1 1 = .ok (.iconst 2, 1) := by decide +kernel
theorem dX3_admit_2 : decode mX3_admit.2.1 2 = .ok (.invokevirtual 21, 3) := by decide +kernel
theorem dX3_admit_5 : decode mX3_admit.2.1 5 = .ok (.aload_n 1, 1) := by decide +kernel
theorem dX3_admit_6 : decode mX3_admit.2.1 6 = .ok (.aload_n 0, 1) := by decide +kernel
theorem dX3_admit_7 : decode mX3_admit.2.1 7 = .ok (.getfield 17, 3) := by decide +kernel
theorem dX3_admit_10 : decode mX3_admit.2.1 10 = .ok (.putfield 25, 3) := by decide +kernel
theorem dX3_admit_13 : decode mX3_admit.2.1 13 = .ok (.aload_n 1, 1) := by decide +kernel
theorem dX3_admit_14 : decode mX3_admit.2.1 14 = .ok (.iload_n 2, 1) := by decide +kernel
theorem dX3_admit_15 : decode mX3_admit.2.1 15 = .ok (.putfield 28, 3) := by decide +kernel
theorem dX3_admit_18 : decode mX3_admit.2.1 18 = .ok (.aload_n 1, 1) := by decide +kernel
theorem dX3_admit_19 : decode mX3_admit.2.1 19 = .ok (.iconst 0, 1) := by decide +kernel
theorem dX3_admit_20 : decode mX3_admit.2.1 20 = .ok (.putfield 31, 3) := by decide +kernel
theorem dX3_admit_23 : decode mX3_admit.2.1 23 = .ok (.aload_n 0, 1) := by decide +kernel
theorem dX3_admit_24 : decode mX3_admit.2.1 24 = .ok (.getfield 11, 3) := by decide +kernel
theorem dX3_admit_27 : decode mX3_admit.2.1 27 = .ok (.iload_n 2, 1) := by decide +kernel
theorem dX3_admit_28 : decode mX3_admit.2.1 28 = .ok (.aload_n 1, 1) := by decide +kernel
theorem dX3_admit_29 : decode mX3_admit.2.1 29 = .ok (.aastore, 1) := by decide +kernel
theorem dX3_admit_30 : decode mX3_admit.2.1 30 = .ok (.return_, 1) := by decide +kernel
theorem dX3_goOn_0 : decode mX3_goOn.2.1 0 = .ok (.aload_n 0, 1) := by decide +kernel
theorem dX3_goOn_1 : decode mX3_goOn.2.1 1 = .ok (.getfield 11, 3) := by decide +kernel
theorem dX3_goOn_4 : decode mX3_goOn.2.1 4 = .ok (.iload_n 1, 1) := by decide +kernel
theorem dX3_goOn_5 : decode mX3_goOn.2.1 5 = .ok (.aaload, 1) := by decide +kernel
theorem dX3_goOn_6 : decode mX3_goOn.2.1 6 = .ok (.astore_n 2, 1) := by decide +kernel
theorem dX3_goOn_7 : decode mX3_goOn.2.1 7 = .ok (.aload_n 2, 1) := by decide +kernel
theorem dX3_goOn_8 : decode mX3_goOn.2.1 8 = .ok (.ifnull 38, 3) := by decide +kernel
theorem dX3_goOn_11 : decode mX3_goOn.2.1 11 = .ok (.aload_n 2, 1) := by decide +kernel
theorem dX3_goOn_12 : decode mX3_goOn.2.1 12 = .ok (.getfield 31, 3) := by decide +kernel
theorem dX3_goOn_15 : decode mX3_goOn.2.1 15 = .ok (.bipush 15, 2) := by decide +kernel
theorem dX3_goOn_17 : decode mX3_goOn.2.1 17 = .ok (.if_icmp .lt 29, 3) := by decide +kernel
theorem dX3_goOn_20 : decode mX3_goOn.2.1 20 = .ok (.aload_n 0, 1) := by decide +kernel
theorem dX3_goOn_21 : decode mX3_goOn.2.1 21 = .ok (.getfield 11, 3) := by decide +kernel
theorem dX3_goOn_24 : decode mX3_goOn.2.1 24 = .ok (.iload_n 1, 1) := by decide +kernel
theorem dX3_goOn_25 : decode mX3_goOn.2.1 25 = .ok (.iconst 1, 1) := by decide +kernel
theorem dX3_goOn_26 : decode mX3_goOn.2.1 26 = .ok (.iadd, 1) := by decide +kernel
theorem dX3_goOn_27 : decode mX3_goOn.2.1 27 = .ok (.aaload, 1) := by decide +kernel
theorem dX3_goOn_28 : decode mX3_goOn.2.1 28 = .ok (.ifnonnull 18, 3) := by decide +kernel
theorem dX3_goOn_31 : decode mX3_goOn.2.1 31 = .ok (.aload_n 0, 1) := by decide +kernel
theorem dX3_goOn_32 : decode mX3_goOn.2.1 32 = .ok (.getfield 11, 3) := by decide +kernel
theorem dX3_goOn_35 : decode mX3_goOn.2.1 35 = .ok (.iload_n 1, 1) := by decide +kernel
theorem dX3_goOn_36 : decode mX3_goOn.2.1 36 = .ok (.aconst_null, 1) := by decide +kernel
theorem dX3_goOn_37 : decode mX3_goOn.2.1 37 = .ok (.aastore, 1) := by decide +kernel
theorem dX3_goOn_38 : decode mX3_goOn.2.1 38 = .ok (.aload_n 0, 1) := by decide +kernel
theorem dX3_goOn_39 : decode mX3_goOn.2.1 39 = .ok (.aload_n 2, 1) := by decide +kernel
theorem dX3_goOn_40 : decode mX3_goOn.2.1 40 = .ok (.iload_n 1, 1) := by decide +kernel
theorem dX3_goOn_41 : decode mX3_goOn.2.1 41 = .ok (.iconst 1, 1) := by decide +kernel
theorem dX3_goOn_42 : decode mX3_goOn.2.1 42 = .ok (.iadd, 1) := by decide +kernel
theorem dX3_goOn_43 : decode mX3_goOn.2.1 43 = .ok (.invokevirtual 34, 3) := by decide +kernel
theorem dX3_goOn_46 : decode mX3_goOn.2.1 46 = .ok (.return_, 1) := by decide +kernel
theorem dX3_isEmptyUpTo_0 : decode mX3_isEmptyUpTo.2.1 0 = .ok (.iconst 1, 1) := by decide +kernel
theorem dX3_isEmptyUpTo_1 : decode mX3_isEmptyUpTo.2.1 1 = .ok (.istore_n 2, 1) := by decide +kernel
theorem dX3_isEmptyUpTo_2 : decode mX3_isEmptyUpTo.2.1 2 = .ok (.iload_n 2, 1) := by decide +kernel
theorem dX3_isEmptyUpTo_3 : decode mX3_isEmptyUpTo.2.1 3 = .ok (.iload_n 1, 1) := by decide +kernel
theorem dX3_isEmptyUpTo_4 : decode mX3_isEmptyUpTo.2.1 4 = .ok (.if_icmp .gt 20, 3) := by decide +kernel
theorem dX3_isEmptyUpTo_7 : decode mX3_isEmptyUpTo.2.1 7 = .ok (.aload_n 0, 1) := by decide +kernel
theorem dX3_isEmptyUpTo_8 : decode mX3_isEmptyUpTo.2.1 8 = .ok (.getfield 11, 3) := by decide +kernel
theorem dX3_isEmptyUpTo_11 : decode mX3_isEmptyUpTo.2.1 11 = .ok (.iload_n 2, 1) := by decide +kernel
theorem dX3_isEmptyUpTo_12 : decode mX3_isEmptyUpTo.2.1 12 = .ok (.aaload, 1) := by decide +kernel
theorem dX3_isEmptyUpTo_13 : decode mX3_isEmptyUpTo.2.1 13 = .ok (.ifnull 5, 3) := by decide +kernel
theorem dX3_isEmptyUpTo_16 : decode mX3_isEmptyUpTo.2.1 16 = .ok (.iconst 0, 1) := by decide +kernel
theorem dX3_isEmptyUpTo_17 : decode mX3_isEmptyUpTo.2.1 17 = .ok (.ireturn, 1) := by decide +kernel
theorem dX3_isEmptyUpTo_18 : decode mX3_isEmptyUpTo.2.1 18 = .ok (.iinc 2 1, 3) := by decide +kernel
theorem dX3_isEmptyUpTo_21 : decode mX3_isEmptyUpTo.2.1 21 = .ok (.goto (-19), 3) := by decide +kernel
theorem dX3_isEmptyUpTo_24 : decode mX3_isEmptyUpTo.2.1 24 = .ok (.iconst 1, 1) := by decide +kernel
theorem dX3_isEmptyUpTo_25 : decode mX3_isEmptyUpTo.2.1 25 = .ok (.ireturn, 1) := by decide +kernel
theorem dX3_count_0 : decode mX3_count.2.1 0 = .ok (.iconst 0, 1) := by decide +kernel
theorem dX3_count_1 : decode mX3_count.2.1 1 = .ok (.istore_n 1, 1) := by decide +kernel
theorem dX3_count_2 : decode mX3_count.2.1 2 = .ok (.iconst 1, 1) := by decide +kernel
theorem dX3_count_3 : decode mX3_count.2.1 3 = .ok (.istore_n 2, 1) := by decide +kernel
theorem dX3_count_4 : decode mX3_count.2.1 4 = .ok (.iload_n 2, 1) := by decide +kernel
theorem dX3_count_5 : decode mX3_count.2.1 5 = .ok (.bipush 12, 2) := by decide +kernel
theorem dX3_count_7 : decode mX3_count.2.1 7 = .ok (.if_icmp .gt 21, 3) := by decide +kernel
theorem dX3_count_10 : decode mX3_count.2.1 10 = .ok (.aload_n 0, 1) := by decide +kernel
theorem dX3_count_11 : decode mX3_count.2.1 11 = .ok (.getfield 11, 3) := by decide +kernel
theorem dX3_count_14 : decode mX3_count.2.1 14 = .ok (.iload_n 2, 1) := by decide +kernel
theorem dX3_count_15 : decode mX3_count.2.1 15 = .ok (.aaload, 1) := by decide +kernel
theorem dX3_count_16 : decode mX3_count.2.1 16 = .ok (.ifnull 6, 3) := by decide +kernel
theorem dX3_count_19 : decode mX3_count.2.1 19 = .ok (.iinc 1 1, 3) := by decide +kernel
theorem dX3_count_22 : decode mX3_count.2.1 22 = .ok (.iinc 2 1, 3) := by decide +kernel
theorem dX3_count_25 : decode mX3_count.2.1 25 = .ok (.goto (-21), 3) := by decide +kernel
theorem dX3_count_28 : decode mX3_count.2.1 28 = .ok (.iload_n 1, 1) := by decide +kernel
theorem dX3_count_29 : decode mX3_count.2.1 29 = .ok (.ireturn, 1) := by decide +kernel
theorem dX4_init_0 : decode mX4_init.2.1 0 = .ok (.aload_n 0, 1) := by decide +kernel
theorem dX4_init_1 : decode mX4_init.2.1 1 = .ok (.invokespecial 1, 3) := by decide +kernel
theorem dX4_init_4 : decode mX4_init.2.1 4 = .ok (.aload_n 0, 1) := by decide +kernel
theorem dX4_init_5 : decode mX4_init.2.1 5 = .ok (.iconst 5, 1) := by decide +kernel
theorem dX4_init_6 : decode mX4_init.2.1 6 = .ok (.newarray .int, 2) := by decide +kernel
theorem dX4_init_8 : decode mX4_init.2.1 8 = .ok (.putfield 9, 3) := by decide +kernel
theorem dX4_init_11 : decode mX4_init.2.1 11 = .ok (.aload_n 0, 1) := by decide +kernel
theorem dX4_init_12 : decode mX4_init.2.1 12 = .ok (.iconst 5, 1) := by decide +kernel
theorem dX4_init_13 : decode mX4_init.2.1 13 = .ok (.newarray .int, 2) := by decide +kernel
theorem dX4_init_15 : decode mX4_init.2.1 15 = .ok (.putfield 13, 3) := by decide +kernel
theorem dX4_init_18 : decode mX4_init.2.1 18 = .ok (.aload_n 0, 1) := by decide +kernel
theorem dX4_init_19 : decode mX4_init.2.1 19 = .ok (.iconst 0, 1) := by decide +kernel
theorem dX4_init_20 : decode mX4_init.2.1 20 = .ok (.putfield 16, 3) := by decide +kernel
theorem dX4_init_23 : decode mX4_init.2.1 23 = .ok (.aload_n 0, 1) := by decide +kernel
theorem dX4_init_24 : decode mX4_init.2.1 24 = .ok (.iconst 0, 1) := by decide +kernel
theorem dX4_init_25 : decode mX4_init.2.1 25 = .ok (.putfield 20, 3) := by decide +kernel
theorem dX4_init_28 : decode mX4_init.2.1 28 = .ok (.aload_n 0, 1) := by decide +kernel
theorem dX4_init_29 : decode mX4_init.2.1 29 = .ok (.iconst 0, 1) := by decide +kernel
theorem dX4_init_30 : decode mX4_init.2.1 30 = .ok (.putfield 23, 3) := by decide +kernel
theorem dX4_init_33 : decode mX4_init.2.1 33 = .ok (.return_, 1) := by decide +kernel
theorem dX4_report_0 : decode mX4_report.2.1 0 = .ok (.aload_n 0, 1) := by decide +kernel
theorem dX4_report_1 : decode mX4_report.2.1 1 = .ok (.getfield 16, 3) := by decide +kernel
theorem dX4_report_4 : decode mX4_report.2.1 4 = .ok (.iconst 5, 1) := by decide +kernel
theorem dX4_report_5 : decode mX4_report.2.1 5 = .ok (.if_icmp .ge 26, 3) := by decide +kernel
theorem dX4_report_8 : decode mX4_report.2.1 8 = .ok (.aload_n 0, 1) := by decide +kernel
theorem dX4_report_9 : decode mX4_report.2.1 9 = .ok (.getfield 9, 3) := by decide +kernel
theorem dX4_report_12 : decode mX4_report.2.1 12 = .ok (.aload_n 0, 1) := by decide +kernel
theorem dX4_report_13 : decode mX4_report.2.1 13 = .ok (.getfield 16, 3) := by decide +kernel
theorem dX4_report_16 : decode mX4_report.2.1 16 = .ok (.iload_n 1, 1) := by decide +kernel
theorem dX4_report_17 : decode mX4_report.2.1 17 = .ok (.iastore, 1) := by decide +kernel
theorem dX4_report_18 : decode mX4_report.2.1 18 = .ok (.aload_n 0, 1) := by decide +kernel
theorem dX4_report_19 : decode mX4_report.2.1 19 = .ok (.dup, 1) := by decide +kernel
theorem dX4_report_20 : decode mX4_report.2.1 20 = .ok (.getfield 16, 3) := by decide +kernel
theorem dX4_report_23 : decode mX4_report.2.1 23 = .ok (.iconst 1, 1) := by decide +kernel
theorem dX4_report_24 : decode mX4_report.2.1 24 = .ok (.iadd, 1) := by decide +kernel
theorem dX4_report_25 : decode mX4_report.2.1 25 = .ok (.putfield 16, 3) := by decide +kernel
theorem dX4_report_28 : decode mX4_report.2.1 28 = .ok (.goto 25, 3) := by decide +kernel
theorem dX4_report_31 : decode mX4_report.2.1 31 = .ok (.aload_n 0, 1) := by decide +kernel
theorem dX4_report_32 : decode mX4_report.2.1 32 = .ok (.getfield 9, 3) := by decide +kernel
theorem dX4_report_35 : decode mX4_report.2.1 35 = .ok (.aload_n 0, 1) := by decide +kernel
theorem dX4_report_36 : decode mX4_report.2.1 36 = .ok (.getfield 20, 3) := by decide +kernel
theorem dX4_report_39 : decode mX4_report.2.1 39 = .ok (.iload_n 1, 1) := by decide +kernel
theorem dX4_report_40 : decode mX4_report.2.1 40 = .ok (.iastore, 1) := by decide +kernel
theorem dX4_report_41 : decode mX4_report.2.1 41 = .ok (.aload_n 0, 1) := by decide +kernel
theorem dX4_report_42 : decode mX4_report.2.1 42 = .ok (.aload_n 0, 1) := by decide +kernel
theorem dX4_report_43 : decode mX4_report.2.1 43 = .ok (.getfield 20, 3) := by decide +kernel
theorem dX4_report_46 : decode mX4_report.2.1 46 = .ok (.iconst 1, 1) := by decide +kernel
theorem dX4_report_47 : decode mX4_report.2.1 47 = .ok (.iadd, 1) := by decide +kernel
theorem dX4_report_48 : decode mX4_report.2.1 48 = .ok (.iconst 5, 1) := by decide +kernel
theorem dX4_report_49 : decode mX4_report.2.1 49 = .ok (.irem, 1) := by decide +kernel
theorem dX4_report_50 : decode mX4_report.2.1 50 = .ok (.putfield 20, 3) := by decide +kernel
theorem dX4_report_53 : decode mX4_report.2.1 53 = .ok (.iconst 0, 1) := by decide +kernel
theorem dX4_report_54 : decode mX4_report.2.1 54 = .ok (.istore_n 2, 1) := by decide +kernel
theorem dX4_report_55 : decode mX4_report.2.1 55 = .ok (.iload_n 2, 1) := by decide +kernel
theorem dX4_report_56 : decode mX4_report.2.1 56 = .ok (.aload_n 0, 1) := by decide +kernel
theorem dX4_report_57 : decode mX4_report.2.1 57 = .ok (.getfield 16, 3) := by decide +kernel
theorem dX4_report_60 : decode mX4_report.2.1 60 = .ok (.if_icmp .ge 20, 3) := by decide +kernel
theorem dX4_report_63 : decode mX4_report.2.1 63 = .ok (.aload_n 0, 1) := by decide +kernel
theorem dX4_report_64 : decode mX4_report.2.1 64 = .ok (.aload_n 0, 1) := by decide +kernel
theorem dX4_report_65 : decode mX4_report.2.1 65 = .ok (.getfield 9, 3) := by decide +kernel
theorem dX4_report_68 : decode mX4_report.2.1 68 = .ok (.iload_n 2, 1) := by decide +kernel
theorem dX4_report_69 : decode mX4_report.2.1 69 = .ok (.iaload, 1) := by decide +kernel
theorem dX4_report_70 : decode mX4_report.2.1 70 = .ok (.iload_n 2, 1) := by decide +kernel
theorem dX4_report_71 : decode mX4_report.2.1 71 = .ok (.invokevirtual 26, 3) := by decide +kernel
theorem dX4_report_74 : decode mX4_report.2.1 74 = .ok (.iinc 2 1, 3) := by decide +kernel
theorem dX4_report_77 : decode mX4_report.2.1 77 = .ok (.goto (-22), 3) := by decide +kernel
theorem dX4_report_80 : decode mX4_report.2.1 80 = .ok (.aload_n 0, 1) := by decide +kernel
theorem dX4_report_81 : decode mX4_report.2.1 81 = .ok (.aload_n 0, 1) := by decide +kernel
theorem dX4_report_82 : decode mX4_report.2.1 82 = .ok (.getfield 13, 3) := by decide +kernel
theorem dX4_report_85 : decode mX4_report.2.1 85 = .ok (.aload_n 0, 1) := by decide +kernel
theorem dX4_report_86 : decode mX4_report.2.1 86 = .ok (.getfield 16, 3) := by decide +kernel
theorem dX4_report_89 : decode mX4_report.2.1 89 = .ok (.iconst 2, 1) := by decide +kernel
theorem dX4_report_90 : decode mX4_report.2.1 90 = .ok (.idiv, 1) := by decide +kernel
theorem dX4_report_91 : decode mX4_report.2.1 91 = .ok (.iaload, 1) := by decide +kernel
theorem dX4_report_92 : decode mX4_report.2.1 92 = .ok (.putfield 23, 3) := by decide +kernel
theorem dX4_report_95 : decode mX4_report.2.1 95 = .ok (.return_, 1) := by decide +kernel
theorem dX4_sortIn_0 : decode mX4_sortIn.2.1 0 = .ok (.iload_n 2, 1) := by decide +kernel
theorem dX4_sortIn_1 : decode mX4_sortIn.2.1 1 = .ok (.istore_n 3, 1) := by decide +kernel
theorem dX4_sortIn_2 : decode mX4_sortIn.2.1 2 = .ok (.iload_n 3, 1) := by decide +kernel
theorem dX4_sortIn_3 : decode mX4_sortIn.2.1 3 = .ok (.ifCond .le 35, 3) := by decide +kernel
theorem dX4_sortIn_6 : decode mX4_sortIn.2.1 6 = .ok (.aload_n 0, 1) := by decide +kernel
theorem dX4_sortIn_7 : decode mX4_sortIn.2.1 7 = .ok (.getfield 13, 3) := by decide +kernel
theorem dX4_sortIn_10 : decode mX4_sortIn.2.1 10 = .ok (.iload_n 3, 1) := by decide +kernel
theorem dX4_sortIn_11 : decode mX4_sortIn.2.1 11 = .ok (.iconst 1, 1) := by decide +kernel
theorem dX4_sortIn_12 : decode mX4_sortIn.2.1 12 = .ok (.isub, 1) := by decide +kernel
theorem dX4_sortIn_13 : decode mX4_sortIn.2.1 13 = .ok (.iaload, 1) := by decide +kernel
theorem dX4_sortIn_14 : decode mX4_sortIn.2.1 14 = .ok (.iload_n 1, 1) := by decide +kernel
theorem dX4_sortIn_15 : decode mX4_sortIn.2.1 15 = .ok (.if_icmp .le 23, 3) := by decide +kernel
theorem dX4_sortIn_18 : decode mX4_sortIn.2.1 18 = .ok (.aload_n 0, 1) := by decide +kernel
theorem dX4_sortIn_19 : decode mX4_sortIn.2.1 19 = .ok (.getfield 13, 3) := by decide +kernel
theorem dX4_sortIn_22 : decode mX4_sortIn.2.1 22 = .ok (.iload_n 3, 1) := by decide +kernel
theorem dX4_sortIn_23 : decode mX4_sortIn.2.1 23 = .ok (.aload_n 0, 1) := by decide +kernel
theorem dX4_sortIn_24 : decode mX4_sortIn.2.1 24 = .ok (.getfield 13, 3) := by decide +kernel
theorem dX4_sortIn_27 : decode mX4_sortIn.2.1 27 = .ok (.iload_n 3, 1) := by decide +kernel
theorem dX4_sortIn_28 : decode mX4_sortIn.2.1 28 = .ok (.iconst 1, 1) := by decide +kernel
theorem dX4_sortIn_29 : decode mX4_sortIn.2.1 29 = .ok (.isub, 1) := by decide +kernel
theorem dX4_sortIn_30 : decode mX4_sortIn.2.1 30 = .ok (.iaload, 1) := by decide +kernel
theorem dX4_sortIn_31 : decode mX4_sortIn.2.1 31 = .ok (.iastore, 1) := by decide +kernel
theorem dX4_sortIn_32 : decode mX4_sortIn.2.1 32 = .ok (.iinc 3 (-1), 3) := by decide +kernel
theorem dX4_sortIn_35 : decode mX4_sortIn.2.1 35 = .ok (.goto (-33), 3) := by decide +kernel
theorem dX4_sortIn_38 : decode mX4_sortIn.2.1 38 = .ok (.aload_n 0, 1) := by decide +kernel
theorem dX4_sortIn_39 : decode mX4_sortIn.2.1 39 = .ok (.getfield 13, 3) := by decide +kernel
theorem dX4_sortIn_42 : decode mX4_sortIn.2.1 42 = .ok (.iload_n 3, 1) := by decide +kernel
theorem dX4_sortIn_43 : decode mX4_sortIn.2.1 43 = .ok (.iload_n 1, 1) := by decide +kernel
theorem dX4_sortIn_44 : decode mX4_sortIn.2.1 44 = .ok (.iastore, 1) := by decide +kernel
theorem dX4_sortIn_45 : decode mX4_sortIn.2.1 45 = .ok (.return_, 1) := by decide +kernel
theorem dJ_floorMod_0 : decode mJ_floorMod.2.1 0 = .ok (.iload_n 0, 1) := by decide +kernel
theorem dJ_floorMod_1 : decode mJ_floorMod.2.1 1 = .ok (.iload_n 1, 1) := by decide +kernel
theorem dJ_floorMod_2 : decode mJ_floorMod.2.1 2 = .ok (.irem, 1) := by decide +kernel
theorem dJ_floorMod_3 : decode mJ_floorMod.2.1 3 = .ok (.istore_n 2, 1) := by decide +kernel
theorem dJ_floorMod_4 : decode mJ_floorMod.2.1 4 = .ok (.iload_n 0, 1) := by decide +kernel
theorem dJ_floorMod_5 : decode mJ_floorMod.2.1 5 = .ok (.iload_n 1, 1) := by decide +kernel
theorem dJ_floorMod_6 : decode mJ_floorMod.2.1 6 = .ok (.ixor, 1) := by decide +kernel
theorem dJ_floorMod_7 : decode mJ_floorMod.2.1 7 = .ok (.ifCond .ge 11, 3) := by decide +kernel
theorem dJ_floorMod_10 : decode mJ_floorMod.2.1 10 = .ok (.iload_n 2, 1) := by decide +kernel
theorem dJ_floorMod_11 : decode mJ_floorMod.2.1 11 = .ok (.ifCond .eq 7, 3) := by decide +kernel
theorem dJ_floorMod_14 : decode mJ_floorMod.2.1 14 = .ok (.iload_n 2, 1) := by decide +kernel
theorem dJ_floorMod_15 : decode mJ_floorMod.2.1 15 = .ok (.iload_n 1, 1) := by decide +kernel
theorem dJ_floorMod_16 : decode mJ_floorMod.2.1 16 = .ok (.iadd, 1) := by decide +kernel
theorem dJ_floorMod_17 : decode mJ_floorMod.2.1 17 = .ok (.ireturn, 1) := by decide +kernel
theorem dJ_floorMod_18 : decode mJ_floorMod.2.1 18 = .ok (.iload_n 2, 1) := by decide +kernel
theorem dJ_floorMod_19 : decode mJ_floorMod.2.1 19 = .ok (.ireturn, 1) := by decide +kernel
end
section
/-! decode rows -/
theorem dX5_init_0 : decode mX5_init.2.1 0 = .ok (.aload_n 0, 1) := by decide +kernel
theorem dX5_init_1 : decode mX5_init.2.1 1 = .ok (.invokespecial 1, 3) := by decide +kernel
theorem dX5_init_4 : decode mX5_init.2.1 4 = .ok (.aload_n 0, 1) := by decide +kernel
theorem dX5_init_5 : decode mX5_init.2.1 5 = .ok (.new 7, 3) := by decide +kernel
theorem dX5_init_8 : decode mX5_init.2.1 8 = .ok (.dup, 1) := by decide +kernel
theorem dX5_init_9 : decode mX5_init.2.1 9 = .ok (.invokespecial 9, 3) := by decide +kernel
theorem dX5_init_12 : decode mX5_init.2.1 12 = .ok (.putfield 10, 3) := by decide +kernel
theorem dX5_init_15 : decode mX5_init.2.1 15 = .ok (.aload_n 0, 1) := by decide +kernel
theorem dX5_init_16 : decode mX5_init.2.1 16 = .ok (.iconst 2, 1) := by decide +kernel
theorem dX5_init_17 : decode mX5_init.2.1 17 = .ok (.anewarray 16, 3) := by decide +kernel
theorem dX5_init_20 : decode mX5_init.2.1 20 = .ok (.putfield 18, 3) := by decide +kernel
theorem dX5_init_23 : decode mX5_init.2.1 23 = .ok (.aload_n 0, 1) := by decide +kernel
theorem dX5_init_24 : decode mX5_init.2.1 24 = .ok (.new 22, 3) := by decide +kernel
theorem dX5_init_27 : decode mX5_init.2.1 27 = .ok (.dup, 1) := by decide +kernel
theorem dX5_init_28 : decode mX5_init.2.1 28 = .ok (.invokespecial 24, 3) := by decide +kernel
theorem dX5_init_31 : decode mX5_init.2.1 31 = .ok (.putfield 25, 3) := by decide +kernel
theorem dX5_init_34 : decode mX5_init.2.1 34 = .ok (.aload_n 0, 1) := by decide +kernel
theorem dX5_init_35 : decode mX5_init.2.1 35 = .ok (.new 29, 3) := by decide +kernel
theorem dX5_init_38 : decode mX5_init.2.1 38 = .ok (.dup, 1) := by decide +kernel
theorem dX5_init_39 : decode mX5_init.2.1 39 = .ok (.invokespecial 31, 3) := by decide +kernel
theorem dX5_init_42 : decode mX5_init.2.1 42 = .ok (.putfield 32, 3) := by decide +kernel
theorem dX5_init_45 : decode mX5_init.2.1 45 = .ok (.aload_n 0, 1) := by decide +kernel
theorem dX5_init_46 : decode mX5_init.2.1 46 = .ok (.iconst 0, 1) := by decide +kernel
theorem dX5_init_47 : decode mX5_init.2.1 47 = .ok (.putfield 36, 3) := by decide +kernel
theorem dX5_init_50 : decode mX5_init.2.1 50 = .ok (.aload_n 0, 1) := by decide +kernel
theorem dX5_init_51 : decode mX5_init.2.1 51 = .ok (.bipush 60, 2) := by decide +kernel
theorem dX5_init_53 : decode mX5_init.2.1 53 = .ok (.putfield 40, 3) := by decide +kernel
theorem dX5_init_56 : decode mX5_init.2.1 56 = .ok (.aload_n 0, 1) := by decide +kernel
theorem dX5_init_57 : decode mX5_init.2.1 57 = .ok (.iconst 0, 1) := by decide +kernel
theorem dX5_init_58 : decode mX5_init.2.1 58 = .ok (.putfield 43, 3) := by decide +kernel
theorem dX5_init_61 : decode mX5_init.2.1 61 = .ok (.aload_n 0, 1) := by decide +kernel
theorem dX5_init_62 : decode mX5_init.2.1 62 = .ok (.iconst 0, 1) := by decide +kernel
theorem dX5_init_63 : decode mX5_init.2.1 63 = .ok (.putfield 46, 3) := by decide +kernel
theorem dX5_init_66 : decode mX5_init.2.1 66 = .ok (.aload_n 0, 1) := by decide +kernel
theorem dX5_init_67 : decode mX5_init.2.1 67 = .ok (.iconst 0, 1) := by decide +kernel
theorem dX5_init_68 : decode mX5_init.2.1 68 = .ok (.putfield 49, 3) := by decide +kernel
theorem dX5_init_71 : decode mX5_init.2.1 71 = .ok (.aload_n 0, 1) := by decide +kernel
theorem dX5_init_72 : decode mX5_init.2.1 72 = .ok (.iconst 0, 1) := by decide +kernel
theorem dX5_init_73 : decode mX5_init.2.1 73 = .ok (.putfield 52, 3) := by decide +kernel
theorem dX5_init_76 : decode mX5_init.2.1 76 = .ok (.iconst 0, 1) := by decide +kernel
theorem dX5_init_77 : decode mX5_init.2.1 77 = .ok (.istore_n 1, 1) := by decide +kernel
theorem dX5_init_78 : decode mX5_init.2.1 78 = .ok (.iload_n 1, 1) := by decide +kernel
theorem dX5_init_79 : decode mX5_init.2.1 79 = .ok (.iconst 2, 1) := by decide +kernel
theorem dX5_init_80 : decode mX5_init.2.1 80 = .ok (.if_icmp .ge 23, 3) := by decide +kernel
theorem dX5_init_83 : decode mX5_init.2.1 83 = .ok (.aload_n 0, 1) := by decide +kernel
theorem dX5_init_84 : decode mX5_init.2.1 84 = .ok (.getfield 18, 3) := by decide +kernel
theorem dX5_init_87 : decode mX5_init.2.1 87 = .ok (.iload_n 1, 1) := by decide +kernel
theorem dX5_init_88 : decode mX5_init.2.1 88 = .ok (.new 16, 3) := by decide +kernel
theorem dX5_init_91 : decode mX5_init.2.1 91 = .ok (.dup, 1) := by decide +kernel
theorem dX5_init_92 : decode mX5_init.2.1 92 = .ok (.iload_n 1, 1) := by decide +kernel
theorem dX5_init_93 : decode mX5_init.2.1 93 = .ok (.invokespecial 55, 3) := by decide +kernel
theorem dX5_init_96 : decode mX5_init.2.1 96 = .ok (.aastore, 1) := by decide +kernel
theorem dX5_init_97 : decode mX5_init.2.1 97 = .ok (.iinc 1 1, 3) := by decide +kernel
theorem dX5_init_100 : decode mX5_init.2.1 100 = .ok (.goto (-22), 3) := by decide +kernel
theorem dX5_init_103 : decode mX5_init.2.1 103 = .ok (.return_, 1) := by decide +kernel
theorem dX5_pulse_0 : decode mX5_pulse.2.1 0 = .ok (.iload_n 1, 1) := by decide +kernel
theorem dX5_pulse_1 : decode mX5_pulse.2.1 1 = .ok (.ifCond .lt 10, 3) := by decide +kernel
theorem dX5_pulse_4 : decode mX5_pulse.2.1 4 = .ok (.iload_n 1, 1) := by decide +kernel
theorem dX5_pulse_5 : decode mX5_pulse.2.1 5 = .ok (.sipush 600, 3) := by decide +kernel
theorem dX5_pulse_8 : decode mX5_pulse.2.1 8 = .ok (.if_icmp .le 13, 3) := by decide +kernel
theorem dX5_pulse_11 : decode mX5_pulse.2.1 11 = .ok (.new 58, 3) := by decide +kernel
theorem dX5_pulse_14 : decode mX5_pulse.2.1 14 = .ok (.dup, 1) := by decide +kernel
theorem dX5_pulse_15 : decode mX5_pulse.2.1 15 = .ok (.ldc 60, 2) := by decide +kernel
theorem dX5_pulse_17 : decode mX5_pulse.2.1 17 = .ok (.invokespecial 62, 3) := by decide +kernel
theorem dX5_pulse_20 : decode mX5_pulse.2.1 20 = .ok (.athrow, 1) := by decide +kernel
theorem dX5_pulse_21 : decode mX5_pulse.2.1 21 = .ok (.aload_n 0, 1) := by decide +kernel
theorem dX5_pulse_22 : decode mX5_pulse.2.1 22 = .ok (.invokevirtual 65, 3) := by decide +kernel
theorem dX5_pulse_25 : decode mX5_pulse.2.1 25 = .ok (.aload_n 0, 1) := by decide +kernel
theorem dX5_pulse_26 : decode mX5_pulse.2.1 26 = .ok (.iload_n 1, 1) := by decide +kernel
theorem dX5_pulse_27 : decode mX5_pulse.2.1 27 = .ok (.invokevirtual 68, 3) := by decide +kernel
theorem dX5_pulse_30 : decode mX5_pulse.2.1 30 = .ok (.istore_n 2, 1) := by decide +kernel
theorem dX5_pulse_31 : decode mX5_pulse.2.1 31 = .ok (.aload_n 0, 1) := by decide +kernel
theorem dX5_pulse_32 : decode mX5_pulse.2.1 32 = .ok (.dup, 1) := by decide +kernel
theorem dX5_pulse_33 : decode mX5_pulse.2.1 33 = .ok (.getfield 52, 3) := by decide +kernel
theorem dX5_pulse_36 : decode mX5_pulse.2.1 36 = .ok (.iload_n 2, 1) := by decide +kernel
theorem dX5_pulse_37 : decode mX5_pulse.2.1 37 = .ok (.iadd, 1) := by decide +kernel
theorem dX5_pulse_38 : decode mX5_pulse.2.1 38 = .ok (.putfield 52, 3) := by decide +kernel
theorem dX5_pulse_41 : decode mX5_pulse.2.1 41 = .ok (.iload_n 2, 1) := by decide +kernel
theorem dX5_pulse_42 : decode mX5_pulse.2.1 42 = .ok (.ireturn, 1) := by decide +kernel
theorem dX5_tick_0 : decode mX5_tick.2.1 0 = .ok (.iload_n 1, 1) := by decide +kernel
theorem dX5_tick_1 : decode mX5_tick.2.1 1 = .ok (.iconst 1, 1) := by decide +kernel
theorem dX5_tick_2 : decode mX5_tick.2.1 2 = .ok (.if_icmp .lt 9, 3) := by decide +kernel
theorem dX5_tick_5 : decode mX5_tick.2.1 5 = .ok (.iload_n 1, 1) := by decide +kernel
theorem dX5_tick_6 : decode mX5_tick.2.1 6 = .ok (.bipush 100, 2) := by decide +kernel
theorem dX5_tick_8 : decode mX5_tick.2.1 8 = .ok (.if_icmp .le 13, 3) := by decide +kernel
theorem dX5_tick_11 : decode mX5_tick.2.1 11 = .ok (.new 58, 3) := by decide +kernel
theorem dX5_tick_14 : decode mX5_tick.2.1 14 = .ok (.dup, 1) := by decide +kernel
theorem dX5_tick_15 : decode mX5_tick.2.1 15 = .ok (.ldc 72, 2) := by decide +kernel
theorem dX5_tick_17 : decode mX5_tick.2.1 17 = .ok (.invokespecial 62, 3) := by decide +kernel
theorem dX5_tick_20 : decode mX5_tick.2.1 20 = .ok (.athrow, 1) := by decide +kernel
theorem dX5_tick_21 : decode mX5_tick.2.1 21 = .ok (.iconst 0, 1) := by decide +kernel
theorem dX5_tick_22 : decode mX5_tick.2.1 22 = .ok (.istore_n 2, 1) := by decide +kernel
theorem dX5_tick_23 : decode mX5_tick.2.1 23 = .ok (.iload_n 2, 1) := by decide +kernel
theorem dX5_tick_24 : decode mX5_tick.2.1 24 = .ok (.iload_n 1, 1) := by decide +kernel
theorem dX5_tick_25 : decode mX5_tick.2.1 25 = .ok (.if_icmp .ge 13, 3) := by decide +kernel
theorem dX5_tick_28 : decode mX5_tick.2.1 28 = .ok (.aload_n 0, 1) := by decide +kernel
theorem dX5_tick_29 : decode mX5_tick.2.1 29 = .ok (.invokevirtual 74, 3) := by decide +kernel
theorem dX5_tick_32 : decode mX5_tick.2.1 32 = .ok (.iinc 2 1, 3) := by decide +kernel
theorem dX5_tick_35 : decode mX5_tick.2.1 35 = .ok (.goto (-12), 3) := by decide +kernel
theorem dX5_tick_38 : decode mX5_tick.2.1 38 = .ok (.aload_n 0, 1) := by decide +kernel
theorem dX5_tick_39 : decode mX5_tick.2.1 39 = .ok (.getfield 46, 3) := by decide +kernel
theorem dX5_tick_42 : decode mX5_tick.2.1 42 = .ok (.ireturn, 1) := by decide +kernel
theorem dX5_gauge_0 : decode mX5_gauge.2.1 0 = .ok (.iload_n 1, 1) := by decide +kernel
theorem dX5_gauge_1 : decode mX5_gauge.2.1 1 = .ok (.invokestatic 77, 3) := by decide +kernel
theorem dX5_gauge_4 : decode mX5_gauge.2.1 4 = .ok (.iload_n 2, 1) := by decide +kernel
theorem dX5_gauge_5 : decode mX5_gauge.2.1 5 = .ok (.ifCond .lt 21, 3) := by decide +kernel
theorem dX5_gauge_8 : decode mX5_gauge.2.1 8 = .ok (.iload_n 2, 1) := by decide +kernel
theorem dX5_gauge_9 : decode mX5_gauge.2.1 9 = .ok (.sipush 20000, 3) := by decide +kernel
theorem dX5_gauge_12 : decode mX5_gauge.2.1 12 = .ok (.if_icmp .gt 14, 3) := by decide +kernel
theorem dX5_gauge_15 : decode mX5_gauge.2.1 15 = .ok (.iload_n 3, 1) := by decide +kernel
theorem dX5_gauge_16 : decode mX5_gauge.2.1 16 = .ok (.ifCond .lt 10, 3) := by decide +kernel
theorem dX5_gauge_19 : decode mX5_gauge.2.1 19 = .ok (.iload_n 3, 1) := by decide +kernel
theorem dX5_gauge_20 : decode mX5_gauge.2.1 20 = .ok (.sipush 20000, 3) := by decide +kernel
theorem dX5_gauge_23 : decode mX5_gauge.2.1 23 = .ok (.if_icmp .le 13, 3) := by decide +kernel
theorem dX5_gauge_26 : decode mX5_gauge.2.1 26 = .ok (.new 58, 3) := by decide +kernel
theorem dX5_gauge_29 : decode mX5_gauge.2.1 29 = .ok (.dup, 1) := by decide +kernel
theorem dX5_gauge_30 : decode mX5_gauge.2.1 30 = .ok (.ldc 80, 2) := by decide +kernel
theorem dX5_gauge_32 : decode mX5_gauge.2.1 32 = .ok (.invokespecial 62, 3) := by decide +kernel
theorem dX5_gauge_35 : decode mX5_gauge.2.1 35 = .ok (.athrow, 1) := by decide +kernel
theorem dX5_gauge_36 : decode mX5_gauge.2.1 36 = .ok (.aload_n 0, 1) := by decide +kernel
theorem dX5_gauge_37 : decode mX5_gauge.2.1 37 = .ok (.getfield 18, 3) := by decide +kernel
theorem dX5_gauge_40 : decode mX5_gauge.2.1 40 = .ok (.iload_n 1, 1) := by decide +kernel
theorem dX5_gauge_41 : decode mX5_gauge.2.1 41 = .ok (.aaload, 1) := by decide +kernel
theorem dX5_gauge_42 : decode mX5_gauge.2.1 42 = .ok (.getfield 82, 3) := by decide +kernel
theorem dX5_gauge_45 : decode mX5_gauge.2.1 45 = .ok (.bipush 12, 2) := by decide +kernel
theorem dX5_gauge_47 : decode mX5_gauge.2.1 47 = .ok (.aaload, 1) := by decide +kernel
theorem dX5_gauge_48 : decode mX5_gauge.2.1 48 = .ok (.astore 4, 2) := by decide +kernel
theorem dX5_gauge_50 : decode mX5_gauge.2.1 50 = .ok (.aload 4, 2) := by decide +kernel
theorem dX5_gauge_52 : decode mX5_gauge.2.1 52 = .ok (.ifnull 11, 3) := by decide +kernel
theorem dX5_gauge_55 : decode mX5_gauge.2.1 55 = .ok (.aload 4, 2) := by decide +kernel
theorem dX5_gauge_57 : decode mX5_gauge.2.1 57 = .ok (.invokevirtual 86, 3) := by decide +kernel
theorem dX5_gauge_60 : decode mX5_gauge.2.1 60 = .ok (.ifCond .ne 5, 3) := by decide +kernel
theorem dX5_gauge_63 : decode mX5_gauge.2.1 63 = .ok (.iconst 0, 1) := by decide +kernel
theorem dX5_gauge_64 : decode mX5_gauge.2.1 64 = .ok (.ireturn, 1) := by decide +kernel
theorem dX5_gauge_65 : decode mX5_gauge.2.1 65 = .ok (.aload 4, 2) := by decide +kernel
theorem dX5_gauge_67 : decode mX5_gauge.2.1 67 = .ok (.iload_n 2, 1) := by decide +kernel
theorem dX5_gauge_68 : decode mX5_gauge.2.1 68 = .ok (.putfield 92, 3) := by decide +kernel
theorem dX5_gauge_71 : decode mX5_gauge.2.1 71 = .ok (.aload 4, 2) := by decide +kernel
theorem dX5_gauge_73 : decode mX5_gauge.2.1 73 = .ok (.iload_n 3, 1) := by decide +kernel
theorem dX5_gauge_74 : decode mX5_gauge.2.1 74 = .ok (.putfield 95, 3) := by decide +kernel
theorem dX5_gauge_77 : decode mX5_gauge.2.1 77 = .ok (.iconst 1, 1) := by decide +kernel
theorem dX5_gauge_78 : decode mX5_gauge.2.1 78 = .ok (.ireturn, 1) := by decide +kernel
theorem dX5_wind_0 : decode mX5_wind.2.1 0 = .ok (.iload_n 1, 1) := by decide +kernel
theorem dX5_wind_1 : decode mX5_wind.2.1 1 = .ok (.ifCond .lt 10, 3) := by decide +kernel
theorem dX5_wind_4 : decode mX5_wind.2.1 4 = .ok (.iload_n 1, 1) := by decide +kernel
theorem dX5_wind_5 : decode mX5_wind.2.1 5 = .ok (.sipush 1000, 3) := by decide +kernel
theorem dX5_wind_8 : decode mX5_wind.2.1 8 = .ok (.if_icmp .le 13, 3) := by decide +kernel
theorem dX5_wind_11 : decode mX5_wind.2.1 11 = .ok (.new 58, 3) := by decide +kernel
theorem dX5_wind_14 : decode mX5_wind.2.1 14 = .ok (.dup, 1) := by decide +kernel
theorem dX5_wind_15 : decode mX5_wind.2.1 15 = .ok (.ldc 98, 2) := by decide +kernel
theorem dX5_wind_17 : decode mX5_wind.2.1 17 = .ok (.invokespecial 62, 3) := by decide +kernel
theorem dX5_wind_20 : decode mX5_wind.2.1 20 = .ok (.athrow, 1) := by decide +kernel
theorem dX5_wind_21 : decode mX5_wind.2.1 21 = .ok (.aload_n 0, 1) := by decide +kernel
theorem dX5_wind_22 : decode mX5_wind.2.1 22 = .ok (.getfield 32, 3) := by decide +kernel
theorem dX5_wind_25 : decode mX5_wind.2.1 25 = .ok (.iload_n 1, 1) := by decide +kernel
theorem dX5_wind_26 : decode mX5_wind.2.1 26 = .ok (.invokevirtual 100, 3) := by decide +kernel
theorem dX5_wind_29 : decode mX5_wind.2.1 29 = .ok (.return_, 1) := by decide +kernel
theorem dX5_drive_0 : decode mX5_drive.2.1 0 = .ok (.iload_n 1, 1) := by decide +kernel
theorem dX5_drive_1 : decode mX5_drive.2.1 1 = .ok (.ifCond .lt 8, 3) := by decide +kernel
theorem dX5_drive_4 : decode mX5_drive.2.1 4 = .ok (.iload_n 1, 1) := by decide +kernel
theorem dX5_drive_5 : decode mX5_drive.2.1 5 = .ok (.iconst 5, 1) := by decide +kernel
theorem dX5_drive_6 : decode mX5_drive.2.1 6 = .ok (.if_icmp .le 13, 3) := by decide +kernel
theorem dX5_drive_9 : decode mX5_drive.2.1 9 = .ok (.new 58, 3) := by decide +kernel
theorem dX5_drive_12 : decode mX5_drive.2.1 12 = .ok (.dup, 1) := by decide +kernel
theorem dX5_drive_13 : decode mX5_drive.2.1 13 = .ok (.ldc 103, 2) := by decide +kernel
theorem dX5_drive_15 : decode mX5_drive.2.1 15 = .ok (.invokespecial 62, 3) := by decide +kernel
theorem dX5_drive_18 : decode mX5_drive.2.1 18 = .ok (.athrow, 1) := by decide +kernel
theorem dX5_drive_19 : decode mX5_drive.2.1 19 = .ok (.aload_n 0, 1) := by decide +kernel
theorem dX5_drive_20 : decode mX5_drive.2.1 20 = .ok (.getfield 36, 3) := by decide +kernel
theorem dX5_drive_23 : decode mX5_drive.2.1 23 = .ok (.ifCond .eq 5, 3) := by decide +kernel
theorem dX5_drive_26 : decode mX5_drive.2.1 26 = .ok (.iconst 0, 1) := by decide +kernel
theorem dX5_drive_27 : decode mX5_drive.2.1 27 = .ok (.ireturn, 1) := by decide +kernel
theorem dX5_drive_28 : decode mX5_drive.2.1 28 = .ok (.aload_n 0, 1) := by decide +kernel
theorem dX5_drive_29 : decode mX5_drive.2.1 29 = .ok (.iload_n 1, 1) := by decide +kernel
theorem dX5_drive_30 : decode mX5_drive.2.1 30 = .ok (.putfield 43, 3) := by decide +kernel
theorem dX5_drive_33 : decode mX5_drive.2.1 33 = .ok (.iconst 1, 1) := by decide +kernel
theorem dX5_drive_34 : decode mX5_drive.2.1 34 = .ok (.ireturn, 1) := by decide +kernel
theorem dX5_bring_0 : decode mX5_bring.2.1 0 = .ok (.iload_n 1, 1) := by decide +kernel
theorem dX5_bring_1 : decode mX5_bring.2.1 1 = .ok (.invokestatic 105, 3) := by decide +kernel
theorem dX5_bring_4 : decode mX5_bring.2.1 4 = .ok (.aload_n 0, 1) := by decide +kernel
theorem dX5_bring_5 : decode mX5_bring.2.1 5 = .ok (.getfield 10, 3) := by decide +kernel
theorem dX5_bring_8 : decode mX5_bring.2.1 8 = .ok (.getfield 108, 3) := by decide +kernel
theorem dX5_bring_11 : decode mX5_bring.2.1 11 = .ok (.iload_n 1, 1) := by decide +kernel
theorem dX5_bring_12 : decode mX5_bring.2.1 12 = .ok (.aaload, 1) := by decide +kernel
theorem dX5_bring_13 : decode mX5_bring.2.1 13 = .ok (.astore_n 2, 1) := by decide +kernel
theorem dX5_bring_14 : decode mX5_bring.2.1 14 = .ok (.aload_n 2, 1) := by decide +kernel
theorem dX5_bring_15 : decode mX5_bring.2.1 15 = .ok (.getfield 111, 3) := by decide +kernel
theorem dX5_bring_18 : decode mX5_bring.2.1 18 = .ok (.ifCond .ne 13, 3) := by decide +kernel
theorem dX5_bring_21 : decode mX5_bring.2.1 21 = .ok (.aload_n 0, 1) := by decide +kernel
theorem dX5_bring_22 : decode mX5_bring.2.1 22 = .ok (.getfield 25, 3) := by decide +kernel
theorem dX5_bring_25 : decode mX5_bring.2.1 25 = .ok (.invokevirtual 114, 3) := by decide +kernel
theorem dX5_bring_28 : decode mX5_bring.2.1 28 = .ok (.ifCond .ne 5, 3) := by decide +kernel
theorem dX5_bring_31 : decode mX5_bring.2.1 31 = .ok (.iconst 0, 1) := by decide +kernel
theorem dX5_bring_32 : decode mX5_bring.2.1 32 = .ok (.ireturn, 1) := by decide +kernel
theorem dX5_bring_33 : decode mX5_bring.2.1 33 = .ok (.aload_n 0, 1) := by decide +kernel
theorem dX5_bring_34 : decode mX5_bring.2.1 34 = .ok (.getfield 25, 3) := by decide +kernel
theorem dX5_bring_37 : decode mX5_bring.2.1 37 = .ok (.aload_n 2, 1) := by decide +kernel
theorem dX5_bring_38 : decode mX5_bring.2.1 38 = .ok (.invokevirtual 117, 3) := by decide +kernel
theorem dX5_bring_41 : decode mX5_bring.2.1 41 = .ok (.iconst 1, 1) := by decide +kernel
theorem dX5_bring_42 : decode mX5_bring.2.1 42 = .ok (.ireturn, 1) := by decide +kernel
theorem dX5_putOn_0 : decode mX5_putOn.2.1 0 = .ok (.iload_n 1, 1) := by decide +kernel
theorem dX5_putOn_1 : decode mX5_putOn.2.1 1 = .ok (.invokestatic 77, 3) := by decide +kernel
theorem dX5_putOn_4 : decode mX5_putOn.2.1 4 = .ok (.iload_n 2, 1) := by decide +kernel
theorem dX5_putOn_5 : decode mX5_putOn.2.1 5 = .ok (.invokestatic 105, 3) := by decide +kernel
theorem dX5_putOn_8 : decode mX5_putOn.2.1 8 = .ok (.aload_n 0, 1) := by decide +kernel
theorem dX5_putOn_9 : decode mX5_putOn.2.1 9 = .ok (.getfield 10, 3) := by decide +kernel
theorem dX5_putOn_12 : decode mX5_putOn.2.1 12 = .ok (.getfield 108, 3) := by decide +kernel
theorem dX5_putOn_15 : decode mX5_putOn.2.1 15 = .ok (.iload_n 2, 1) := by decide +kernel
theorem dX5_putOn_16 : decode mX5_putOn.2.1 16 = .ok (.aaload, 1) := by decide +kernel
theorem dX5_putOn_17 : decode mX5_putOn.2.1 17 = .ok (.astore_n 3, 1) := by decide +kernel
theorem dX5_putOn_18 : decode mX5_putOn.2.1 18 = .ok (.aload_n 0, 1) := by decide +kernel
theorem dX5_putOn_19 : decode mX5_putOn.2.1 19 = .ok (.getfield 18, 3) := by decide +kernel
theorem dX5_putOn_22 : decode mX5_putOn.2.1 22 = .ok (.iload_n 1, 1) := by decide +kernel
theorem dX5_putOn_23 : decode mX5_putOn.2.1 23 = .ok (.aaload, 1) := by decide +kernel
theorem dX5_putOn_24 : decode mX5_putOn.2.1 24 = .ok (.astore 4, 2) := by decide +kernel
theorem dX5_putOn_26 : decode mX5_putOn.2.1 26 = .ok (.aload_n 3, 1) := by decide +kernel
theorem dX5_putOn_27 : decode mX5_putOn.2.1 27 = .ok (.getfield 111, 3) := by decide +kernel
theorem dX5_putOn_30 : decode mX5_putOn.2.1 30 = .ok (.iconst 1, 1) := by decide +kernel
theorem dX5_putOn_31 : decode mX5_putOn.2.1 31 = .ok (.if_icmp .ne 12, 3) := by decide +kernel
theorem dX5_putOn_34 : decode mX5_putOn.2.1 34 = .ok (.aload 4, 2) := by decide +kernel
theorem dX5_putOn_36 : decode mX5_putOn.2.1 36 = .ok (.iconst 5, 1) := by decide +kernel
theorem dX5_putOn_37 : decode mX5_putOn.2.1 37 = .ok (.invokevirtual 121, 3) := by decide +kernel
theorem dX5_putOn_40 : decode mX5_putOn.2.1 40 = .ok (.ifCond .ne 5, 3) := by decide +kernel
theorem dX5_putOn_43 : decode mX5_putOn.2.1 43 = .ok (.iconst 0, 1) := by decide +kernel
theorem dX5_putOn_44 : decode mX5_putOn.2.1 44 = .ok (.ireturn, 1) := by decide +kernel
theorem dX5_putOn_45 : decode mX5_putOn.2.1 45 = .ok (.aload_n 0, 1) := by decide +kernel
theorem dX5_putOn_46 : decode mX5_putOn.2.1 46 = .ok (.getfield 10, 3) := by decide +kernel
theorem dX5_putOn_49 : decode mX5_putOn.2.1 49 = .ok (.iconst 2, 1) := by decide +kernel
theorem dX5_putOn_50 : decode mX5_putOn.2.1 50 = .ok (.invokevirtual 125, 3) := by decide +kernel
theorem dX5_putOn_53 : decode mX5_putOn.2.1 53 = .ok (.aload_n 0, 1) := by decide +kernel
theorem dX5_putOn_54 : decode mX5_putOn.2.1 54 = .ok (.getfield 10, 3) := by decide +kernel
theorem dX5_putOn_57 : decode mX5_putOn.2.1 57 = .ok (.iconst 3, 1) := by decide +kernel
theorem dX5_putOn_58 : decode mX5_putOn.2.1 58 = .ok (.invokevirtual 125, 3) := by decide +kernel
theorem dX5_putOn_61 : decode mX5_putOn.2.1 61 = .ok (.iadd, 1) := by decide +kernel
theorem dX5_putOn_62 : decode mX5_putOn.2.1 62 = .ok (.aload_n 0, 1) := by decide +kernel
theorem dX5_putOn_63 : decode mX5_putOn.2.1 63 = .ok (.getfield 40, 3) := by decide +kernel
theorem dX5_putOn_66 : decode mX5_putOn.2.1 66 = .ok (.if_icmp .lt 5, 3) := by decide +kernel
theorem dX5_putOn_69 : decode mX5_putOn.2.1 69 = .ok (.iconst 0, 1) := by decide +kernel
theorem dX5_putOn_70 : decode mX5_putOn.2.1 70 = .ok (.ireturn, 1) := by decide +kernel
theorem dX5_putOn_71 : decode mX5_putOn.2.1 71 = .ok (.aload_n 0, 1) := by decide +kernel
theorem dX5_putOn_72 : decode mX5_putOn.2.1 72 = .ok (.getfield 25, 3) := by decide +kernel
theorem dX5_putOn_75 : decode mX5_putOn.2.1 75 = .ok (.aload_n 3, 1) := by decide +kernel
theorem dX5_putOn_76 : decode mX5_putOn.2.1 76 = .ok (.invokevirtual 128, 3) := by decide +kernel
theorem dX5_putOn_79 : decode mX5_putOn.2.1 79 = .ok (.aload 4, 2) := by decide +kernel
theorem dX5_putOn_81 : decode mX5_putOn.2.1 81 = .ok (.aload_n 3, 1) := by decide +kernel
theorem dX5_putOn_82 : decode mX5_putOn.2.1 82 = .ok (.iconst 5, 1) := by decide +kernel
theorem dX5_putOn_83 : decode mX5_putOn.2.1 83 = .ok (.invokevirtual 131, 3) := by decide +kernel
theorem dX5_putOn_86 : decode mX5_putOn.2.1 86 = .ok (.iconst 1, 1) := by decide +kernel
theorem dX5_putOn_87 : decode mX5_putOn.2.1 87 = .ok (.ireturn, 1) := by decide +kernel
theorem dX5_takeOff_0 : decode mX5_takeOff.2.1 0 = .ok (.iload_n 1, 1) := by decide +kernel
theorem dX5_takeOff_1 : decode mX5_takeOff.2.1 1 = .ok (.invokestatic 77, 3) := by decide +kernel
theorem dX5_takeOff_4 : decode mX5_takeOff.2.1 4 = .ok (.iload_n 2, 1) := by decide +kernel
theorem dX5_takeOff_5 : decode mX5_takeOff.2.1 5 = .ok (.invokestatic 105, 3) := by decide +kernel
theorem dX5_takeOff_8 : decode mX5_takeOff.2.1 8 = .ok (.aload_n 0, 1) := by decide +kernel
theorem dX5_takeOff_9 : decode mX5_takeOff.2.1 9 = .ok (.getfield 10, 3) := by decide +kernel
theorem dX5_takeOff_12 : decode mX5_takeOff.2.1 12 = .ok (.getfield 108, 3) := by decide +kernel
theorem dX5_takeOff_15 : decode mX5_takeOff.2.1 15 = .ok (.iload_n 2, 1) := by decide +kernel
theorem dX5_takeOff_16 : decode mX5_takeOff.2.1 16 = .ok (.aaload, 1) := by decide +kernel
theorem dX5_takeOff_17 : decode mX5_takeOff.2.1 17 = .ok (.astore_n 3, 1) := by decide +kernel
theorem dX5_takeOff_18 : decode mX5_takeOff.2.1 18 = .ok (.aload_n 3, 1) := by decide +kernel
theorem dX5_takeOff_19 : decode mX5_takeOff.2.1 19 = .ok (.getfield 111, 3) := by decide +kernel
theorem dX5_takeOff_22 : decode mX5_takeOff.2.1 22 = .ok (.iconst 2, 1) := by decide +kernel
theorem dX5_takeOff_23 : decode mX5_takeOff.2.1 23 = .ok (.if_icmp .ne 11, 3) := by decide +kernel
theorem dX5_takeOff_26 : decode mX5_takeOff.2.1 26 = .ok (.aload_n 3, 1) := by decide +kernel
theorem dX5_takeOff_27 : decode mX5_takeOff.2.1 27 = .ok (.getfield 135, 3) := by decide +kernel
theorem dX5_takeOff_30 : decode mX5_takeOff.2.1 30 = .ok (.iload_n 1, 1) := by decide +kernel
theorem dX5_takeOff_31 : decode mX5_takeOff.2.1 31 = .ok (.if_icmp .eq 5, 3) := by decide +kernel
theorem dX5_takeOff_34 : decode mX5_takeOff.2.1 34 = .ok (.iconst 0, 1) := by decide +kernel
theorem dX5_takeOff_35 : decode mX5_takeOff.2.1 35 = .ok (.ireturn, 1) := by decide +kernel
theorem dX5_takeOff_36 : decode mX5_takeOff.2.1 36 = .ok (.aload_n 3, 1) := by decide +kernel
theorem dX5_takeOff_37 : decode mX5_takeOff.2.1 37 = .ok (.getfield 138, 3) := by decide +kernel
theorem dX5_takeOff_40 : decode mX5_takeOff.2.1 40 = .ok (.iconst 5, 1) := by decide +kernel
theorem dX5_takeOff_41 : decode mX5_takeOff.2.1 41 = .ok (.if_icmp .lt 22, 3) := by decide +kernel
theorem dX5_takeOff_44 : decode mX5_takeOff.2.1 44 = .ok (.aload_n 3, 1) := by decide +kernel
theorem dX5_takeOff_45 : decode mX5_takeOff.2.1 45 = .ok (.getfield 138, 3) := by decide +kernel
theorem dX5_takeOff_48 : decode mX5_takeOff.2.1 48 = .ok (.bipush 8, 2) := by decide +kernel
theorem dX5_takeOff_50 : decode mX5_takeOff.2.1 50 = .ok (.if_icmp .gt 13, 3) := by decide +kernel
theorem dX5_takeOff_53 : decode mX5_takeOff.2.1 53 = .ok (.aload_n 0, 1) := by decide +kernel
theorem dX5_takeOff_54 : decode mX5_takeOff.2.1 54 = .ok (.getfield 25, 3) := by decide +kernel
theorem dX5_takeOff_57 : decode mX5_takeOff.2.1 57 = .ok (.invokevirtual 114, 3) := by decide +kernel
theorem dX5_takeOff_60 : decode mX5_takeOff.2.1 60 = .ok (.ifCond .ne 5, 3) := by decide +kernel
theorem dX5_takeOff_63 : decode mX5_takeOff.2.1 63 = .ok (.iconst 0, 1) := by decide +kernel
theorem dX5_takeOff_64 : decode mX5_takeOff.2.1 64 = .ok (.ireturn, 1) := by decide +kernel
theorem dX5_takeOff_65 : decode mX5_takeOff.2.1 65 = .ok (.aload_n 0, 1) := by decide +kernel
theorem dX5_takeOff_66 : decode mX5_takeOff.2.1 66 = .ok (.getfield 18, 3) := by decide +kernel
theorem dX5_takeOff_69 : decode mX5_takeOff.2.1 69 = .ok (.iload_n 1, 1) := by decide +kernel
theorem dX5_takeOff_70 : decode mX5_takeOff.2.1 70 = .ok (.aaload, 1) := by decide +kernel
theorem dX5_takeOff_71 : decode mX5_takeOff.2.1 71 = .ok (.getfield 82, 3) := by decide +kernel
theorem dX5_takeOff_74 : decode mX5_takeOff.2.1 74 = .ok (.aload_n 3, 1) := by decide +kernel
theorem dX5_takeOff_75 : decode mX5_takeOff.2.1 75 = .ok (.getfield 138, 3) := by decide +kernel
theorem dX5_takeOff_78 : decode mX5_takeOff.2.1 78 = .ok (.aconst_null, 1) := by decide +kernel
theorem dX5_takeOff_79 : decode mX5_takeOff.2.1 79 = .ok (.aastore, 1) := by decide +kernel
theorem dX5_takeOff_80 : decode mX5_takeOff.2.1 80 = .ok (.aload_n 0, 1) := by decide +kernel
theorem dX5_takeOff_81 : decode mX5_takeOff.2.1 81 = .ok (.getfield 25, 3) := by decide +kernel
theorem dX5_takeOff_84 : decode mX5_takeOff.2.1 84 = .ok (.aload_n 3, 1) := by decide +kernel
theorem dX5_takeOff_85 : decode mX5_takeOff.2.1 85 = .ok (.invokevirtual 117, 3) := by decide +kernel
theorem dX5_takeOff_88 : decode mX5_takeOff.2.1 88 = .ok (.iconst 1, 1) := by decide +kernel
theorem dX5_takeOff_89 : decode mX5_takeOff.2.1 89 = .ok (.ireturn, 1) := by decide +kernel
theorem dX5_plan_0 : decode mX5_plan.2.1 0 = .ok (.iload_n 1, 1) := by decide +kernel
theorem dX5_plan_1 : decode mX5_plan.2.1 1 = .ok (.iconst 1, 1) := by decide +kernel
theorem dX5_plan_2 : decode mX5_plan.2.1 2 = .ok (.if_icmp .lt 10, 3) := by decide +kernel
theorem dX5_plan_5 : decode mX5_plan.2.1 5 = .ok (.iload_n 1, 1) := by decide +kernel
theorem dX5_plan_6 : decode mX5_plan.2.1 6 = .ok (.sipush 900, 3) := by decide +kernel
theorem dX5_plan_9 : decode mX5_plan.2.1 9 = .ok (.if_icmp .le 13, 3) := by decide +kernel
theorem dX5_plan_12 : decode mX5_plan.2.1 12 = .ok (.new 58, 3) := by decide +kernel
theorem dX5_plan_15 : decode mX5_plan.2.1 15 = .ok (.dup, 1) := by decide +kernel
theorem dX5_plan_16 : decode mX5_plan.2.1 16 = .ok (.ldc 141, 2) := by decide +kernel
theorem dX5_plan_18 : decode mX5_plan.2.1 18 = .ok (.invokespecial 62, 3) := by decide +kernel
theorem dX5_plan_21 : decode mX5_plan.2.1 21 = .ok (.athrow, 1) := by decide +kernel
theorem dX5_plan_22 : decode mX5_plan.2.1 22 = .ok (.aload_n 0, 1) := by decide +kernel
theorem dX5_plan_23 : decode mX5_plan.2.1 23 = .ok (.iload_n 1, 1) := by decide +kernel
theorem dX5_plan_24 : decode mX5_plan.2.1 24 = .ok (.bipush 15, 2) := by decide +kernel
theorem dX5_plan_26 : decode mX5_plan.2.1 26 = .ok (.iadd, 1) := by decide +kernel
theorem dX5_plan_27 : decode mX5_plan.2.1 27 = .ok (.iconst 1, 1) := by decide +kernel
theorem dX5_plan_28 : decode mX5_plan.2.1 28 = .ok (.isub, 1) := by decide +kernel
theorem dX5_plan_29 : decode mX5_plan.2.1 29 = .ok (.bipush 15, 2) := by decide +kernel
theorem dX5_plan_31 : decode mX5_plan.2.1 31 = .ok (.idiv, 1) := by decide +kernel
theorem dX5_plan_32 : decode mX5_plan.2.1 32 = .ok (.putfield 40, 3) := by decide +kernel
theorem dX5_plan_35 : decode mX5_plan.2.1 35 = .ok (.aload_n 0, 1) := by decide +kernel
theorem dX5_plan_36 : decode mX5_plan.2.1 36 = .ok (.getfield 40, 3) := by decide +kernel
theorem dX5_plan_39 : decode mX5_plan.2.1 39 = .ok (.ireturn, 1) := by decide +kernel
theorem dX5_release_0 : decode mX5_release.2.1 0 = .ok (.iload_n 1, 1) := by decide +kernel
theorem dX5_release_1 : decode mX5_release.2.1 1 = .ok (.ifCond .lt 8, 3) := by decide +kernel
theorem dX5_release_4 : decode mX5_release.2.1 4 = .ok (.iload_n 1, 1) := by decide +kernel
theorem dX5_release_5 : decode mX5_release.2.1 5 = .ok (.iconst 3, 1) := by decide +kernel
theorem dX5_release_6 : decode mX5_release.2.1 6 = .ok (.if_icmp .le 13, 3) := by decide +kernel
theorem dX5_release_9 : decode mX5_release.2.1 9 = .ok (.new 58, 3) := by decide +kernel
theorem dX5_release_12 : decode mX5_release.2.1 12 = .ok (.dup, 1) := by decide +kernel
theorem dX5_release_13 : decode mX5_release.2.1 13 = .ok (.ldc 143, 2) := by decide +kernel
theorem dX5_release_15 : decode mX5_release.2.1 15 = .ok (.invokespecial 62, 3) := by decide +kernel
theorem dX5_release_18 : decode mX5_release.2.1 18 = .ok (.athrow, 1) := by decide +kernel
theorem dX5_release_19 : decode mX5_release.2.1 19 = .ok (.iconst 1, 1) := by decide +kernel
theorem dX5_release_20 : decode mX5_release.2.1 20 = .ok (.iload_n 1, 1) := by decide +kernel
theorem dX5_release_21 : decode mX5_release.2.1 21 = .ok (.ishl, 1) := by decide +kernel
theorem dX5_release_22 : decode mX5_release.2.1 22 = .ok (.istore_n 2, 1) := by decide +kernel
theorem dX5_release_23 : decode mX5_release.2.1 23 = .ok (.aload_n 0, 1) := by decide +kernel
theorem dX5_release_24 : decode mX5_release.2.1 24 = .ok (.getfield 36, 3) := by decide +kernel
theorem dX5_release_27 : decode mX5_release.2.1 27 = .ok (.iload_n 2, 1) := by decide +kernel
theorem dX5_release_28 : decode mX5_release.2.1 28 = .ok (.iand, 1) := by decide +kernel
theorem dX5_release_29 : decode mX5_release.2.1 29 = .ok (.ifCond .eq 11, 3) := by decide +kernel
theorem dX5_release_32 : decode mX5_release.2.1 32 = .ok (.aload_n 0, 1) := by decide +kernel
theorem dX5_release_33 : decode mX5_release.2.1 33 = .ok (.iload_n 1, 1) := by decide +kernel
theorem dX5_release_34 : decode mX5_release.2.1 34 = .ok (.invokevirtual 145, 3) := by decide +kernel
theorem dX5_release_37 : decode mX5_release.2.1 37 = .ok (.ifCond .eq 5, 3) := by decide +kernel
theorem dX5_release_40 : decode mX5_release.2.1 40 = .ok (.iconst 0, 1) := by decide +kernel
theorem dX5_release_41 : decode mX5_release.2.1 41 = .ok (.ireturn, 1) := by decide +kernel
theorem dX5_release_42 : decode mX5_release.2.1 42 = .ok (.aload_n 0, 1) := by decide +kernel
theorem dX5_release_43 : decode mX5_release.2.1 43 = .ok (.dup, 1) := by decide +kernel
theorem dX5_release_44 : decode mX5_release.2.1 44 = .ok (.getfield 36, 3) := by decide +kernel
theorem dX5_release_47 : decode mX5_release.2.1 47 = .ok (.iload_n 2, 1) := by decide +kernel
theorem dX5_release_48 : decode mX5_release.2.1 48 = .ok (.iconst (-1), 1) := by decide +kernel
theorem dX5_release_49 : decode mX5_release.2.1 49 = .ok (.ixor, 1) := by decide +kernel
theorem dX5_release_50 : decode mX5_release.2.1 50 = .ok (.iand, 1) := by decide +kernel
theorem dX5_release_51 : decode mX5_release.2.1 51 = .ok (.putfield 36, 3) := by decide +kernel
theorem dX5_release_54 : decode mX5_release.2.1 54 = .ok (.iconst 1, 1) := by decide +kernel
theorem dX5_release_55 : decode mX5_release.2.1 55 = .ok (.ireturn, 1) := by decide +kernel
theorem dX5_locks_0 : decode mX5_locks.2.1 0 = .ok (.aload_n 0, 1) := by decide +kernel
theorem dX5_locks_1 : decode mX5_locks.2.1 1 = .ok (.getfield 36, 3) := by decide +kernel
theorem dX5_locks_4 : decode mX5_locks.2.1 4 = .ok (.ireturn, 1) := by decide +kernel
theorem dX5_where_0 : decode mX5_where.2.1 0 = .ok (.iload_n 1, 1) := by decide +kernel
theorem dX5_where_1 : decode mX5_where.2.1 1 = .ok (.invokestatic 105, 3) := by decide +kernel
theorem dX5_where_4 : decode mX5_where.2.1 4 = .ok (.aload_n 0, 1) := by decide +kernel
theorem dX5_where_5 : decode mX5_where.2.1 5 = .ok (.getfield 10, 3) := by decide +kernel
theorem dX5_where_8 : decode mX5_where.2.1 8 = .ok (.getfield 108, 3) := by decide +kernel
theorem dX5_where_11 : decode mX5_where.2.1 11 = .ok (.iload_n 1, 1) := by decide +kernel
theorem dX5_where_12 : decode mX5_where.2.1 12 = .ok (.aaload, 1) := by decide +kernel
theorem dX5_where_13 : decode mX5_where.2.1 13 = .ok (.astore_n 3, 1) := by decide +kernel
theorem dX5_where_14 : decode mX5_where.2.1 14 = .ok (.iload_n 2, 1) := by decide +kernel
theorem dX5_where_15 : decode mX5_where.2.1 15 = .ok (.tableswitch 94 0 7 #[45, 50, 56, 61, 66, 71, 84, 89], 45) := by decide +kernel
theorem dX5_where_60 : decode mX5_where.2.1 60 = .ok (.aload_n 3, 1) := by decide +kernel
theorem dX5_where_61 : decode mX5_where.2.1 61 = .ok (.getfield 111, 3) := by decide +kernel
theorem dX5_where_64 : decode mX5_where.2.1 64 = .ok (.ireturn, 1) := by decide +kernel
theorem dX5_where_65 : decode mX5_where.2.1 65 = .ok (.aload_n 0, 1) := by decide +kernel
theorem dX5_where_66 : decode mX5_where.2.1 66 = .ok (.aload_n 3, 1) := by decide +kernel
theorem dX5_where_67 : decode mX5_where.2.1 67 = .ok (.invokevirtual 148, 3) := by decide +kernel
theorem dX5_where_70 : decode mX5_where.2.1 70 = .ok (.ireturn, 1) := by decide +kernel
theorem dX5_where_71 : decode mX5_where.2.1 71 = .ok (.aload_n 3, 1) := by decide +kernel
theorem dX5_where_72 : decode mX5_where.2.1 72 = .ok (.getfield 135, 3) := by decide +kernel
theorem dX5_where_75 : decode mX5_where.2.1 75 = .ok (.ireturn, 1) := by decide +kernel
theorem dX5_where_76 : decode mX5_where.2.1 76 = .ok (.aload_n 3, 1) := by decide +kernel
theorem dX5_where_77 : decode mX5_where.2.1 77 = .ok (.getfield 152, 3) := by decide +kernel
theorem dX5_where_80 : decode mX5_where.2.1 80 = .ok (.ireturn, 1) := by decide +kernel
theorem dX5_where_81 : decode mX5_where.2.1 81 = .ok (.aload_n 3, 1) := by decide +kernel
theorem dX5_where_82 : decode mX5_where.2.1 82 = .ok (.getfield 155, 3) := by decide +kernel
theorem dX5_where_85 : decode mX5_where.2.1 85 = .ok (.ireturn, 1) := by decide +kernel
theorem dX5_where_86 : decode mX5_where.2.1 86 = .ok (.aload_n 3, 1) := by decide +kernel
theorem dX5_where_87 : decode mX5_where.2.1 87 = .ok (.invokevirtual 158, 3) := by decide +kernel
theorem dX5_where_90 : decode mX5_where.2.1 90 = .ok (.ifCond .eq 7, 3) := by decide +kernel
theorem dX5_where_93 : decode mX5_where.2.1 93 = .ok (.iconst 1, 1) := by decide +kernel
theorem dX5_where_94 : decode mX5_where.2.1 94 = .ok (.goto 4, 3) := by decide +kernel
theorem dX5_where_97 : decode mX5_where.2.1 97 = .ok (.iconst 0, 1) := by decide +kernel
theorem dX5_where_98 : decode mX5_where.2.1 98 = .ok (.ireturn, 1) := by decide +kernel
theorem dX5_where_99 : decode mX5_where.2.1 99 = .ok (.aload_n 3, 1) := by decide +kernel
theorem dX5_where_100 : decode mX5_where.2.1 100 = .ok (.getfield 161, 3) := by decide +kernel
theorem dX5_where_103 : decode mX5_where.2.1 103 = .ok (.ireturn, 1) := by decide +kernel
theorem dX5_where_104 : decode mX5_where.2.1 104 = .ok (.aload_n 3, 1) := by decide +kernel
theorem dX5_where_105 : decode mX5_where.2.1 105 = .ok (.getfield 164, 3) := by decide +kernel
theorem dX5_where_108 : decode mX5_where.2.1 108 = .ok (.ireturn, 1) := by decide +kernel
theorem dX5_where_109 : decode mX5_where.2.1 109 = .ok (.iconst (-1), 1) := by decide +kernel
theorem dX5_where_110 : decode mX5_where.2.1 110 = .ok (.ireturn, 1) := by decide +kernel
theorem dX5_gap_0 : decode mX5_gap.2.1 0 = .ok (.iload_n 1, 1) := by decide +kernel
theorem dX5_gap_1 : decode mX5_gap.2.1 1 = .ok (.invokestatic 105, 3) := by decide +kernel
theorem dX5_gap_4 : decode mX5_gap.2.1 4 = .ok (.aload_n 0, 1) := by decide +kernel
theorem dX5_gap_5 : decode mX5_gap.2.1 5 = .ok (.getfield 10, 3) := by decide +kernel
theorem dX5_gap_8 : decode mX5_gap.2.1 8 = .ok (.getfield 108, 3) := by decide +kernel
theorem dX5_gap_11 : decode mX5_gap.2.1 11 = .ok (.iload_n 1, 1) := by decide +kernel
theorem dX5_gap_12 : decode mX5_gap.2.1 12 = .ok (.aaload, 1) := by decide +kernel
theorem dX5_gap_13 : decode mX5_gap.2.1 13 = .ok (.astore_n 2, 1) := by decide +kernel
theorem dX5_gap_14 : decode mX5_gap.2.1 14 = .ok (.aload_n 2, 1) := by decide +kernel
theorem dX5_gap_15 : decode mX5_gap.2.1 15 = .ok (.getfield 111, 3) := by decide +kernel
theorem dX5_gap_18 : decode mX5_gap.2.1 18 = .ok (.iconst 3, 1) := by decide +kernel
theorem dX5_gap_19 : decode mX5_gap.2.1 19 = .ok (.if_icmp .ne 14, 3) := by decide +kernel
theorem dX5_gap_22 : decode mX5_gap.2.1 22 = .ok (.aload_n 0, 1) := by decide +kernel
theorem dX5_gap_23 : decode mX5_gap.2.1 23 = .ok (.getfield 10, 3) := by decide +kernel
theorem dX5_gap_26 : decode mX5_gap.2.1 26 = .ok (.aload_n 2, 1) := by decide +kernel
theorem dX5_gap_27 : decode mX5_gap.2.1 27 = .ok (.invokevirtual 167, 3) := by decide +kernel
theorem dX5_gap_30 : decode mX5_gap.2.1 30 = .ok (.goto 4, 3) := by decide +kernel
theorem dX5_gap_33 : decode mX5_gap.2.1 33 = .ok (.iconst (-1), 1) := by decide +kernel
theorem dX5_gap_34 : decode mX5_gap.2.1 34 = .ok (.ireturn, 1) := by decide +kernel
theorem dX5_sided_0 : decode mX5_sided.2.1 0 = .ok (.aload_n 0, 1) := by decide +kernel
theorem dX5_sided_1 : decode mX5_sided.2.1 1 = .ok (.getfield 25, 3) := by decide +kernel
theorem dX5_sided_4 : decode mX5_sided.2.1 4 = .ok (.iload_n 1, 1) := by decide +kernel
theorem dX5_sided_5 : decode mX5_sided.2.1 5 = .ok (.invokevirtual 170, 3) := by decide +kernel
theorem dX5_sided_8 : decode mX5_sided.2.1 8 = .ok (.astore_n 2, 1) := by decide +kernel
theorem dX5_sided_9 : decode mX5_sided.2.1 9 = .ok (.aload_n 2, 1) := by decide +kernel
theorem dX5_sided_10 : decode mX5_sided.2.1 10 = .ok (.ifnonnull 7, 3) := by decide +kernel
theorem dX5_sided_13 : decode mX5_sided.2.1 13 = .ok (.iconst (-1), 1) := by decide +kernel
theorem dX5_sided_14 : decode mX5_sided.2.1 14 = .ok (.goto 7, 3) := by decide +kernel
theorem dX5_sided_17 : decode mX5_sided.2.1 17 = .ok (.aload_n 2, 1) := by decide +kernel
theorem dX5_sided_18 : decode mX5_sided.2.1 18 = .ok (.getfield 174, 3) := by decide +kernel
theorem dX5_sided_21 : decode mX5_sided.2.1 21 = .ok (.ireturn, 1) := by decide +kernel
theorem dX5_state_0 : decode mX5_state.2.1 0 = .ok (.iload_n 1, 1) := by decide +kernel
theorem dX5_state_1 : decode mX5_state.2.1 1 = .ok (.tableswitch 122 0 9 #[55, 60, 65, 70, 78, 86, 95, 104, 112, 117], 55) := by decide +kernel
theorem dX5_state_56 : decode mX5_state.2.1 56 = .ok (.aload_n 0, 1) := by decide +kernel
theorem dX5_state_57 : decode mX5_state.2.1 57 = .ok (.getfield 46, 3) := by decide +kernel
theorem dX5_state_60 : decode mX5_state.2.1 60 = .ok (.ireturn, 1) := by decide +kernel
theorem dX5_state_61 : decode mX5_state.2.1 61 = .ok (.aload_n 0, 1) := by decide +kernel
theorem dX5_state_62 : decode mX5_state.2.1 62 = .ok (.getfield 43, 3) := by decide +kernel
theorem dX5_state_65 : decode mX5_state.2.1 65 = .ok (.ireturn, 1) := by decide +kernel
theorem dX5_state_66 : decode mX5_state.2.1 66 = .ok (.aload_n 0, 1) := by decide +kernel
theorem dX5_state_67 : decode mX5_state.2.1 67 = .ok (.getfield 40, 3) := by decide +kernel
theorem dX5_state_70 : decode mX5_state.2.1 70 = .ok (.ireturn, 1) := by decide +kernel
theorem dX5_state_71 : decode mX5_state.2.1 71 = .ok (.aload_n 0, 1) := by decide +kernel
theorem dX5_state_72 : decode mX5_state.2.1 72 = .ok (.getfield 32, 3) := by decide +kernel
theorem dX5_state_75 : decode mX5_state.2.1 75 = .ok (.getfield 177, 3) := by decide +kernel
theorem dX5_state_78 : decode mX5_state.2.1 78 = .ok (.ireturn, 1) := by decide +kernel
theorem dX5_state_79 : decode mX5_state.2.1 79 = .ok (.aload_n 0, 1) := by decide +kernel
theorem dX5_state_80 : decode mX5_state.2.1 80 = .ok (.getfield 25, 3) := by decide +kernel
theorem dX5_state_83 : decode mX5_state.2.1 83 = .ok (.getfield 180, 3) := by decide +kernel
theorem dX5_state_86 : decode mX5_state.2.1 86 = .ok (.ireturn, 1) := by decide +kernel
theorem dX5_state_87 : decode mX5_state.2.1 87 = .ok (.aload_n 0, 1) := by decide +kernel
theorem dX5_state_88 : decode mX5_state.2.1 88 = .ok (.getfield 10, 3) := by decide +kernel
theorem dX5_state_91 : decode mX5_state.2.1 91 = .ok (.iconst 3, 1) := by decide +kernel
theorem dX5_state_92 : decode mX5_state.2.1 92 = .ok (.invokevirtual 125, 3) := by decide +kernel
theorem dX5_state_95 : decode mX5_state.2.1 95 = .ok (.ireturn, 1) := by decide +kernel
theorem dX5_state_96 : decode mX5_state.2.1 96 = .ok (.aload_n 0, 1) := by decide +kernel
theorem dX5_state_97 : decode mX5_state.2.1 97 = .ok (.getfield 10, 3) := by decide +kernel
theorem dX5_state_100 : decode mX5_state.2.1 100 = .ok (.iconst 2, 1) := by decide +kernel
theorem dX5_state_101 : decode mX5_state.2.1 101 = .ok (.invokevirtual 125, 3) := by decide +kernel
theorem dX5_state_104 : decode mX5_state.2.1 104 = .ok (.ireturn, 1) := by decide +kernel
theorem dX5_state_105 : decode mX5_state.2.1 105 = .ok (.aload_n 0, 1) := by decide +kernel
theorem dX5_state_106 : decode mX5_state.2.1 106 = .ok (.getfield 10, 3) := by decide +kernel
theorem dX5_state_109 : decode mX5_state.2.1 109 = .ok (.invokevirtual 183, 3) := by decide +kernel
theorem dX5_state_112 : decode mX5_state.2.1 112 = .ok (.ireturn, 1) := by decide +kernel
theorem dX5_state_113 : decode mX5_state.2.1 113 = .ok (.aload_n 0, 1) := by decide +kernel
theorem dX5_state_114 : decode mX5_state.2.1 114 = .ok (.getfield 49, 3) := by decide +kernel
theorem dX5_state_117 : decode mX5_state.2.1 117 = .ok (.ireturn, 1) := by decide +kernel
theorem dX5_state_118 : decode mX5_state.2.1 118 = .ok (.aload_n 0, 1) := by decide +kernel
theorem dX5_state_119 : decode mX5_state.2.1 119 = .ok (.getfield 52, 3) := by decide +kernel
theorem dX5_state_122 : decode mX5_state.2.1 122 = .ok (.ireturn, 1) := by decide +kernel
theorem dX5_state_123 : decode mX5_state.2.1 123 = .ok (.iconst (-1), 1) := by decide +kernel
theorem dX5_state_124 : decode mX5_state.2.1 124 = .ok (.ireturn, 1) := by decide +kernel
end
section
/-! decode rows -/
theorem dX5_checkStation_0 : decode mX5_checkStation.2.1 0 = .ok (.iload_n 0, 1) := by decide +kernel
theorem dX5_checkStation_1 : decode mX5_checkStation.2.1 1 = .ok (.ifCond .lt 8, 3) := by decide +kernel
theorem dX5_checkStation_4 : decode mX5_checkStation.2.1 4 = .ok (.iload_n 0, 1) := by decide +kernel
theorem dX5_checkStation_5 : decode mX5_checkStation.2.1 5 = .ok (.iconst 2, 1) := by decide +kernel
theorem dX5_checkStation_6 : decode mX5_checkStation.2.1 6 = .ok (.if_icmp .lt 13, 3) := by decide +kernel
theorem dX5_checkStation_9 : decode mX5_checkStation.2.1 9 = .ok (.new 58, 3) := by decide +kernel
theorem dX5_checkStation_12 : decode mX5_checkStation.2.1 12 = .ok (.dup, 1) := by decide +kernel
theorem dX5_checkStation_13 : decode mX5_checkStation.2.1 13 = .ok (.ldc 187, 2) := by decide +kernel
theorem dX5_checkStation_15 : decode mX5_checkStation.2.1 15 = .ok (.invokespecial 62, 3) := by decide +kernel
theorem dX5_checkStation_18 : decode mX5_checkStation.2.1 18 = .ok (.athrow, 1) := by decide +kernel
theorem dX5_checkStation_19 : decode mX5_checkStation.2.1 19 = .ok (.return_, 1) := by decide +kernel
theorem dX5_checkCabin_0 : decode mX5_checkCabin.2.1 0 = .ok (.iload_n 0, 1) := by decide +kernel
theorem dX5_checkCabin_1 : decode mX5_checkCabin.2.1 1 = .ok (.ifCond .lt 9, 3) := by decide +kernel
theorem dX5_checkCabin_4 : decode mX5_checkCabin.2.1 4 = .ok (.iload_n 0, 1) := by decide +kernel
theorem dX5_checkCabin_5 : decode mX5_checkCabin.2.1 5 = .ok (.bipush 60, 2) := by decide +kernel
theorem dX5_checkCabin_7 : decode mX5_checkCabin.2.1 7 = .ok (.if_icmp .lt 13, 3) := by decide +kernel
theorem dX5_checkCabin_10 : decode mX5_checkCabin.2.1 10 = .ok (.new 58, 3) := by decide +kernel
theorem dX5_checkCabin_13 : decode mX5_checkCabin.2.1 13 = .ok (.dup, 1) := by decide +kernel
theorem dX5_checkCabin_14 : decode mX5_checkCabin.2.1 14 = .ok (.ldc 189, 2) := by decide +kernel
theorem dX5_checkCabin_16 : decode mX5_checkCabin.2.1 16 = .ok (.invokespecial 62, 3) := by decide +kernel
theorem dX5_checkCabin_19 : decode mX5_checkCabin.2.1 19 = .ok (.athrow, 1) := by decide +kernel
theorem dX5_checkCabin_20 : decode mX5_checkCabin.2.1 20 = .ok (.return_, 1) := by decide +kernel
theorem dX5_lock_0 : decode mX5_lock.2.1 0 = .ok (.aload_n 0, 1) := by decide +kernel
theorem dX5_lock_1 : decode mX5_lock.2.1 1 = .ok (.dup, 1) := by decide +kernel
theorem dX5_lock_2 : decode mX5_lock.2.1 2 = .ok (.getfield 36, 3) := by decide +kernel
theorem dX5_lock_5 : decode mX5_lock.2.1 5 = .ok (.iconst 1, 1) := by decide +kernel
theorem dX5_lock_6 : decode mX5_lock.2.1 6 = .ok (.iload_n 1, 1) := by decide +kernel
theorem dX5_lock_7 : decode mX5_lock.2.1 7 = .ok (.ishl, 1) := by decide +kernel
theorem dX5_lock_8 : decode mX5_lock.2.1 8 = .ok (.ior, 1) := by decide +kernel
theorem dX5_lock_9 : decode mX5_lock.2.1 9 = .ok (.putfield 36, 3) := by decide +kernel
theorem dX5_lock_12 : decode mX5_lock.2.1 12 = .ok (.return_, 1) := by decide +kernel
theorem dX5_hasCauseStill_0 : decode mX5_hasCauseStill.2.1 0 = .ok (.iload_n 1, 1) := by decide +kernel
theorem dX5_hasCauseStill_1 : decode mX5_hasCauseStill.2.1 1 = .ok (.tableswitch 81 1 3 #[27, 43, 62], 27) := by decide +kernel
theorem dX5_hasCauseStill_28 : decode mX5_hasCauseStill.2.1 28 = .ok (.aload_n 0, 1) := by decide +kernel
theorem dX5_hasCauseStill_29 : decode mX5_hasCauseStill.2.1 29 = .ok (.getfield 25, 3) := by decide +kernel
theorem dX5_hasCauseStill_32 : decode mX5_hasCauseStill.2.1 32 = .ok (.invokevirtual 114, 3) := by decide +kernel
theorem dX5_hasCauseStill_35 : decode mX5_hasCauseStill.2.1 35 = .ok (.ifCond .ne 7, 3) := by decide +kernel
theorem dX5_hasCauseStill_38 : decode mX5_hasCauseStill.2.1 38 = .ok (.iconst 1, 1) := by decide +kernel
theorem dX5_hasCauseStill_39 : decode mX5_hasCauseStill.2.1 39 = .ok (.goto 4, 3) := by decide +kernel
theorem dX5_hasCauseStill_42 : decode mX5_hasCauseStill.2.1 42 = .ok (.iconst 0, 1) := by decide +kernel
theorem dX5_hasCauseStill_43 : decode mX5_hasCauseStill.2.1 43 = .ok (.ireturn, 1) := by decide +kernel
theorem dX5_hasCauseStill_44 : decode mX5_hasCauseStill.2.1 44 = .ok (.aload_n 0, 1) := by decide +kernel
theorem dX5_hasCauseStill_45 : decode mX5_hasCauseStill.2.1 45 = .ok (.getfield 32, 3) := by decide +kernel
theorem dX5_hasCauseStill_48 : decode mX5_hasCauseStill.2.1 48 = .ok (.getfield 177, 3) := by decide +kernel
theorem dX5_hasCauseStill_51 : decode mX5_hasCauseStill.2.1 51 = .ok (.sipush 250, 3) := by decide +kernel
theorem dX5_hasCauseStill_54 : decode mX5_hasCauseStill.2.1 54 = .ok (.if_icmp .le 7, 3) := by decide +kernel
theorem dX5_hasCauseStill_57 : decode mX5_hasCauseStill.2.1 57 = .ok (.iconst 1, 1) := by decide +kernel
theorem dX5_hasCauseStill_58 : decode mX5_hasCauseStill.2.1 58 = .ok (.goto 4, 3) := by decide +kernel
theorem dX5_hasCauseStill_61 : decode mX5_hasCauseStill.2.1 61 = .ok (.iconst 0, 1) := by decide +kernel
theorem dX5_hasCauseStill_62 : decode mX5_hasCauseStill.2.1 62 = .ok (.ireturn, 1) := by decide +kernel
theorem dX5_hasCauseStill_63 : decode mX5_hasCauseStill.2.1 63 = .ok (.aload_n 0, 1) := by decide +kernel
theorem dX5_hasCauseStill_64 : decode mX5_hasCauseStill.2.1 64 = .ok (.getfield 10, 3) := by decide +kernel
theorem dX5_hasCauseStill_67 : decode mX5_hasCauseStill.2.1 67 = .ok (.invokevirtual 191, 3) := by decide +kernel
theorem dX5_hasCauseStill_70 : decode mX5_hasCauseStill.2.1 70 = .ok (.sipush 5700, 3) := by decide +kernel
theorem dX5_hasCauseStill_73 : decode mX5_hasCauseStill.2.1 73 = .ok (.if_icmp .lt 7, 3) := by decide +kernel
theorem dX5_hasCauseStill_76 : decode mX5_hasCauseStill.2.1 76 = .ok (.iconst 1, 1) := by decide +kernel
theorem dX5_hasCauseStill_77 : decode mX5_hasCauseStill.2.1 77 = .ok (.goto 4, 3) := by decide +kernel
theorem dX5_hasCauseStill_80 : decode mX5_hasCauseStill.2.1 80 = .ok (.iconst 0, 1) := by decide +kernel
theorem dX5_hasCauseStill_81 : decode mX5_hasCauseStill.2.1 81 = .ok (.ireturn, 1) := by decide +kernel
theorem dX5_hasCauseStill_82 : decode mX5_hasCauseStill.2.1 82 = .ok (.iconst 0, 1) := by decide +kernel
theorem dX5_hasCauseStill_83 : decode mX5_hasCauseStill.2.1 83 = .ok (.ireturn, 1) := by decide +kernel
theorem dX5_spotOf_0 : decode mX5_spotOf.2.1 0 = .ok (.aload_n 1, 1) := by decide +kernel
theorem dX5_spotOf_1 : decode mX5_spotOf.2.1 1 = .ok (.getfield 111, 3) := by decide +kernel
theorem dX5_spotOf_4 : decode mX5_spotOf.2.1 4 = .ok (.tableswitch 47 1 3 #[28, 37, 42], 28) := by decide +kernel
theorem dX5_spotOf_32 : decode mX5_spotOf.2.1 32 = .ok (.aload_n 0, 1) := by decide +kernel
theorem dX5_spotOf_33 : decode mX5_spotOf.2.1 33 = .ok (.getfield 25, 3) := by decide +kernel
theorem dX5_spotOf_36 : decode mX5_spotOf.2.1 36 = .ok (.aload_n 1, 1) := by decide +kernel
theorem dX5_spotOf_37 : decode mX5_spotOf.2.1 37 = .ok (.invokevirtual 194, 3) := by decide +kernel
theorem dX5_spotOf_40 : decode mX5_spotOf.2.1 40 = .ok (.ireturn, 1) := by decide +kernel
theorem dX5_spotOf_41 : decode mX5_spotOf.2.1 41 = .ok (.aload_n 1, 1) := by decide +kernel
theorem dX5_spotOf_42 : decode mX5_spotOf.2.1 42 = .ok (.getfield 138, 3) := by decide +kernel
theorem dX5_spotOf_45 : decode mX5_spotOf.2.1 45 = .ok (.ireturn, 1) := by decide +kernel
theorem dX5_spotOf_46 : decode mX5_spotOf.2.1 46 = .ok (.aload_n 1, 1) := by decide +kernel
theorem dX5_spotOf_47 : decode mX5_spotOf.2.1 47 = .ok (.getfield 197, 3) := by decide +kernel
theorem dX5_spotOf_50 : decode mX5_spotOf.2.1 50 = .ok (.ireturn, 1) := by decide +kernel
theorem dX5_spotOf_51 : decode mX5_spotOf.2.1 51 = .ok (.iconst (-1), 1) := by decide +kernel
theorem dX5_spotOf_52 : decode mX5_spotOf.2.1 52 = .ok (.ireturn, 1) := by decide +kernel
theorem dX5_letGo_0 : decode mX5_letGo.2.1 0 = .ok (.iconst 0, 1) := by decide +kernel
theorem dX5_letGo_1 : decode mX5_letGo.2.1 1 = .ok (.istore_n 1, 1) := by decide +kernel
theorem dX5_letGo_2 : decode mX5_letGo.2.1 2 = .ok (.iload_n 1, 1) := by decide +kernel
theorem dX5_letGo_3 : decode mX5_letGo.2.1 3 = .ok (.bipush 60, 2) := by decide +kernel
theorem dX5_letGo_5 : decode mX5_letGo.2.1 5 = .ok (.if_icmp .ge 64, 3) := by decide +kernel
theorem dX5_letGo_8 : decode mX5_letGo.2.1 8 = .ok (.aload_n 0, 1) := by decide +kernel
theorem dX5_letGo_9 : decode mX5_letGo.2.1 9 = .ok (.getfield 10, 3) := by decide +kernel
theorem dX5_letGo_12 : decode mX5_letGo.2.1 12 = .ok (.getfield 108, 3) := by decide +kernel
theorem dX5_letGo_15 : decode mX5_letGo.2.1 15 = .ok (.iload_n 1, 1) := by decide +kernel
theorem dX5_letGo_16 : decode mX5_letGo.2.1 16 = .ok (.aaload, 1) := by decide +kernel
theorem dX5_letGo_17 : decode mX5_letGo.2.1 17 = .ok (.astore_n 2, 1) := by decide +kernel
theorem dX5_letGo_18 : decode mX5_letGo.2.1 18 = .ok (.aload_n 2, 1) := by decide +kernel
theorem dX5_letGo_19 : decode mX5_letGo.2.1 19 = .ok (.getfield 111, 3) := by decide +kernel
theorem dX5_letGo_22 : decode mX5_letGo.2.1 22 = .ok (.iconst 3, 1) := by decide +kernel
theorem dX5_letGo_23 : decode mX5_letGo.2.1 23 = .ok (.if_icmp .ne 40, 3) := by decide +kernel
theorem dX5_letGo_26 : decode mX5_letGo.2.1 26 = .ok (.aload_n 2, 1) := by decide +kernel
theorem dX5_letGo_27 : decode mX5_letGo.2.1 27 = .ok (.getfield 197, 3) := by decide +kernel
theorem dX5_letGo_30 : decode mX5_letGo.2.1 30 = .ok (.sipush 5700, 3) := by decide +kernel
theorem dX5_letGo_33 : decode mX5_letGo.2.1 33 = .ok (.if_icmp .lt 30, 3) := by decide +kernel
theorem dX5_letGo_36 : decode mX5_letGo.2.1 36 = .ok (.aload_n 0, 1) := by decide +kernel
theorem dX5_letGo_37 : decode mX5_letGo.2.1 37 = .ok (.getfield 18, 3) := by decide +kernel
theorem dX5_letGo_40 : decode mX5_letGo.2.1 40 = .ok (.iconst 1, 1) := by decide +kernel
theorem dX5_letGo_41 : decode mX5_letGo.2.1 41 = .ok (.aload_n 2, 1) := by decide +kernel
theorem dX5_letGo_42 : decode mX5_letGo.2.1 42 = .ok (.getfield 135, 3) := by decide +kernel
theorem dX5_letGo_45 : decode mX5_letGo.2.1 45 = .ok (.isub, 1) := by decide +kernel
theorem dX5_letGo_46 : decode mX5_letGo.2.1 46 = .ok (.aaload, 1) := by decide +kernel
theorem dX5_letGo_47 : decode mX5_letGo.2.1 47 = .ok (.astore_n 3, 1) := by decide +kernel
theorem dX5_letGo_48 : decode mX5_letGo.2.1 48 = .ok (.aload_n 3, 1) := by decide +kernel
theorem dX5_letGo_49 : decode mX5_letGo.2.1 49 = .ok (.getfield 82, 3) := by decide +kernel
theorem dX5_letGo_52 : decode mX5_letGo.2.1 52 = .ok (.iconst 1, 1) := by decide +kernel
theorem dX5_letGo_53 : decode mX5_letGo.2.1 53 = .ok (.aaload, 1) := by decide +kernel
theorem dX5_letGo_54 : decode mX5_letGo.2.1 54 = .ok (.ifnonnull 9, 3) := by decide +kernel
theorem dX5_letGo_57 : decode mX5_letGo.2.1 57 = .ok (.aload_n 3, 1) := by decide +kernel
theorem dX5_letGo_58 : decode mX5_letGo.2.1 58 = .ok (.aload_n 2, 1) := by decide +kernel
theorem dX5_letGo_59 : decode mX5_letGo.2.1 59 = .ok (.iconst 1, 1) := by decide +kernel
theorem dX5_letGo_60 : decode mX5_letGo.2.1 60 = .ok (.invokevirtual 131, 3) := by decide +kernel
theorem dX5_letGo_63 : decode mX5_letGo.2.1 63 = .ok (.iinc 1 1, 3) := by decide +kernel
theorem dX5_letGo_66 : decode mX5_letGo.2.1 66 = .ok (.goto (-64), 3) := by decide +kernel
theorem dX5_letGo_69 : decode mX5_letGo.2.1 69 = .ok (.return_, 1) := by decide +kernel
theorem dX5_moveRope_0 : decode mX5_moveRope.2.1 0 = .ok (.iconst 0, 1) := by decide +kernel
theorem dX5_moveRope_1 : decode mX5_moveRope.2.1 1 = .ok (.istore_n 2, 1) := by decide +kernel
theorem dX5_moveRope_2 : decode mX5_moveRope.2.1 2 = .ok (.iload_n 2, 1) := by decide +kernel
theorem dX5_moveRope_3 : decode mX5_moveRope.2.1 3 = .ok (.iload_n 1, 1) := by decide +kernel
theorem dX5_moveRope_4 : decode mX5_moveRope.2.1 4 = .ok (.if_icmp .ge 56, 3) := by decide +kernel
theorem dX5_moveRope_7 : decode mX5_moveRope.2.1 7 = .ok (.sipush 5700, 3) := by decide +kernel
theorem dX5_moveRope_10 : decode mX5_moveRope.2.1 10 = .ok (.aload_n 0, 1) := by decide +kernel
theorem dX5_moveRope_11 : decode mX5_moveRope.2.1 11 = .ok (.getfield 10, 3) := by decide +kernel
theorem dX5_moveRope_14 : decode mX5_moveRope.2.1 14 = .ok (.invokevirtual 191, 3) := by decide +kernel
theorem dX5_moveRope_17 : decode mX5_moveRope.2.1 17 = .ok (.isub, 1) := by decide +kernel
theorem dX5_moveRope_18 : decode mX5_moveRope.2.1 18 = .ok (.istore_n 3, 1) := by decide +kernel
theorem dX5_moveRope_19 : decode mX5_moveRope.2.1 19 = .ok (.iload_n 3, 1) := by decide +kernel
theorem dX5_moveRope_20 : decode mX5_moveRope.2.1 20 = .ok (.ifCond .gt 10, 3) := by decide +kernel
theorem dX5_moveRope_23 : decode mX5_moveRope.2.1 23 = .ok (.aload_n 0, 1) := by decide +kernel
theorem dX5_moveRope_24 : decode mX5_moveRope.2.1 24 = .ok (.iconst 3, 1) := by decide +kernel
theorem dX5_moveRope_25 : decode mX5_moveRope.2.1 25 = .ok (.invokevirtual 200, 3) := by decide +kernel
theorem dX5_moveRope_28 : decode mX5_moveRope.2.1 28 = .ok (.iload_n 2, 1) := by decide +kernel
theorem dX5_moveRope_29 : decode mX5_moveRope.2.1 29 = .ok (.ireturn, 1) := by decide +kernel
theorem dX5_moveRope_30 : decode mX5_moveRope.2.1 30 = .ok (.iload_n 3, 1) := by decide +kernel
theorem dX5_moveRope_31 : decode mX5_moveRope.2.1 31 = .ok (.iload_n 1, 1) := by decide +kernel
theorem dX5_moveRope_32 : decode mX5_moveRope.2.1 32 = .ok (.iload_n 2, 1) := by decide +kernel
theorem dX5_moveRope_33 : decode mX5_moveRope.2.1 33 = .ok (.isub, 1) := by decide +kernel
theorem dX5_moveRope_34 : decode mX5_moveRope.2.1 34 = .ok (.invokestatic 203, 3) := by decide +kernel
theorem dX5_moveRope_37 : decode mX5_moveRope.2.1 37 = .ok (.istore 4, 2) := by decide +kernel
theorem dX5_moveRope_39 : decode mX5_moveRope.2.1 39 = .ok (.aload_n 0, 1) := by decide +kernel
theorem dX5_moveRope_40 : decode mX5_moveRope.2.1 40 = .ok (.getfield 10, 3) := by decide +kernel
theorem dX5_moveRope_43 : decode mX5_moveRope.2.1 43 = .ok (.iload 4, 2) := by decide +kernel
theorem dX5_moveRope_45 : decode mX5_moveRope.2.1 45 = .ok (.invokevirtual 209, 3) := by decide +kernel
theorem dX5_moveRope_48 : decode mX5_moveRope.2.1 48 = .ok (.aload_n 0, 1) := by decide +kernel
theorem dX5_moveRope_49 : decode mX5_moveRope.2.1 49 = .ok (.invokevirtual 65, 3) := by decide +kernel
theorem dX5_moveRope_52 : decode mX5_moveRope.2.1 52 = .ok (.iload_n 2, 1) := by decide +kernel
theorem dX5_moveRope_53 : decode mX5_moveRope.2.1 53 = .ok (.iload 4, 2) := by decide +kernel
theorem dX5_moveRope_55 : decode mX5_moveRope.2.1 55 = .ok (.iadd, 1) := by decide +kernel
theorem dX5_moveRope_56 : decode mX5_moveRope.2.1 56 = .ok (.istore_n 2, 1) := by decide +kernel
theorem dX5_moveRope_57 : decode mX5_moveRope.2.1 57 = .ok (.goto (-55), 3) := by decide +kernel
theorem dX5_moveRope_60 : decode mX5_moveRope.2.1 60 = .ok (.iload_n 2, 1) := by decide +kernel
theorem dX5_moveRope_61 : decode mX5_moveRope.2.1 61 = .ok (.ireturn, 1) := by decide +kernel
theorem dX5_passOneTick_0 : decode mX5_passOneTick.2.1 0 = .ok (.aload_n 0, 1) := by decide +kernel
theorem dX5_passOneTick_1 : decode mX5_passOneTick.2.1 1 = .ok (.getfield 32, 3) := by decide +kernel
theorem dX5_passOneTick_4 : decode mX5_passOneTick.2.1 4 = .ok (.getfield 177, 3) := by decide +kernel
theorem dX5_passOneTick_7 : decode mX5_passOneTick.2.1 7 = .ok (.sipush 250, 3) := by decide +kernel
theorem dX5_passOneTick_10 : decode mX5_passOneTick.2.1 10 = .ok (.if_icmp .le 8, 3) := by decide +kernel
theorem dX5_passOneTick_13 : decode mX5_passOneTick.2.1 13 = .ok (.aload_n 0, 1) := by decide +kernel
theorem dX5_passOneTick_14 : decode mX5_passOneTick.2.1 14 = .ok (.iconst 2, 1) := by decide +kernel
theorem dX5_passOneTick_15 : decode mX5_passOneTick.2.1 15 = .ok (.invokevirtual 200, 3) := by decide +kernel
theorem dX5_passOneTick_18 : decode mX5_passOneTick.2.1 18 = .ok (.iconst 0, 1) := by decide +kernel
theorem dX5_passOneTick_19 : decode mX5_passOneTick.2.1 19 = .ok (.istore_n 1, 1) := by decide +kernel
theorem dX5_passOneTick_20 : decode mX5_passOneTick.2.1 20 = .ok (.iload_n 1, 1) := by decide +kernel
theorem dX5_passOneTick_21 : decode mX5_passOneTick.2.1 21 = .ok (.iconst 2, 1) := by decide +kernel
theorem dX5_passOneTick_22 : decode mX5_passOneTick.2.1 22 = .ok (.if_icmp .ge 19, 3) := by decide +kernel
theorem dX5_passOneTick_25 : decode mX5_passOneTick.2.1 25 = .ok (.aload_n 0, 1) := by decide +kernel
theorem dX5_passOneTick_26 : decode mX5_passOneTick.2.1 26 = .ok (.aload_n 0, 1) := by decide +kernel
theorem dX5_passOneTick_27 : decode mX5_passOneTick.2.1 27 = .ok (.getfield 18, 3) := by decide +kernel
theorem dX5_passOneTick_30 : decode mX5_passOneTick.2.1 30 = .ok (.iload_n 1, 1) := by decide +kernel
theorem dX5_passOneTick_31 : decode mX5_passOneTick.2.1 31 = .ok (.aaload, 1) := by decide +kernel
theorem dX5_passOneTick_32 : decode mX5_passOneTick.2.1 32 = .ok (.invokevirtual 212, 3) := by decide +kernel
theorem dX5_passOneTick_35 : decode mX5_passOneTick.2.1 35 = .ok (.iinc 1 1, 3) := by decide +kernel
theorem dX5_passOneTick_38 : decode mX5_passOneTick.2.1 38 = .ok (.goto (-18), 3) := by decide +kernel
theorem dX5_passOneTick_41 : decode mX5_passOneTick.2.1 41 = .ok (.aload_n 0, 1) := by decide +kernel
theorem dX5_passOneTick_42 : decode mX5_passOneTick.2.1 42 = .ok (.invokevirtual 216, 3) := by decide +kernel
theorem dX5_passOneTick_45 : decode mX5_passOneTick.2.1 45 = .ok (.istore_n 1, 1) := by decide +kernel
theorem dX5_passOneTick_46 : decode mX5_passOneTick.2.1 46 = .ok (.aload_n 0, 1) := by decide +kernel
theorem dX5_passOneTick_47 : decode mX5_passOneTick.2.1 47 = .ok (.getfield 46, 3) := by decide +kernel
theorem dX5_passOneTick_50 : decode mX5_passOneTick.2.1 50 = .ok (.iload_n 1, 1) := by decide +kernel
theorem dX5_passOneTick_51 : decode mX5_passOneTick.2.1 51 = .ok (.if_icmp .ge 16, 3) := by decide +kernel
theorem dX5_passOneTick_54 : decode mX5_passOneTick.2.1 54 = .ok (.aload_n 0, 1) := by decide +kernel
theorem dX5_passOneTick_55 : decode mX5_passOneTick.2.1 55 = .ok (.dup, 1) := by decide +kernel
theorem dX5_passOneTick_56 : decode mX5_passOneTick.2.1 56 = .ok (.getfield 46, 3) := by decide +kernel
theorem dX5_passOneTick_59 : decode mX5_passOneTick.2.1 59 = .ok (.iconst 1, 1) := by decide +kernel
theorem dX5_passOneTick_60 : decode mX5_passOneTick.2.1 60 = .ok (.iadd, 1) := by decide +kernel
theorem dX5_passOneTick_61 : decode mX5_passOneTick.2.1 61 = .ok (.putfield 46, 3) := by decide +kernel
theorem dX5_passOneTick_64 : decode mX5_passOneTick.2.1 64 = .ok (.goto 21, 3) := by decide +kernel
theorem dX5_passOneTick_67 : decode mX5_passOneTick.2.1 67 = .ok (.aload_n 0, 1) := by decide +kernel
theorem dX5_passOneTick_68 : decode mX5_passOneTick.2.1 68 = .ok (.getfield 46, 3) := by decide +kernel
theorem dX5_passOneTick_71 : decode mX5_passOneTick.2.1 71 = .ok (.iload_n 1, 1) := by decide +kernel
theorem dX5_passOneTick_72 : decode mX5_passOneTick.2.1 72 = .ok (.if_icmp .le 13, 3) := by decide +kernel
theorem dX5_passOneTick_75 : decode mX5_passOneTick.2.1 75 = .ok (.aload_n 0, 1) := by decide +kernel
theorem dX5_passOneTick_76 : decode mX5_passOneTick.2.1 76 = .ok (.dup, 1) := by decide +kernel
theorem dX5_passOneTick_77 : decode mX5_passOneTick.2.1 77 = .ok (.getfield 46, 3) := by decide +kernel
theorem dX5_passOneTick_80 : decode mX5_passOneTick.2.1 80 = .ok (.iconst 1, 1) := by decide +kernel
theorem dX5_passOneTick_81 : decode mX5_passOneTick.2.1 81 = .ok (.isub, 1) := by decide +kernel
theorem dX5_passOneTick_82 : decode mX5_passOneTick.2.1 82 = .ok (.putfield 46, 3) := by decide +kernel
theorem dX5_passOneTick_85 : decode mX5_passOneTick.2.1 85 = .ok (.aload_n 0, 1) := by decide +kernel
theorem dX5_passOneTick_86 : decode mX5_passOneTick.2.1 86 = .ok (.dup, 1) := by decide +kernel
theorem dX5_passOneTick_87 : decode mX5_passOneTick.2.1 87 = .ok (.getfield 49, 3) := by decide +kernel
theorem dX5_passOneTick_90 : decode mX5_passOneTick.2.1 90 = .ok (.iconst 1, 1) := by decide +kernel
theorem dX5_passOneTick_91 : decode mX5_passOneTick.2.1 91 = .ok (.iadd, 1) := by decide +kernel
theorem dX5_passOneTick_92 : decode mX5_passOneTick.2.1 92 = .ok (.putfield 49, 3) := by decide +kernel
theorem dX5_passOneTick_95 : decode mX5_passOneTick.2.1 95 = .ok (.return_, 1) := by decide +kernel
theorem dX5_workZones_0 : decode mX5_workZones.2.1 0 = .ok (.bipush 12, 2) := by decide +kernel
theorem dX5_workZones_2 : decode mX5_workZones.2.1 2 = .ok (.istore_n 2, 1) := by decide +kernel
theorem dX5_workZones_3 : decode mX5_workZones.2.1 3 = .ok (.iload_n 2, 1) := by decide +kernel
theorem dX5_workZones_4 : decode mX5_workZones.2.1 4 = .ok (.iconst 1, 1) := by decide +kernel
theorem dX5_workZones_5 : decode mX5_workZones.2.1 5 = .ok (.if_icmp .lt 74, 3) := by decide +kernel
theorem dX5_workZones_8 : decode mX5_workZones.2.1 8 = .ok (.aload_n 1, 1) := by decide +kernel
theorem dX5_workZones_9 : decode mX5_workZones.2.1 9 = .ok (.getfield 82, 3) := by decide +kernel
theorem dX5_workZones_12 : decode mX5_workZones.2.1 12 = .ok (.iload_n 2, 1) := by decide +kernel
theorem dX5_workZones_13 : decode mX5_workZones.2.1 13 = .ok (.aaload, 1) := by decide +kernel
theorem dX5_workZones_14 : decode mX5_workZones.2.1 14 = .ok (.astore_n 3, 1) := by decide +kernel
theorem dX5_workZones_15 : decode mX5_workZones.2.1 15 = .ok (.aload_n 3, 1) := by decide +kernel
theorem dX5_workZones_16 : decode mX5_workZones.2.1 16 = .ok (.ifnull 57, 3) := by decide +kernel
theorem dX5_workZones_19 : decode mX5_workZones.2.1 19 = .ok (.aload_n 3, 1) := by decide +kernel
theorem dX5_workZones_20 : decode mX5_workZones.2.1 20 = .ok (.dup, 1) := by decide +kernel
theorem dX5_workZones_21 : decode mX5_workZones.2.1 21 = .ok (.getfield 152, 3) := by decide +kernel
theorem dX5_workZones_24 : decode mX5_workZones.2.1 24 = .ok (.iconst 1, 1) := by decide +kernel
theorem dX5_workZones_25 : decode mX5_workZones.2.1 25 = .ok (.iadd, 1) := by decide +kernel
theorem dX5_workZones_26 : decode mX5_workZones.2.1 26 = .ok (.putfield 152, 3) := by decide +kernel
theorem dX5_workZones_29 : decode mX5_workZones.2.1 29 = .ok (.iload_n 2, 1) := by decide +kernel
theorem dX5_workZones_30 : decode mX5_workZones.2.1 30 = .ok (.bipush 12, 2) := by decide +kernel
theorem dX5_workZones_32 : decode mX5_workZones.2.1 32 = .ok (.if_icmp .ge 11, 3) := by decide +kernel
theorem dX5_workZones_35 : decode mX5_workZones.2.1 35 = .ok (.aload_n 1, 1) := by decide +kernel
theorem dX5_workZones_36 : decode mX5_workZones.2.1 36 = .ok (.iload_n 2, 1) := by decide +kernel
theorem dX5_workZones_37 : decode mX5_workZones.2.1 37 = .ok (.invokevirtual 219, 3) := by decide +kernel
theorem dX5_workZones_40 : decode mX5_workZones.2.1 40 = .ok (.goto 33, 3) := by decide +kernel
theorem dX5_workZones_43 : decode mX5_workZones.2.1 43 = .ok (.aload_n 3, 1) := by decide +kernel
theorem dX5_workZones_44 : decode mX5_workZones.2.1 44 = .ok (.invokevirtual 86, 3) := by decide +kernel
theorem dX5_workZones_47 : decode mX5_workZones.2.1 47 = .ok (.ifCond .eq 12, 3) := by decide +kernel
theorem dX5_workZones_50 : decode mX5_workZones.2.1 50 = .ok (.aload_n 0, 1) := by decide +kernel
theorem dX5_workZones_51 : decode mX5_workZones.2.1 51 = .ok (.aload_n 1, 1) := by decide +kernel
theorem dX5_workZones_52 : decode mX5_workZones.2.1 52 = .ok (.aload_n 3, 1) := by decide +kernel
theorem dX5_workZones_53 : decode mX5_workZones.2.1 53 = .ok (.invokevirtual 222, 3) := by decide +kernel
theorem dX5_workZones_56 : decode mX5_workZones.2.1 56 = .ok (.goto 17, 3) := by decide +kernel
theorem dX5_workZones_59 : decode mX5_workZones.2.1 59 = .ok (.aload_n 0, 1) := by decide +kernel
theorem dX5_workZones_60 : decode mX5_workZones.2.1 60 = .ok (.aload_n 1, 1) := by decide +kernel
theorem dX5_workZones_61 : decode mX5_workZones.2.1 61 = .ok (.aload_n 3, 1) := by decide +kernel
theorem dX5_workZones_62 : decode mX5_workZones.2.1 62 = .ok (.invokevirtual 226, 3) := by decide +kernel
theorem dX5_workZones_65 : decode mX5_workZones.2.1 65 = .ok (.ifCond .eq 8, 3) := by decide +kernel
theorem dX5_workZones_68 : decode mX5_workZones.2.1 68 = .ok (.aload_n 3, 1) := by decide +kernel
theorem dX5_workZones_69 : decode mX5_workZones.2.1 69 = .ok (.iconst 0, 1) := by decide +kernel
theorem dX5_workZones_70 : decode mX5_workZones.2.1 70 = .ok (.putfield 155, 3) := by decide +kernel
theorem dX5_workZones_73 : decode mX5_workZones.2.1 73 = .ok (.iinc 2 (-1), 3) := by decide +kernel
theorem dX5_workZones_76 : decode mX5_workZones.2.1 76 = .ok (.goto (-73), 3) := by decide +kernel
theorem dX5_workZones_79 : decode mX5_workZones.2.1 79 = .ok (.return_, 1) := by decide +kernel
theorem dX5_mayClamp_0 : decode mX5_mayClamp.2.1 0 = .ok (.aload_n 2, 1) := by decide +kernel
theorem dX5_mayClamp_1 : decode mX5_mayClamp.2.1 1 = .ok (.getfield 152, 3) := by decide +kernel
theorem dX5_mayClamp_4 : decode mX5_mayClamp.2.1 4 = .ok (.bipush 15, 2) := by decide +kernel
theorem dX5_mayClamp_6 : decode mX5_mayClamp.2.1 6 = .ok (.if_icmp .lt 33, 3) := by decide +kernel
theorem dX5_mayClamp_9 : decode mX5_mayClamp.2.1 9 = .ok (.aload_n 0, 1) := by decide +kernel
theorem dX5_mayClamp_10 : decode mX5_mayClamp.2.1 10 = .ok (.getfield 36, 3) := by decide +kernel
theorem dX5_mayClamp_13 : decode mX5_mayClamp.2.1 13 = .ok (.ifCond .ne 26, 3) := by decide +kernel
theorem dX5_mayClamp_16 : decode mX5_mayClamp.2.1 16 = .ok (.aload_n 0, 1) := by decide +kernel
theorem dX5_mayClamp_17 : decode mX5_mayClamp.2.1 17 = .ok (.getfield 10, 3) := by decide +kernel
theorem dX5_mayClamp_20 : decode mX5_mayClamp.2.1 20 = .ok (.aload_n 1, 1) := by decide +kernel
theorem dX5_mayClamp_21 : decode mX5_mayClamp.2.1 21 = .ok (.getfield 230, 3) := by decide +kernel
theorem dX5_mayClamp_24 : decode mX5_mayClamp.2.1 24 = .ok (.aload_n 0, 1) := by decide +kernel
theorem dX5_mayClamp_25 : decode mX5_mayClamp.2.1 25 = .ok (.aload_n 1, 1) := by decide +kernel
theorem dX5_mayClamp_26 : decode mX5_mayClamp.2.1 26 = .ok (.invokevirtual 231, 3) := by decide +kernel
theorem dX5_mayClamp_29 : decode mX5_mayClamp.2.1 29 = .ok (.invokevirtual 235, 3) := by decide +kernel
theorem dX5_mayClamp_32 : decode mX5_mayClamp.2.1 32 = .ok (.ifCond .eq 7, 3) := by decide +kernel
theorem dX5_mayClamp_35 : decode mX5_mayClamp.2.1 35 = .ok (.iconst 1, 1) := by decide +kernel
theorem dX5_mayClamp_36 : decode mX5_mayClamp.2.1 36 = .ok (.goto 4, 3) := by decide +kernel
theorem dX5_mayClamp_39 : decode mX5_mayClamp.2.1 39 = .ok (.iconst 0, 1) := by decide +kernel
theorem dX5_mayClamp_40 : decode mX5_mayClamp.2.1 40 = .ok (.ireturn, 1) := by decide +kernel
theorem dX5_spacing_0 : decode mX5_spacing.2.1 0 = .ok (.aload_n 1, 1) := by decide +kernel
theorem dX5_spacing_1 : decode mX5_spacing.2.1 1 = .ok (.invokevirtual 239, 3) := by decide +kernel
theorem dX5_spacing_4 : decode mX5_spacing.2.1 4 = .ok (.bipush 6, 2) := by decide +kernel
theorem dX5_spacing_6 : decode mX5_spacing.2.1 6 = .ok (.if_icmp .lt 6, 3) := by decide +kernel
theorem dX5_spacing_9 : decode mX5_spacing.2.1 9 = .ok (.bipush 90, 2) := by decide +kernel
theorem dX5_spacing_11 : decode mX5_spacing.2.1 11 = .ok (.ireturn, 1) := by decide +kernel
theorem dX5_spacing_12 : decode mX5_spacing.2.1 12 = .ok (.sipush 12000, 3) := by decide +kernel
theorem dX5_spacing_15 : decode mX5_spacing.2.1 15 = .ok (.aload_n 0, 1) := by decide +kernel
theorem dX5_spacing_16 : decode mX5_spacing.2.1 16 = .ok (.getfield 40, 3) := by decide +kernel
theorem dX5_spacing_19 : decode mX5_spacing.2.1 19 = .ok (.iconst 1, 1) := by decide +kernel
theorem dX5_spacing_20 : decode mX5_spacing.2.1 20 = .ok (.invokestatic 242, 3) := by decide +kernel
theorem dX5_spacing_23 : decode mX5_spacing.2.1 23 = .ok (.idiv, 1) := by decide +kernel
theorem dX5_spacing_24 : decode mX5_spacing.2.1 24 = .ok (.bipush 90, 2) := by decide +kernel
theorem dX5_spacing_26 : decode mX5_spacing.2.1 26 = .ok (.invokestatic 242, 3) := by decide +kernel
theorem dX5_spacing_29 : decode mX5_spacing.2.1 29 = .ok (.ireturn, 1) := by decide +kernel
theorem dX5_goOnClamping_0 : decode mX5_goOnClamping.2.1 0 = .ok (.aload_n 2, 1) := by decide +kernel
theorem dX5_goOnClamping_1 : decode mX5_goOnClamping.2.1 1 = .ok (.dup, 1) := by decide +kernel
theorem dX5_goOnClamping_2 : decode mX5_goOnClamping.2.1 2 = .ok (.getfield 155, 3) := by decide +kernel
theorem dX5_goOnClamping_5 : decode mX5_goOnClamping.2.1 5 = .ok (.iconst 1, 1) := by decide +kernel
theorem dX5_goOnClamping_6 : decode mX5_goOnClamping.2.1 6 = .ok (.iadd, 1) := by decide +kernel
theorem dX5_goOnClamping_7 : decode mX5_goOnClamping.2.1 7 = .ok (.putfield 155, 3) := by decide +kernel
theorem dX5_goOnClamping_10 : decode mX5_goOnClamping.2.1 10 = .ok (.aload_n 2, 1) := by decide +kernel
theorem dX5_goOnClamping_11 : decode mX5_goOnClamping.2.1 11 = .ok (.invokevirtual 245, 3) := by decide +kernel
theorem dX5_goOnClamping_14 : decode mX5_goOnClamping.2.1 14 = .ok (.ifCond .eq 31, 3) := by decide +kernel
theorem dX5_goOnClamping_17 : decode mX5_goOnClamping.2.1 17 = .ok (.aload_n 2, 1) := by decide +kernel
theorem dX5_goOnClamping_18 : decode mX5_goOnClamping.2.1 18 = .ok (.invokevirtual 248, 3) := by decide +kernel
theorem dX5_goOnClamping_21 : decode mX5_goOnClamping.2.1 21 = .ok (.istore_n 3, 1) := by decide +kernel
theorem dX5_goOnClamping_22 : decode mX5_goOnClamping.2.1 22 = .ok (.iload_n 3, 1) := by decide +kernel
theorem dX5_goOnClamping_23 : decode mX5_goOnClamping.2.1 23 = .ok (.ifCond .ne 12, 3) := by decide +kernel
theorem dX5_goOnClamping_26 : decode mX5_goOnClamping.2.1 26 = .ok (.aload_n 0, 1) := by decide +kernel
theorem dX5_goOnClamping_27 : decode mX5_goOnClamping.2.1 27 = .ok (.aload_n 1, 1) := by decide +kernel
theorem dX5_goOnClamping_28 : decode mX5_goOnClamping.2.1 28 = .ok (.aload_n 2, 1) := by decide +kernel
theorem dX5_goOnClamping_29 : decode mX5_goOnClamping.2.1 29 = .ok (.invokevirtual 251, 3) := by decide +kernel
theorem dX5_goOnClamping_32 : decode mX5_goOnClamping.2.1 32 = .ok (.goto 10, 3) := by decide +kernel
theorem dX5_goOnClamping_35 : decode mX5_goOnClamping.2.1 35 = .ok (.aload_n 0, 1) := by decide +kernel
theorem dX5_goOnClamping_36 : decode mX5_goOnClamping.2.1 36 = .ok (.aload_n 1, 1) := by decide +kernel
theorem dX5_goOnClamping_37 : decode mX5_goOnClamping.2.1 37 = .ok (.aload_n 2, 1) := by decide +kernel
theorem dX5_goOnClamping_38 : decode mX5_goOnClamping.2.1 38 = .ok (.iload_n 3, 1) := by decide +kernel
theorem dX5_goOnClamping_39 : decode mX5_goOnClamping.2.1 39 = .ok (.invokevirtual 254, 3) := by decide +kernel
theorem dX5_goOnClamping_42 : decode mX5_goOnClamping.2.1 42 = .ok (.goto 19, 3) := by decide +kernel
theorem dX5_goOnClamping_45 : decode mX5_goOnClamping.2.1 45 = .ok (.aload_n 2, 1) := by decide +kernel
theorem dX5_goOnClamping_46 : decode mX5_goOnClamping.2.1 46 = .ok (.getfield 155, 3) := by decide +kernel
theorem dX5_goOnClamping_49 : decode mX5_goOnClamping.2.1 49 = .ok (.bipush 40, 2) := by decide +kernel
theorem dX5_goOnClamping_51 : decode mX5_goOnClamping.2.1 51 = .ok (.if_icmp .lt 10, 3) := by decide +kernel
theorem dX5_goOnClamping_54 : decode mX5_goOnClamping.2.1 54 = .ok (.aload_n 0, 1) := by decide +kernel
theorem dX5_goOnClamping_55 : decode mX5_goOnClamping.2.1 55 = .ok (.aload_n 1, 1) := by decide +kernel
theorem dX5_goOnClamping_56 : decode mX5_goOnClamping.2.1 56 = .ok (.aload_n 2, 1) := by decide +kernel
theorem dX5_goOnClamping_57 : decode mX5_goOnClamping.2.1 57 = .ok (.iconst 3, 1) := by decide +kernel
theorem dX5_goOnClamping_58 : decode mX5_goOnClamping.2.1 58 = .ok (.invokevirtual 254, 3) := by decide +kernel
theorem dX5_goOnClamping_61 : decode mX5_goOnClamping.2.1 61 = .ok (.return_, 1) := by decide +kernel
theorem dX5_leave_0 : decode mX5_leave.2.1 0 = .ok (.aload_n 1, 1) := by decide +kernel
theorem dX5_leave_1 : decode mX5_leave.2.1 1 = .ok (.getfield 82, 3) := by decide +kernel
theorem dX5_leave_4 : decode mX5_leave.2.1 4 = .ok (.bipush 12, 2) := by decide +kernel
theorem dX5_leave_6 : decode mX5_leave.2.1 6 = .ok (.aconst_null, 1) := by decide +kernel
theorem dX5_leave_7 : decode mX5_leave.2.1 7 = .ok (.aastore, 1) := by decide +kernel
theorem dX5_leave_8 : decode mX5_leave.2.1 8 = .ok (.aload_n 2, 1) := by decide +kernel
theorem dX5_leave_9 : decode mX5_leave.2.1 9 = .ok (.invokevirtual 258, 3) := by decide +kernel
theorem dX5_leave_12 : decode mX5_leave.2.1 12 = .ok (.aload_n 2, 1) := by decide +kernel
theorem dX5_leave_13 : decode mX5_leave.2.1 13 = .ok (.iconst 3, 1) := by decide +kernel
theorem dX5_leave_14 : decode mX5_leave.2.1 14 = .ok (.invokevirtual 261, 3) := by decide +kernel
theorem dX5_leave_17 : decode mX5_leave.2.1 17 = .ok (.aload_n 2, 1) := by decide +kernel
theorem dX5_leave_18 : decode mX5_leave.2.1 18 = .ok (.aload_n 1, 1) := by decide +kernel
theorem dX5_leave_19 : decode mX5_leave.2.1 19 = .ok (.getfield 230, 3) := by decide +kernel
theorem dX5_leave_22 : decode mX5_leave.2.1 22 = .ok (.putfield 135, 3) := by decide +kernel
theorem dX5_leave_25 : decode mX5_leave.2.1 25 = .ok (.aload_n 2, 1) := by decide +kernel
theorem dX5_leave_26 : decode mX5_leave.2.1 26 = .ok (.iconst 0, 1) := by decide +kernel
theorem dX5_leave_27 : decode mX5_leave.2.1 27 = .ok (.putfield 197, 3) := by decide +kernel
theorem dX5_leave_30 : decode mX5_leave.2.1 30 = .ok (.aload_n 2, 1) := by decide +kernel
theorem dX5_leave_31 : decode mX5_leave.2.1 31 = .ok (.dup, 1) := by decide +kernel
theorem dX5_leave_32 : decode mX5_leave.2.1 32 = .ok (.getfield 161, 3) := by decide +kernel
theorem dX5_leave_35 : decode mX5_leave.2.1 35 = .ok (.iconst 1, 1) := by decide +kernel
theorem dX5_leave_36 : decode mX5_leave.2.1 36 = .ok (.iadd, 1) := by decide +kernel
theorem dX5_leave_37 : decode mX5_leave.2.1 37 = .ok (.putfield 161, 3) := by decide +kernel
theorem dX5_leave_40 : decode mX5_leave.2.1 40 = .ok (.return_, 1) := by decide +kernel
theorem dX5_fail_0 : decode mX5_fail.2.1 0 = .ok (.aload_n 2, 1) := by decide +kernel
theorem dX5_fail_1 : decode mX5_fail.2.1 1 = .ok (.iload_n 3, 1) := by decide +kernel
theorem dX5_fail_2 : decode mX5_fail.2.1 2 = .ok (.putfield 164, 3) := by decide +kernel
theorem dX5_fail_5 : decode mX5_fail.2.1 5 = .ok (.aload_n 2, 1) := by decide +kernel
theorem dX5_fail_6 : decode mX5_fail.2.1 6 = .ok (.invokevirtual 258, 3) := by decide +kernel
theorem dX5_fail_9 : decode mX5_fail.2.1 9 = .ok (.aload_n 0, 1) := by decide +kernel
theorem dX5_fail_10 : decode mX5_fail.2.1 10 = .ok (.iconst 0, 1) := by decide +kernel
theorem dX5_fail_11 : decode mX5_fail.2.1 11 = .ok (.invokevirtual 200, 3) := by decide +kernel
theorem dX5_fail_14 : decode mX5_fail.2.1 14 = .ok (.aload_n 0, 1) := by decide +kernel
theorem dX5_fail_15 : decode mX5_fail.2.1 15 = .ok (.getfield 25, 3) := by decide +kernel
theorem dX5_fail_18 : decode mX5_fail.2.1 18 = .ok (.invokevirtual 114, 3) := by decide +kernel
theorem dX5_fail_21 : decode mX5_fail.2.1 21 = .ok (.ifCond .eq 22, 3) := by decide +kernel
theorem dX5_fail_24 : decode mX5_fail.2.1 24 = .ok (.aload_n 1, 1) := by decide +kernel
theorem dX5_fail_25 : decode mX5_fail.2.1 25 = .ok (.getfield 82, 3) := by decide +kernel
theorem dX5_fail_28 : decode mX5_fail.2.1 28 = .ok (.bipush 12, 2) := by decide +kernel
theorem dX5_fail_30 : decode mX5_fail.2.1 30 = .ok (.aconst_null, 1) := by decide +kernel
theorem dX5_fail_31 : decode mX5_fail.2.1 31 = .ok (.aastore, 1) := by decide +kernel
theorem dX5_fail_32 : decode mX5_fail.2.1 32 = .ok (.aload_n 0, 1) := by decide +kernel
theorem dX5_fail_33 : decode mX5_fail.2.1 33 = .ok (.getfield 25, 3) := by decide +kernel
theorem dX5_fail_36 : decode mX5_fail.2.1 36 = .ok (.aload_n 2, 1) := by decide +kernel
theorem dX5_fail_37 : decode mX5_fail.2.1 37 = .ok (.invokevirtual 117, 3) := by decide +kernel
theorem dX5_fail_40 : decode mX5_fail.2.1 40 = .ok (.goto 13, 3) := by decide +kernel
theorem dX5_fail_43 : decode mX5_fail.2.1 43 = .ok (.aload_n 0, 1) := by decide +kernel
theorem dX5_fail_44 : decode mX5_fail.2.1 44 = .ok (.iconst 1, 1) := by decide +kernel
theorem dX5_fail_45 : decode mX5_fail.2.1 45 = .ok (.invokevirtual 200, 3) := by decide +kernel
theorem dX5_fail_48 : decode mX5_fail.2.1 48 = .ok (.aload_n 2, 1) := by decide +kernel
theorem dX5_fail_49 : decode mX5_fail.2.1 49 = .ok (.iconst 0, 1) := by decide +kernel
theorem dX5_fail_50 : decode mX5_fail.2.1 50 = .ok (.putfield 152, 3) := by decide +kernel
theorem dX5_fail_53 : decode mX5_fail.2.1 53 = .ok (.return_, 1) := by decide +kernel
theorem dX5_targetSpeed_0 : decode mX5_targetSpeed.2.1 0 = .ok (.aload_n 0, 1) := by decide +kernel
theorem dX5_targetSpeed_1 : decode mX5_targetSpeed.2.1 1 = .ok (.getfield 36, 3) := by decide +kernel
theorem dX5_targetSpeed_4 : decode mX5_targetSpeed.2.1 4 = .ok (.ifCond .ne 10, 3) := by decide +kernel
theorem dX5_targetSpeed_7 : decode mX5_targetSpeed.2.1 7 = .ok (.aload_n 0, 1) := by decide +kernel
theorem dX5_targetSpeed_8 : decode mX5_targetSpeed.2.1 8 = .ok (.invokevirtual 264, 3) := by decide +kernel
theorem dX5_targetSpeed_11 : decode mX5_targetSpeed.2.1 11 = .ok (.ifCond .eq 5, 3) := by decide +kernel
theorem dX5_targetSpeed_14 : decode mX5_targetSpeed.2.1 14 = .ok (.iconst 0, 1) := by decide +kernel
theorem dX5_targetSpeed_15 : decode mX5_targetSpeed.2.1 15 = .ok (.ireturn, 1) := by decide +kernel
theorem dX5_targetSpeed_16 : decode mX5_targetSpeed.2.1 16 = .ok (.aload_n 0, 1) := by decide +kernel
theorem dX5_targetSpeed_17 : decode mX5_targetSpeed.2.1 17 = .ok (.getfield 32, 3) := by decide +kernel
theorem dX5_targetSpeed_20 : decode mX5_targetSpeed.2.1 20 = .ok (.getfield 177, 3) := by decide +kernel
theorem dX5_targetSpeed_23 : decode mX5_targetSpeed.2.1 23 = .ok (.sipush 180, 3) := by decide +kernel
theorem dX5_targetSpeed_26 : decode mX5_targetSpeed.2.1 26 = .ok (.if_icmp .le 14, 3) := by decide +kernel
theorem dX5_targetSpeed_29 : decode mX5_targetSpeed.2.1 29 = .ok (.aload_n 0, 1) := by decide +kernel
theorem dX5_targetSpeed_30 : decode mX5_targetSpeed.2.1 30 = .ok (.getfield 43, 3) := by decide +kernel
theorem dX5_targetSpeed_33 : decode mX5_targetSpeed.2.1 33 = .ok (.iconst 2, 1) := by decide +kernel
theorem dX5_targetSpeed_34 : decode mX5_targetSpeed.2.1 34 = .ok (.invokestatic 203, 3) := by decide +kernel
theorem dX5_targetSpeed_37 : decode mX5_targetSpeed.2.1 37 = .ok (.goto 7, 3) := by decide +kernel
theorem dX5_targetSpeed_40 : decode mX5_targetSpeed.2.1 40 = .ok (.aload_n 0, 1) := by decide +kernel
theorem dX5_targetSpeed_41 : decode mX5_targetSpeed.2.1 41 = .ok (.getfield 43, 3) := by decide +kernel
theorem dX5_targetSpeed_44 : decode mX5_targetSpeed.2.1 44 = .ok (.ireturn, 1) := by decide +kernel
theorem dX5_isArrivalHeldUp_0 : decode mX5_isArrivalHeldUp.2.1 0 = .ok (.iconst 0, 1) := by decide +kernel
theorem dX5_isArrivalHeldUp_1 : decode mX5_isArrivalHeldUp.2.1 1 = .ok (.istore_n 1, 1) := by decide +kernel
theorem dX5_isArrivalHeldUp_2 : decode mX5_isArrivalHeldUp.2.1 2 = .ok (.iload_n 1, 1) := by decide +kernel
theorem dX5_isArrivalHeldUp_3 : decode mX5_isArrivalHeldUp.2.1 3 = .ok (.iconst 2, 1) := by decide +kernel
theorem dX5_isArrivalHeldUp_4 : decode mX5_isArrivalHeldUp.2.1 4 = .ok (.if_icmp .ge 38, 3) := by decide +kernel
theorem dX5_isArrivalHeldUp_7 : decode mX5_isArrivalHeldUp.2.1 7 = .ok (.aload_n 0, 1) := by decide +kernel
theorem dX5_isArrivalHeldUp_8 : decode mX5_isArrivalHeldUp.2.1 8 = .ok (.getfield 18, 3) := by decide +kernel
theorem dX5_isArrivalHeldUp_11 : decode mX5_isArrivalHeldUp.2.1 11 = .ok (.iload_n 1, 1) := by decide +kernel
theorem dX5_isArrivalHeldUp_12 : decode mX5_isArrivalHeldUp.2.1 12 = .ok (.aaload, 1) := by decide +kernel
theorem dX5_isArrivalHeldUp_13 : decode mX5_isArrivalHeldUp.2.1 13 = .ok (.getfield 82, 3) := by decide +kernel
theorem dX5_isArrivalHeldUp_16 : decode mX5_isArrivalHeldUp.2.1 16 = .ok (.iconst 1, 1) := by decide +kernel
theorem dX5_isArrivalHeldUp_17 : decode mX5_isArrivalHeldUp.2.1 17 = .ok (.aaload, 1) := by decide +kernel
theorem dX5_isArrivalHeldUp_18 : decode mX5_isArrivalHeldUp.2.1 18 = .ok (.ifnull 18, 3) := by decide +kernel
theorem dX5_isArrivalHeldUp_21 : decode mX5_isArrivalHeldUp.2.1 21 = .ok (.aload_n 0, 1) := by decide +kernel
theorem dX5_isArrivalHeldUp_22 : decode mX5_isArrivalHeldUp.2.1 22 = .ok (.getfield 10, 3) := by decide +kernel
theorem dX5_isArrivalHeldUp_25 : decode mX5_isArrivalHeldUp.2.1 25 = .ok (.iconst 1, 1) := by decide +kernel
theorem dX5_isArrivalHeldUp_26 : decode mX5_isArrivalHeldUp.2.1 26 = .ok (.iload_n 1, 1) := by decide +kernel
theorem dX5_isArrivalHeldUp_27 : decode mX5_isArrivalHeldUp.2.1 27 = .ok (.isub, 1) := by decide +kernel
theorem dX5_isArrivalHeldUp_28 : decode mX5_isArrivalHeldUp.2.1 28 = .ok (.invokevirtual 267, 3) := by decide +kernel
theorem dX5_isArrivalHeldUp_31 : decode mX5_isArrivalHeldUp.2.1 31 = .ok (.ifCond .eq 5, 3) := by decide +kernel
theorem dX5_isArrivalHeldUp_34 : decode mX5_isArrivalHeldUp.2.1 34 = .ok (.iconst 1, 1) := by decide +kernel
theorem dX5_isArrivalHeldUp_35 : decode mX5_isArrivalHeldUp.2.1 35 = .ok (.ireturn, 1) := by decide +kernel
theorem dX5_isArrivalHeldUp_36 : decode mX5_isArrivalHeldUp.2.1 36 = .ok (.iinc 1 1, 3) := by decide +kernel
theorem dX5_isArrivalHeldUp_39 : decode mX5_isArrivalHeldUp.2.1 39 = .ok (.goto (-37), 3) := by decide +kernel
theorem dX5_isArrivalHeldUp_42 : decode mX5_isArrivalHeldUp.2.1 42 = .ok (.iconst 0, 1) := by decide +kernel
theorem dX5_isArrivalHeldUp_43 : decode mX5_isArrivalHeldUp.2.1 43 = .ok (.ireturn, 1) := by decide +kernel
end
section
/-! decode rows -/
theorem dX6_init_0 : decode mX6_init.2.1 0 = .ok (.aload_n 0, 1) := by decide +kernel
theorem dX6_init_1 : decode mX6_init.2.1 1 = .ok (.invokespecial 1, 3) := by decide +kernel
theorem dX6_init_4 : decode mX6_init.2.1 4 = .ok (.aload_n 0, 1) := by decide +kernel
theorem dX6_init_5 : decode mX6_init.2.1 5 = .ok (.bipush 60, 2) := by decide +kernel
theorem dX6_init_7 : decode mX6_init.2.1 7 = .ok (.newarray .int, 2) := by decide +kernel
theorem dX6_init_9 : decode mX6_init.2.1 9 = .ok (.putfield 7, 3) := by decide +kernel
theorem dX6_init_12 : decode mX6_init.2.1 12 = .ok (.aload_n 0, 1) := by decide +kernel
theorem dX6_init_13 : decode mX6_init.2.1 13 = .ok (.bipush 60, 2) := by decide +kernel
theorem dX6_init_15 : decode mX6_init.2.1 15 = .ok (.newarray .int, 2) := by decide +kernel
theorem dX6_init_17 : decode mX6_init.2.1 17 = .ok (.putfield 13, 3) := by decide +kernel
theorem dX6_init_20 : decode mX6_init.2.1 20 = .ok (.aload_n 0, 1) := by decide +kernel
theorem dX6_init_21 : decode mX6_init.2.1 21 = .ok (.bipush 60, 2) := by decide +kernel
theorem dX6_init_23 : decode mX6_init.2.1 23 = .ok (.newarray .int, 2) := by decide +kernel
theorem dX6_init_25 : decode mX6_init.2.1 25 = .ok (.putfield 16, 3) := by decide +kernel
theorem dX6_init_28 : decode mX6_init.2.1 28 = .ok (.aload_n 0, 1) := by decide +kernel
theorem dX6_init_29 : decode mX6_init.2.1 29 = .ok (.bipush 60, 2) := by decide +kernel
theorem dX6_init_31 : decode mX6_init.2.1 31 = .ok (.newarray .int, 2) := by decide +kernel
theorem dX6_init_33 : decode mX6_init.2.1 33 = .ok (.putfield 19, 3) := by decide +kernel
theorem dX6_init_36 : decode mX6_init.2.1 36 = .ok (.aload_n 0, 1) := by decide +kernel
theorem dX6_init_37 : decode mX6_init.2.1 37 = .ok (.bipush 60, 2) := by decide +kernel
theorem dX6_init_39 : decode mX6_init.2.1 39 = .ok (.newarray .int, 2) := by decide +kernel
theorem dX6_init_41 : decode mX6_init.2.1 41 = .ok (.putfield 22, 3) := by decide +kernel
theorem dX6_init_44 : decode mX6_init.2.1 44 = .ok (.aload_n 0, 1) := by decide +kernel
theorem dX6_init_45 : decode mX6_init.2.1 45 = .ok (.bipush 60, 2) := by decide +kernel
theorem dX6_init_47 : decode mX6_init.2.1 47 = .ok (.newarray .int, 2) := by decide +kernel
theorem dX6_init_49 : decode mX6_init.2.1 49 = .ok (.putfield 25, 3) := by decide +kernel
theorem dX6_init_52 : decode mX6_init.2.1 52 = .ok (.aload_n 0, 1) := by decide +kernel
theorem dX6_init_53 : decode mX6_init.2.1 53 = .ok (.bipush 60, 2) := by decide +kernel
theorem dX6_init_55 : decode mX6_init.2.1 55 = .ok (.newarray .int, 2) := by decide +kernel
theorem dX6_init_57 : decode mX6_init.2.1 57 = .ok (.putfield 28, 3) := by decide +kernel
theorem dX6_init_60 : decode mX6_init.2.1 60 = .ok (.aload_n 0, 1) := by decide +kernel
theorem dX6_init_61 : decode mX6_init.2.1 61 = .ok (.bipush 60, 2) := by decide +kernel
theorem dX6_init_63 : decode mX6_init.2.1 63 = .ok (.newarray .int, 2) := by decide +kernel
theorem dX6_init_65 : decode mX6_init.2.1 65 = .ok (.putfield 31, 3) := by decide +kernel
theorem dX6_init_68 : decode mX6_init.2.1 68 = .ok (.aload_n 0, 1) := by decide +kernel
theorem dX6_init_69 : decode mX6_init.2.1 69 = .ok (.bipush 60, 2) := by decide +kernel
theorem dX6_init_71 : decode mX6_init.2.1 71 = .ok (.newarray .int, 2) := by decide +kernel
theorem dX6_init_73 : decode mX6_init.2.1 73 = .ok (.putfield 34, 3) := by decide +kernel
theorem dX6_init_76 : decode mX6_init.2.1 76 = .ok (.aload_n 0, 1) := by decide +kernel
theorem dX6_init_77 : decode mX6_init.2.1 77 = .ok (.bipush 20, 2) := by decide +kernel
theorem dX6_init_79 : decode mX6_init.2.1 79 = .ok (.newarray .int, 2) := by decide +kernel
theorem dX6_init_81 : decode mX6_init.2.1 81 = .ok (.putfield 37, 3) := by decide +kernel
theorem dX6_init_84 : decode mX6_init.2.1 84 = .ok (.aload_n 0, 1) := by decide +kernel
theorem dX6_init_85 : decode mX6_init.2.1 85 = .ok (.iconst 5, 1) := by decide +kernel
theorem dX6_init_86 : decode mX6_init.2.1 86 = .ok (.newarray .int, 2) := by decide +kernel
theorem dX6_init_88 : decode mX6_init.2.1 88 = .ok (.putfield 40, 3) := by decide +kernel
theorem dX6_init_91 : decode mX6_init.2.1 91 = .ok (.aload_n 0, 1) := by decide +kernel
theorem dX6_init_92 : decode mX6_init.2.1 92 = .ok (.bipush 60, 2) := by decide +kernel
theorem dX6_init_94 : decode mX6_init.2.1 94 = .ok (.putfield 43, 3) := by decide +kernel
theorem dX6_init_97 : decode mX6_init.2.1 97 = .ok (.iconst 0, 1) := by decide +kernel
theorem dX6_init_98 : decode mX6_init.2.1 98 = .ok (.istore_n 1, 1) := by decide +kernel
theorem dX6_init_99 : decode mX6_init.2.1 99 = .ok (.iload_n 1, 1) := by decide +kernel
theorem dX6_init_100 : decode mX6_init.2.1 100 = .ok (.bipush 60, 2) := by decide +kernel
theorem dX6_init_102 : decode mX6_init.2.1 102 = .ok (.if_icmp .ge 16, 3) := by decide +kernel
theorem dX6_init_105 : decode mX6_init.2.1 105 = .ok (.aload_n 0, 1) := by decide +kernel
theorem dX6_init_106 : decode mX6_init.2.1 106 = .ok (.getfield 22, 3) := by decide +kernel
theorem dX6_init_109 : decode mX6_init.2.1 109 = .ok (.iload_n 1, 1) := by decide +kernel
theorem dX6_init_110 : decode mX6_init.2.1 110 = .ok (.iconst (-1), 1) := by decide +kernel
theorem dX6_init_111 : decode mX6_init.2.1 111 = .ok (.iastore, 1) := by decide +kernel
theorem dX6_init_112 : decode mX6_init.2.1 112 = .ok (.iinc 1 1, 3) := by decide +kernel
theorem dX6_init_115 : decode mX6_init.2.1 115 = .ok (.goto (-16), 3) := by decide +kernel
theorem dX6_init_118 : decode mX6_init.2.1 118 = .ok (.return_, 1) := by decide +kernel
theorem dX6_thrown_0 : decode mX6_thrown.2.1 0 = .ok (.aload_n 0, 1) := by decide +kernel
theorem dX6_thrown_1 : decode mX6_thrown.2.1 1 = .ok (.getfield 47, 3) := by decide +kernel
theorem dX6_thrown_4 : decode mX6_thrown.2.1 4 = .ok (.ireturn, 1) := by decide +kernel
theorem dX6_fails_0 : decode mX6_fails.2.1 0 = .ok (.aload_n 0, 1) := by decide +kernel
theorem dX6_fails_1 : decode mX6_fails.2.1 1 = .ok (.iload_n 1, 1) := by decide +kernel
theorem dX6_fails_2 : decode mX6_fails.2.1 2 = .ok (.ifCond .eq 7, 3) := by decide +kernel
theorem dX6_fails_5 : decode mX6_fails.2.1 5 = .ok (.iconst 1, 1) := by decide +kernel
theorem dX6_fails_6 : decode mX6_fails.2.1 6 = .ok (.goto 4, 3) := by decide +kernel
theorem dX6_fails_9 : decode mX6_fails.2.1 9 = .ok (.iconst 0, 1) := by decide +kernel
theorem dX6_fails_10 : decode mX6_fails.2.1 10 = .ok (.putfield 47, 3) := by decide +kernel
theorem dX6_fails_13 : decode mX6_fails.2.1 13 = .ok (.iload_n 1, 1) := by decide +kernel
theorem dX6_fails_14 : decode mX6_fails.2.1 14 = .ok (.ireturn, 1) := by decide +kernel
theorem dX6_isIn_0 : decode mX6_isIn.2.1 0 = .ok (.iload_n 0, 1) := by decide +kernel
theorem dX6_isIn_1 : decode mX6_isIn.2.1 1 = .ok (.iload_n 1, 1) := by decide +kernel
theorem dX6_isIn_2 : decode mX6_isIn.2.1 2 = .ok (.if_icmp .lt 12, 3) := by decide +kernel
theorem dX6_isIn_5 : decode mX6_isIn.2.1 5 = .ok (.iload_n 0, 1) := by decide +kernel
theorem dX6_isIn_6 : decode mX6_isIn.2.1 6 = .ok (.iload_n 2, 1) := by decide +kernel
theorem dX6_isIn_7 : decode mX6_isIn.2.1 7 = .ok (.if_icmp .gt 7, 3) := by decide +kernel
theorem dX6_isIn_10 : decode mX6_isIn.2.1 10 = .ok (.iconst 1, 1) := by decide +kernel
theorem dX6_isIn_11 : decode mX6_isIn.2.1 11 = .ok (.goto 4, 3) := by decide +kernel
theorem dX6_isIn_14 : decode mX6_isIn.2.1 14 = .ok (.iconst 0, 1) := by decide +kernel
theorem dX6_isIn_15 : decode mX6_isIn.2.1 15 = .ok (.ireturn, 1) := by decide +kernel
theorem dX6_isCabin_0 : decode mX6_isCabin.2.1 0 = .ok (.iload_n 0, 1) := by decide +kernel
theorem dX6_isCabin_1 : decode mX6_isCabin.2.1 1 = .ok (.iconst 0, 1) := by decide +kernel
theorem dX6_isCabin_2 : decode mX6_isCabin.2.1 2 = .ok (.bipush 59, 2) := by decide +kernel
theorem dX6_isCabin_4 : decode mX6_isCabin.2.1 4 = .ok (.invokestatic 50, 3) := by decide +kernel
theorem dX6_isCabin_7 : decode mX6_isCabin.2.1 7 = .ok (.ireturn, 1) := by decide +kernel
theorem dX6_isStation_0 : decode mX6_isStation.2.1 0 = .ok (.iload_n 0, 1) := by decide +kernel
theorem dX6_isStation_1 : decode mX6_isStation.2.1 1 = .ok (.iconst 0, 1) := by decide +kernel
theorem dX6_isStation_2 : decode mX6_isStation.2.1 2 = .ok (.iconst 1, 1) := by decide +kernel
theorem dX6_isStation_3 : decode mX6_isStation.2.1 3 = .ok (.invokestatic 50, 3) := by decide +kernel
theorem dX6_isStation_6 : decode mX6_isStation.2.1 6 = .ok (.ireturn, 1) := by decide +kernel
theorem dX6_in_0 : decode mX6_in.2.1 0 = .ok (.iconst 0, 1) := by decide +kernel
theorem dX6_in_1 : decode mX6_in.2.1 1 = .ok (.istore_n 3, 1) := by decide +kernel
theorem dX6_in_2 : decode mX6_in.2.1 2 = .ok (.iload_n 3, 1) := by decide +kernel
theorem dX6_in_3 : decode mX6_in.2.1 3 = .ok (.bipush 60, 2) := by decide +kernel
theorem dX6_in_5 : decode mX6_in.2.1 5 = .ok (.if_icmp .ge 41, 3) := by decide +kernel
theorem dX6_in_8 : decode mX6_in.2.1 8 = .ok (.aload_n 0, 1) := by decide +kernel
theorem dX6_in_9 : decode mX6_in.2.1 9 = .ok (.getfield 7, 3) := by decide +kernel
theorem dX6_in_12 : decode mX6_in.2.1 12 = .ok (.iload_n 3, 1) := by decide +kernel
theorem dX6_in_13 : decode mX6_in.2.1 13 = .ok (.iaload, 1) := by decide +kernel
theorem dX6_in_14 : decode mX6_in.2.1 14 = .ok (.iconst 2, 1) := by decide +kernel
theorem dX6_in_15 : decode mX6_in.2.1 15 = .ok (.if_icmp .ne 25, 3) := by decide +kernel
theorem dX6_in_18 : decode mX6_in.2.1 18 = .ok (.aload_n 0, 1) := by decide +kernel
theorem dX6_in_19 : decode mX6_in.2.1 19 = .ok (.getfield 16, 3) := by decide +kernel
theorem dX6_in_22 : decode mX6_in.2.1 22 = .ok (.iload_n 3, 1) := by decide +kernel
theorem dX6_in_23 : decode mX6_in.2.1 23 = .ok (.iaload, 1) := by decide +kernel
theorem dX6_in_24 : decode mX6_in.2.1 24 = .ok (.iload_n 1, 1) := by decide +kernel
theorem dX6_in_25 : decode mX6_in.2.1 25 = .ok (.if_icmp .ne 15, 3) := by decide +kernel
theorem dX6_in_28 : decode mX6_in.2.1 28 = .ok (.aload_n 0, 1) := by decide +kernel
theorem dX6_in_29 : decode mX6_in.2.1 29 = .ok (.getfield 13, 3) := by decide +kernel
theorem dX6_in_32 : decode mX6_in.2.1 32 = .ok (.iload_n 3, 1) := by decide +kernel
theorem dX6_in_33 : decode mX6_in.2.1 33 = .ok (.iaload, 1) := by decide +kernel
theorem dX6_in_34 : decode mX6_in.2.1 34 = .ok (.iload_n 2, 1) := by decide +kernel
theorem dX6_in_35 : decode mX6_in.2.1 35 = .ok (.if_icmp .ne 5, 3) := by decide +kernel
theorem dX6_in_38 : decode mX6_in.2.1 38 = .ok (.iload_n 3, 1) := by decide +kernel
theorem dX6_in_39 : decode mX6_in.2.1 39 = .ok (.ireturn, 1) := by decide +kernel
theorem dX6_in_40 : decode mX6_in.2.1 40 = .ok (.iinc 3 1, 3) := by decide +kernel
theorem dX6_in_43 : decode mX6_in.2.1 43 = .ok (.goto (-41), 3) := by decide +kernel
theorem dX6_in_46 : decode mX6_in.2.1 46 = .ok (.iconst (-1), 1) := by decide +kernel
theorem dX6_in_47 : decode mX6_in.2.1 47 = .ok (.ireturn, 1) := by decide +kernel
theorem dX6_many_0 : decode mX6_many.2.1 0 = .ok (.iconst 0, 1) := by decide +kernel
theorem dX6_many_1 : decode mX6_many.2.1 1 = .ok (.istore_n 2, 1) := by decide +kernel
theorem dX6_many_2 : decode mX6_many.2.1 2 = .ok (.iconst 0, 1) := by decide +kernel
theorem dX6_many_3 : decode mX6_many.2.1 3 = .ok (.istore_n 3, 1) := by decide +kernel
theorem dX6_many_4 : decode mX6_many.2.1 4 = .ok (.iload_n 3, 1) := by decide +kernel
theorem dX6_many_5 : decode mX6_many.2.1 5 = .ok (.bipush 60, 2) := by decide +kernel
theorem dX6_many_7 : decode mX6_many.2.1 7 = .ok (.if_icmp .ge 27, 3) := by decide +kernel
theorem dX6_many_10 : decode mX6_many.2.1 10 = .ok (.iload_n 2, 1) := by decide +kernel
theorem dX6_many_11 : decode mX6_many.2.1 11 = .ok (.aload_n 0, 1) := by decide +kernel
theorem dX6_many_12 : decode mX6_many.2.1 12 = .ok (.getfield 7, 3) := by decide +kernel
theorem dX6_many_15 : decode mX6_many.2.1 15 = .ok (.iload_n 3, 1) := by decide +kernel
theorem dX6_many_16 : decode mX6_many.2.1 16 = .ok (.iaload, 1) := by decide +kernel
theorem dX6_many_17 : decode mX6_many.2.1 17 = .ok (.iload_n 1, 1) := by decide +kernel
theorem dX6_many_18 : decode mX6_many.2.1 18 = .ok (.if_icmp .ne 7, 3) := by decide +kernel
theorem dX6_many_21 : decode mX6_many.2.1 21 = .ok (.iconst 1, 1) := by decide +kernel
theorem dX6_many_22 : decode mX6_many.2.1 22 = .ok (.goto 4, 3) := by decide +kernel
theorem dX6_many_25 : decode mX6_many.2.1 25 = .ok (.iconst 0, 1) := by decide +kernel
theorem dX6_many_26 : decode mX6_many.2.1 26 = .ok (.iadd, 1) := by decide +kernel
theorem dX6_many_27 : decode mX6_many.2.1 27 = .ok (.istore_n 2, 1) := by decide +kernel
theorem dX6_many_28 : decode mX6_many.2.1 28 = .ok (.iinc 3 1, 3) := by decide +kernel
theorem dX6_many_31 : decode mX6_many.2.1 31 = .ok (.goto (-27), 3) := by decide +kernel
theorem dX6_many_34 : decode mX6_many.2.1 34 = .ok (.iload_n 2, 1) := by decide +kernel
theorem dX6_many_35 : decode mX6_many.2.1 35 = .ok (.ireturn, 1) := by decide +kernel
theorem dX6_inZones_0 : decode mX6_inZones.2.1 0 = .ok (.iconst 0, 1) := by decide +kernel
theorem dX6_inZones_1 : decode mX6_inZones.2.1 1 = .ok (.istore_n 2, 1) := by decide +kernel
theorem dX6_inZones_2 : decode mX6_inZones.2.1 2 = .ok (.iconst 0, 1) := by decide +kernel
theorem dX6_inZones_3 : decode mX6_inZones.2.1 3 = .ok (.istore_n 3, 1) := by decide +kernel
theorem dX6_inZones_4 : decode mX6_inZones.2.1 4 = .ok (.iload_n 3, 1) := by decide +kernel
theorem dX6_inZones_5 : decode mX6_inZones.2.1 5 = .ok (.bipush 60, 2) := by decide +kernel
theorem dX6_inZones_7 : decode mX6_inZones.2.1 7 = .ok (.if_icmp .ge 37, 3) := by decide +kernel
theorem dX6_inZones_10 : decode mX6_inZones.2.1 10 = .ok (.iload_n 2, 1) := by decide +kernel
theorem dX6_inZones_11 : decode mX6_inZones.2.1 11 = .ok (.aload_n 0, 1) := by decide +kernel
theorem dX6_inZones_12 : decode mX6_inZones.2.1 12 = .ok (.getfield 7, 3) := by decide +kernel
theorem dX6_inZones_15 : decode mX6_inZones.2.1 15 = .ok (.iload_n 3, 1) := by decide +kernel
theorem dX6_inZones_16 : decode mX6_inZones.2.1 16 = .ok (.iaload, 1) := by decide +kernel
theorem dX6_inZones_17 : decode mX6_inZones.2.1 17 = .ok (.iconst 2, 1) := by decide +kernel
theorem dX6_inZones_18 : decode mX6_inZones.2.1 18 = .ok (.if_icmp .ne 17, 3) := by decide +kernel
theorem dX6_inZones_21 : decode mX6_inZones.2.1 21 = .ok (.aload_n 0, 1) := by decide +kernel
theorem dX6_inZones_22 : decode mX6_inZones.2.1 22 = .ok (.getfield 16, 3) := by decide +kernel
theorem dX6_inZones_25 : decode mX6_inZones.2.1 25 = .ok (.iload_n 3, 1) := by decide +kernel
theorem dX6_inZones_26 : decode mX6_inZones.2.1 26 = .ok (.iaload, 1) := by decide +kernel
theorem dX6_inZones_27 : decode mX6_inZones.2.1 27 = .ok (.iload_n 1, 1) := by decide +kernel
theorem dX6_inZones_28 : decode mX6_inZones.2.1 28 = .ok (.if_icmp .ne 7, 3) := by decide +kernel
theorem dX6_inZones_31 : decode mX6_inZones.2.1 31 = .ok (.iconst 1, 1) := by decide +kernel
theorem dX6_inZones_32 : decode mX6_inZones.2.1 32 = .ok (.goto 4, 3) := by decide +kernel
theorem dX6_inZones_35 : decode mX6_inZones.2.1 35 = .ok (.iconst 0, 1) := by decide +kernel
theorem dX6_inZones_36 : decode mX6_inZones.2.1 36 = .ok (.iadd, 1) := by decide +kernel
theorem dX6_inZones_37 : decode mX6_inZones.2.1 37 = .ok (.istore_n 2, 1) := by decide +kernel
theorem dX6_inZones_38 : decode mX6_inZones.2.1 38 = .ok (.iinc 3 1, 3) := by decide +kernel
theorem dX6_inZones_41 : decode mX6_inZones.2.1 41 = .ok (.goto (-37), 3) := by decide +kernel
theorem dX6_inZones_44 : decode mX6_inZones.2.1 44 = .ok (.iload_n 2, 1) := by decide +kernel
theorem dX6_inZones_45 : decode mX6_inZones.2.1 45 = .ok (.ireturn, 1) := by decide +kernel
theorem dX6_letGo_0 : decode mX6_letGo.2.1 0 = .ok (.iconst 0, 1) := by decide +kernel
theorem dX6_letGo_1 : decode mX6_letGo.2.1 1 = .ok (.istore_n 1, 1) := by decide +kernel
theorem dX6_letGo_2 : decode mX6_letGo.2.1 2 = .ok (.iload_n 1, 1) := by decide +kernel
theorem dX6_letGo_3 : decode mX6_letGo.2.1 3 = .ok (.bipush 60, 2) := by decide +kernel
theorem dX6_letGo_5 : decode mX6_letGo.2.1 5 = .ok (.if_icmp .ge 64, 3) := by decide +kernel
theorem dX6_letGo_8 : decode mX6_letGo.2.1 8 = .ok (.aload_n 0, 1) := by decide +kernel
theorem dX6_letGo_9 : decode mX6_letGo.2.1 9 = .ok (.getfield 7, 3) := by decide +kernel
theorem dX6_letGo_12 : decode mX6_letGo.2.1 12 = .ok (.iload_n 1, 1) := by decide +kernel
theorem dX6_letGo_13 : decode mX6_letGo.2.1 13 = .ok (.iaload, 1) := by decide +kernel
theorem dX6_letGo_14 : decode mX6_letGo.2.1 14 = .ok (.iconst 3, 1) := by decide +kernel
theorem dX6_letGo_15 : decode mX6_letGo.2.1 15 = .ok (.if_icmp .ne 48, 3) := by decide +kernel
theorem dX6_letGo_18 : decode mX6_letGo.2.1 18 = .ok (.aload_n 0, 1) := by decide +kernel
theorem dX6_letGo_19 : decode mX6_letGo.2.1 19 = .ok (.getfield 13, 3) := by decide +kernel
theorem dX6_letGo_22 : decode mX6_letGo.2.1 22 = .ok (.iload_n 1, 1) := by decide +kernel
theorem dX6_letGo_23 : decode mX6_letGo.2.1 23 = .ok (.iaload, 1) := by decide +kernel
theorem dX6_letGo_24 : decode mX6_letGo.2.1 24 = .ok (.sipush 5700, 3) := by decide +kernel
theorem dX6_letGo_27 : decode mX6_letGo.2.1 27 = .ok (.if_icmp .ne 36, 3) := by decide +kernel
theorem dX6_letGo_30 : decode mX6_letGo.2.1 30 = .ok (.aload_n 0, 1) := by decide +kernel
theorem dX6_letGo_31 : decode mX6_letGo.2.1 31 = .ok (.iconst 1, 1) := by decide +kernel
theorem dX6_letGo_32 : decode mX6_letGo.2.1 32 = .ok (.aload_n 0, 1) := by decide +kernel
theorem dX6_letGo_33 : decode mX6_letGo.2.1 33 = .ok (.getfield 16, 3) := by decide +kernel
theorem dX6_letGo_36 : decode mX6_letGo.2.1 36 = .ok (.iload_n 1, 1) := by decide +kernel
theorem dX6_letGo_37 : decode mX6_letGo.2.1 37 = .ok (.iaload, 1) := by decide +kernel
theorem dX6_letGo_38 : decode mX6_letGo.2.1 38 = .ok (.isub, 1) := by decide +kernel
theorem dX6_letGo_39 : decode mX6_letGo.2.1 39 = .ok (.iconst 1, 1) := by decide +kernel
theorem dX6_letGo_40 : decode mX6_letGo.2.1 40 = .ok (.invokevirtual 54, 3) := by decide +kernel
theorem dX6_letGo_43 : decode mX6_letGo.2.1 43 = .ok (.ifCond .lt 6, 3) := by decide +kernel
theorem dX6_letGo_46 : decode mX6_letGo.2.1 46 = .ok (.goto 17, 3) := by decide +kernel
theorem dX6_letGo_49 : decode mX6_letGo.2.1 49 = .ok (.aload_n 0, 1) := by decide +kernel
theorem dX6_letGo_50 : decode mX6_letGo.2.1 50 = .ok (.iload_n 1, 1) := by decide +kernel
theorem dX6_letGo_51 : decode mX6_letGo.2.1 51 = .ok (.iconst 1, 1) := by decide +kernel
theorem dX6_letGo_52 : decode mX6_letGo.2.1 52 = .ok (.aload_n 0, 1) := by decide +kernel
theorem dX6_letGo_53 : decode mX6_letGo.2.1 53 = .ok (.getfield 16, 3) := by decide +kernel
theorem dX6_letGo_56 : decode mX6_letGo.2.1 56 = .ok (.iload_n 1, 1) := by decide +kernel
theorem dX6_letGo_57 : decode mX6_letGo.2.1 57 = .ok (.iaload, 1) := by decide +kernel
theorem dX6_letGo_58 : decode mX6_letGo.2.1 58 = .ok (.isub, 1) := by decide +kernel
theorem dX6_letGo_59 : decode mX6_letGo.2.1 59 = .ok (.iconst 1, 1) := by decide +kernel
theorem dX6_letGo_60 : decode mX6_letGo.2.1 60 = .ok (.invokevirtual 58, 3) := by decide +kernel
theorem dX6_letGo_63 : decode mX6_letGo.2.1 63 = .ok (.iinc 1 1, 3) := by decide +kernel
theorem dX6_letGo_66 : decode mX6_letGo.2.1 66 = .ok (.goto (-64), 3) := by decide +kernel
theorem dX6_letGo_69 : decode mX6_letGo.2.1 69 = .ok (.return_, 1) := by decide +kernel
theorem dX6_enter_0 : decode mX6_enter.2.1 0 = .ok (.aload_n 0, 1) := by decide +kernel
theorem dX6_enter_1 : decode mX6_enter.2.1 1 = .ok (.getfield 7, 3) := by decide +kernel
theorem dX6_enter_4 : decode mX6_enter.2.1 4 = .ok (.iload_n 1, 1) := by decide +kernel
theorem dX6_enter_5 : decode mX6_enter.2.1 5 = .ok (.iconst 2, 1) := by decide +kernel
theorem dX6_enter_6 : decode mX6_enter.2.1 6 = .ok (.iastore, 1) := by decide +kernel
theorem dX6_enter_7 : decode mX6_enter.2.1 7 = .ok (.aload_n 0, 1) := by decide +kernel
theorem dX6_enter_8 : decode mX6_enter.2.1 8 = .ok (.getfield 16, 3) := by decide +kernel
theorem dX6_enter_11 : decode mX6_enter.2.1 11 = .ok (.iload_n 1, 1) := by decide +kernel
theorem dX6_enter_12 : decode mX6_enter.2.1 12 = .ok (.iload_n 2, 1) := by decide +kernel
theorem dX6_enter_13 : decode mX6_enter.2.1 13 = .ok (.iastore, 1) := by decide +kernel
theorem dX6_enter_14 : decode mX6_enter.2.1 14 = .ok (.aload_n 0, 1) := by decide +kernel
theorem dX6_enter_15 : decode mX6_enter.2.1 15 = .ok (.getfield 13, 3) := by decide +kernel
theorem dX6_enter_18 : decode mX6_enter.2.1 18 = .ok (.iload_n 1, 1) := by decide +kernel
theorem dX6_enter_19 : decode mX6_enter.2.1 19 = .ok (.iload_n 3, 1) := by decide +kernel
theorem dX6_enter_20 : decode mX6_enter.2.1 20 = .ok (.iastore, 1) := by decide +kernel
theorem dX6_enter_21 : decode mX6_enter.2.1 21 = .ok (.aload_n 0, 1) := by decide +kernel
theorem dX6_enter_22 : decode mX6_enter.2.1 22 = .ok (.getfield 19, 3) := by decide +kernel
theorem dX6_enter_25 : decode mX6_enter.2.1 25 = .ok (.iload_n 1, 1) := by decide +kernel
theorem dX6_enter_26 : decode mX6_enter.2.1 26 = .ok (.iconst 0, 1) := by decide +kernel
theorem dX6_enter_27 : decode mX6_enter.2.1 27 = .ok (.iastore, 1) := by decide +kernel
theorem dX6_enter_28 : decode mX6_enter.2.1 28 = .ok (.return_, 1) := by decide +kernel
theorem dX6_isOver_0 : decode mX6_isOver.2.1 0 = .ok (.iconst 0, 1) := by decide +kernel
theorem dX6_isOver_1 : decode mX6_isOver.2.1 1 = .ok (.istore_n 1, 1) := by decide +kernel
theorem dX6_isOver_2 : decode mX6_isOver.2.1 2 = .ok (.iload_n 1, 1) := by decide +kernel
theorem dX6_isOver_3 : decode mX6_isOver.2.1 3 = .ok (.bipush 60, 2) := by decide +kernel
theorem dX6_isOver_5 : decode mX6_isOver.2.1 5 = .ok (.if_icmp .ge 33, 3) := by decide +kernel
theorem dX6_isOver_8 : decode mX6_isOver.2.1 8 = .ok (.aload_n 0, 1) := by decide +kernel
theorem dX6_isOver_9 : decode mX6_isOver.2.1 9 = .ok (.getfield 7, 3) := by decide +kernel
theorem dX6_isOver_12 : decode mX6_isOver.2.1 12 = .ok (.iload_n 1, 1) := by decide +kernel
theorem dX6_isOver_13 : decode mX6_isOver.2.1 13 = .ok (.iaload, 1) := by decide +kernel
theorem dX6_isOver_14 : decode mX6_isOver.2.1 14 = .ok (.iconst 3, 1) := by decide +kernel
theorem dX6_isOver_15 : decode mX6_isOver.2.1 15 = .ok (.if_icmp .ne 17, 3) := by decide +kernel
theorem dX6_isOver_18 : decode mX6_isOver.2.1 18 = .ok (.aload_n 0, 1) := by decide +kernel
theorem dX6_isOver_19 : decode mX6_isOver.2.1 19 = .ok (.getfield 13, 3) := by decide +kernel
theorem dX6_isOver_22 : decode mX6_isOver.2.1 22 = .ok (.iload_n 1, 1) := by decide +kernel
theorem dX6_isOver_23 : decode mX6_isOver.2.1 23 = .ok (.iaload, 1) := by decide +kernel
theorem dX6_isOver_24 : decode mX6_isOver.2.1 24 = .ok (.sipush 5700, 3) := by decide +kernel
theorem dX6_isOver_27 : decode mX6_isOver.2.1 27 = .ok (.if_icmp .ne 5, 3) := by decide +kernel
theorem dX6_isOver_30 : decode mX6_isOver.2.1 30 = .ok (.iconst 1, 1) := by decide +kernel
theorem dX6_isOver_31 : decode mX6_isOver.2.1 31 = .ok (.ireturn, 1) := by decide +kernel
theorem dX6_isOver_32 : decode mX6_isOver.2.1 32 = .ok (.iinc 1 1, 3) := by decide +kernel
theorem dX6_isOver_35 : decode mX6_isOver.2.1 35 = .ok (.goto (-33), 3) := by decide +kernel
theorem dX6_isOver_38 : decode mX6_isOver.2.1 38 = .ok (.iconst 0, 1) := by decide +kernel
theorem dX6_isOver_39 : decode mX6_isOver.2.1 39 = .ok (.ireturn, 1) := by decide +kernel
theorem dX6_pulse_0 : decode mX6_pulse.2.1 0 = .ok (.aload_n 0, 1) := by decide +kernel
theorem dX6_pulse_1 : decode mX6_pulse.2.1 1 = .ok (.iload_n 1, 1) := by decide +kernel
theorem dX6_pulse_2 : decode mX6_pulse.2.1 2 = .ok (.iconst 0, 1) := by decide +kernel
theorem dX6_pulse_3 : decode mX6_pulse.2.1 3 = .ok (.sipush 600, 3) := by decide +kernel
theorem dX6_pulse_6 : decode mX6_pulse.2.1 6 = .ok (.invokestatic 50, 3) := by decide +kernel
theorem dX6_pulse_9 : decode mX6_pulse.2.1 9 = .ok (.ifCond .ne 7, 3) := by decide +kernel
theorem dX6_pulse_12 : decode mX6_pulse.2.1 12 = .ok (.iconst 1, 1) := by decide +kernel
theorem dX6_pulse_13 : decode mX6_pulse.2.1 13 = .ok (.goto 4, 3) := by decide +kernel
theorem dX6_pulse_16 : decode mX6_pulse.2.1 16 = .ok (.iconst 0, 1) := by decide +kernel
theorem dX6_pulse_17 : decode mX6_pulse.2.1 17 = .ok (.invokevirtual 62, 3) := by decide +kernel
theorem dX6_pulse_20 : decode mX6_pulse.2.1 20 = .ok (.ifCond .eq 5, 3) := by decide +kernel
theorem dX6_pulse_23 : decode mX6_pulse.2.1 23 = .ok (.iconst 0, 1) := by decide +kernel
theorem dX6_pulse_24 : decode mX6_pulse.2.1 24 = .ok (.ireturn, 1) := by decide +kernel
theorem dX6_pulse_25 : decode mX6_pulse.2.1 25 = .ok (.aload_n 0, 1) := by decide +kernel
theorem dX6_pulse_26 : decode mX6_pulse.2.1 26 = .ok (.invokevirtual 66, 3) := by decide +kernel
theorem dX6_pulse_29 : decode mX6_pulse.2.1 29 = .ok (.iconst 0, 1) := by decide +kernel
theorem dX6_pulse_30 : decode mX6_pulse.2.1 30 = .ok (.istore_n 2, 1) := by decide +kernel
theorem dX6_pulse_31 : decode mX6_pulse.2.1 31 = .ok (.iload_n 2, 1) := by decide +kernel
theorem dX6_pulse_32 : decode mX6_pulse.2.1 32 = .ok (.iload_n 1, 1) := by decide +kernel
theorem dX6_pulse_33 : decode mX6_pulse.2.1 33 = .ok (.if_icmp .ge 58, 3) := by decide +kernel
theorem dX6_pulse_36 : decode mX6_pulse.2.1 36 = .ok (.aload_n 0, 1) := by decide +kernel
theorem dX6_pulse_37 : decode mX6_pulse.2.1 37 = .ok (.invokevirtual 69, 3) := by decide +kernel
theorem dX6_pulse_40 : decode mX6_pulse.2.1 40 = .ok (.ifCond .ne 51, 3) := by decide +kernel
theorem dX6_pulse_43 : decode mX6_pulse.2.1 43 = .ok (.iconst 0, 1) := by decide +kernel
theorem dX6_pulse_44 : decode mX6_pulse.2.1 44 = .ok (.istore_n 3, 1) := by decide +kernel
theorem dX6_pulse_45 : decode mX6_pulse.2.1 45 = .ok (.iload_n 3, 1) := by decide +kernel
theorem dX6_pulse_46 : decode mX6_pulse.2.1 46 = .ok (.bipush 60, 2) := by decide +kernel
theorem dX6_pulse_48 : decode mX6_pulse.2.1 48 = .ok (.if_icmp .ge 33, 3) := by decide +kernel
theorem dX6_pulse_51 : decode mX6_pulse.2.1 51 = .ok (.aload_n 0, 1) := by decide +kernel
theorem dX6_pulse_52 : decode mX6_pulse.2.1 52 = .ok (.getfield 13, 3) := by decide +kernel
theorem dX6_pulse_55 : decode mX6_pulse.2.1 55 = .ok (.iload_n 3, 1) := by decide +kernel
theorem dX6_pulse_56 : decode mX6_pulse.2.1 56 = .ok (.dup2, 1) := by decide +kernel
theorem dX6_pulse_57 : decode mX6_pulse.2.1 57 = .ok (.iaload, 1) := by decide +kernel
theorem dX6_pulse_58 : decode mX6_pulse.2.1 58 = .ok (.aload_n 0, 1) := by decide +kernel
theorem dX6_pulse_59 : decode mX6_pulse.2.1 59 = .ok (.getfield 7, 3) := by decide +kernel
theorem dX6_pulse_62 : decode mX6_pulse.2.1 62 = .ok (.iload_n 3, 1) := by decide +kernel
theorem dX6_pulse_63 : decode mX6_pulse.2.1 63 = .ok (.iaload, 1) := by decide +kernel
theorem dX6_pulse_64 : decode mX6_pulse.2.1 64 = .ok (.iconst 3, 1) := by decide +kernel
theorem dX6_pulse_65 : decode mX6_pulse.2.1 65 = .ok (.if_icmp .ne 7, 3) := by decide +kernel
theorem dX6_pulse_68 : decode mX6_pulse.2.1 68 = .ok (.iconst 1, 1) := by decide +kernel
theorem dX6_pulse_69 : decode mX6_pulse.2.1 69 = .ok (.goto 4, 3) := by decide +kernel
theorem dX6_pulse_72 : decode mX6_pulse.2.1 72 = .ok (.iconst 0, 1) := by decide +kernel
theorem dX6_pulse_73 : decode mX6_pulse.2.1 73 = .ok (.iadd, 1) := by decide +kernel
theorem dX6_pulse_74 : decode mX6_pulse.2.1 74 = .ok (.iastore, 1) := by decide +kernel
theorem dX6_pulse_75 : decode mX6_pulse.2.1 75 = .ok (.iinc 3 1, 3) := by decide +kernel
theorem dX6_pulse_78 : decode mX6_pulse.2.1 78 = .ok (.goto (-33), 3) := by decide +kernel
theorem dX6_pulse_81 : decode mX6_pulse.2.1 81 = .ok (.iinc 2 1, 3) := by decide +kernel
theorem dX6_pulse_84 : decode mX6_pulse.2.1 84 = .ok (.aload_n 0, 1) := by decide +kernel
theorem dX6_pulse_85 : decode mX6_pulse.2.1 85 = .ok (.invokevirtual 66, 3) := by decide +kernel
theorem dX6_pulse_88 : decode mX6_pulse.2.1 88 = .ok (.goto (-57), 3) := by decide +kernel
theorem dX6_pulse_91 : decode mX6_pulse.2.1 91 = .ok (.iload_n 2, 1) := by decide +kernel
theorem dX6_pulse_92 : decode mX6_pulse.2.1 92 = .ok (.iload_n 1, 1) := by decide +kernel
theorem dX6_pulse_93 : decode mX6_pulse.2.1 93 = .ok (.if_icmp .ge 14, 3) := by decide +kernel
theorem dX6_pulse_96 : decode mX6_pulse.2.1 96 = .ok (.aload_n 0, 1) := by decide +kernel
theorem dX6_pulse_97 : decode mX6_pulse.2.1 97 = .ok (.aload_n 0, 1) := by decide +kernel
theorem dX6_pulse_98 : decode mX6_pulse.2.1 98 = .ok (.getfield 73, 3) := by decide +kernel
theorem dX6_pulse_101 : decode mX6_pulse.2.1 101 = .ok (.bipush 8, 2) := by decide +kernel
theorem dX6_pulse_103 : decode mX6_pulse.2.1 103 = .ok (.ior, 1) := by decide +kernel
theorem dX6_pulse_104 : decode mX6_pulse.2.1 104 = .ok (.putfield 73, 3) := by decide +kernel
theorem dX6_pulse_107 : decode mX6_pulse.2.1 107 = .ok (.aload_n 0, 1) := by decide +kernel
theorem dX6_pulse_108 : decode mX6_pulse.2.1 108 = .ok (.dup, 1) := by decide +kernel
theorem dX6_pulse_109 : decode mX6_pulse.2.1 109 = .ok (.getfield 76, 3) := by decide +kernel
theorem dX6_pulse_112 : decode mX6_pulse.2.1 112 = .ok (.iload_n 2, 1) := by decide +kernel
theorem dX6_pulse_113 : decode mX6_pulse.2.1 113 = .ok (.iadd, 1) := by decide +kernel
theorem dX6_pulse_114 : decode mX6_pulse.2.1 114 = .ok (.putfield 76, 3) := by decide +kernel
theorem dX6_pulse_117 : decode mX6_pulse.2.1 117 = .ok (.iload_n 2, 1) := by decide +kernel
theorem dX6_pulse_118 : decode mX6_pulse.2.1 118 = .ok (.ireturn, 1) := by decide +kernel
theorem dX6_toSiding_0 : decode mX6_toSiding.2.1 0 = .ok (.aload_n 0, 1) := by decide +kernel
theorem dX6_toSiding_1 : decode mX6_toSiding.2.1 1 = .ok (.getfield 7, 3) := by decide +kernel
theorem dX6_toSiding_4 : decode mX6_toSiding.2.1 4 = .ok (.iload_n 1, 1) := by decide +kernel
theorem dX6_toSiding_5 : decode mX6_toSiding.2.1 5 = .ok (.iconst 1, 1) := by decide +kernel
theorem dX6_toSiding_6 : decode mX6_toSiding.2.1 6 = .ok (.iastore, 1) := by decide +kernel
theorem dX6_toSiding_7 : decode mX6_toSiding.2.1 7 = .ok (.aload_n 0, 1) := by decide +kernel
theorem dX6_toSiding_8 : decode mX6_toSiding.2.1 8 = .ok (.getfield 37, 3) := by decide +kernel
theorem dX6_toSiding_11 : decode mX6_toSiding.2.1 11 = .ok (.aload_n 0, 1) := by decide +kernel
theorem dX6_toSiding_12 : decode mX6_toSiding.2.1 12 = .ok (.getfield 79, 3) := by decide +kernel
theorem dX6_toSiding_15 : decode mX6_toSiding.2.1 15 = .ok (.iload_n 1, 1) := by decide +kernel
theorem dX6_toSiding_16 : decode mX6_toSiding.2.1 16 = .ok (.iastore, 1) := by decide +kernel
theorem dX6_toSiding_17 : decode mX6_toSiding.2.1 17 = .ok (.aload_n 0, 1) := by decide +kernel
theorem dX6_toSiding_18 : decode mX6_toSiding.2.1 18 = .ok (.dup, 1) := by decide +kernel
theorem dX6_toSiding_19 : decode mX6_toSiding.2.1 19 = .ok (.getfield 79, 3) := by decide +kernel
theorem dX6_toSiding_22 : decode mX6_toSiding.2.1 22 = .ok (.iconst 1, 1) := by decide +kernel
theorem dX6_toSiding_23 : decode mX6_toSiding.2.1 23 = .ok (.iadd, 1) := by decide +kernel
theorem dX6_toSiding_24 : decode mX6_toSiding.2.1 24 = .ok (.putfield 79, 3) := by decide +kernel
theorem dX6_toSiding_27 : decode mX6_toSiding.2.1 27 = .ok (.return_, 1) := by decide +kernel
theorem dX6_unside_0 : decode mX6_unside.2.1 0 = .ok (.iconst 0, 1) := by decide +kernel
theorem dX6_unside_1 : decode mX6_unside.2.1 1 = .ok (.istore_n 2, 1) := by decide +kernel
theorem dX6_unside_2 : decode mX6_unside.2.1 2 = .ok (.aload_n 0, 1) := by decide +kernel
theorem dX6_unside_3 : decode mX6_unside.2.1 3 = .ok (.getfield 37, 3) := by decide +kernel
theorem dX6_unside_6 : decode mX6_unside.2.1 6 = .ok (.iload_n 2, 1) := by decide +kernel
theorem dX6_unside_7 : decode mX6_unside.2.1 7 = .ok (.iaload, 1) := by decide +kernel
theorem dX6_unside_8 : decode mX6_unside.2.1 8 = .ok (.iload_n 1, 1) := by decide +kernel
theorem dX6_unside_9 : decode mX6_unside.2.1 9 = .ok (.if_icmp .eq 9, 3) := by decide +kernel
theorem dX6_unside_12 : decode mX6_unside.2.1 12 = .ok (.iinc 2 1, 3) := by decide +kernel
theorem dX6_unside_15 : decode mX6_unside.2.1 15 = .ok (.goto (-13), 3) := by decide +kernel
theorem dX6_unside_18 : decode mX6_unside.2.1 18 = .ok (.aload_n 0, 1) := by decide +kernel
theorem dX6_unside_19 : decode mX6_unside.2.1 19 = .ok (.dup, 1) := by decide +kernel
theorem dX6_unside_20 : decode mX6_unside.2.1 20 = .ok (.getfield 79, 3) := by decide +kernel
theorem dX6_unside_23 : decode mX6_unside.2.1 23 = .ok (.iconst 1, 1) := by decide +kernel
theorem dX6_unside_24 : decode mX6_unside.2.1 24 = .ok (.isub, 1) := by decide +kernel
theorem dX6_unside_25 : decode mX6_unside.2.1 25 = .ok (.putfield 79, 3) := by decide +kernel
theorem dX6_unside_28 : decode mX6_unside.2.1 28 = .ok (.iload_n 2, 1) := by decide +kernel
theorem dX6_unside_29 : decode mX6_unside.2.1 29 = .ok (.istore_n 3, 1) := by decide +kernel
theorem dX6_unside_30 : decode mX6_unside.2.1 30 = .ok (.iload_n 3, 1) := by decide +kernel
theorem dX6_unside_31 : decode mX6_unside.2.1 31 = .ok (.aload_n 0, 1) := by decide +kernel
theorem dX6_unside_32 : decode mX6_unside.2.1 32 = .ok (.getfield 79, 3) := by decide +kernel
theorem dX6_unside_35 : decode mX6_unside.2.1 35 = .ok (.if_icmp .ge 23, 3) := by decide +kernel
theorem dX6_unside_38 : decode mX6_unside.2.1 38 = .ok (.aload_n 0, 1) := by decide +kernel
theorem dX6_unside_39 : decode mX6_unside.2.1 39 = .ok (.getfield 37, 3) := by decide +kernel
theorem dX6_unside_42 : decode mX6_unside.2.1 42 = .ok (.iload_n 3, 1) := by decide +kernel
theorem dX6_unside_43 : decode mX6_unside.2.1 43 = .ok (.aload_n 0, 1) := by decide +kernel
theorem dX6_unside_44 : decode mX6_unside.2.1 44 = .ok (.getfield 37, 3) := by decide +kernel
theorem dX6_unside_47 : decode mX6_unside.2.1 47 = .ok (.iload_n 3, 1) := by decide +kernel
theorem dX6_unside_48 : decode mX6_unside.2.1 48 = .ok (.iconst 1, 1) := by decide +kernel
theorem dX6_unside_49 : decode mX6_unside.2.1 49 = .ok (.iadd, 1) := by decide +kernel
theorem dX6_unside_50 : decode mX6_unside.2.1 50 = .ok (.iaload, 1) := by decide +kernel
theorem dX6_unside_51 : decode mX6_unside.2.1 51 = .ok (.iastore, 1) := by decide +kernel
theorem dX6_unside_52 : decode mX6_unside.2.1 52 = .ok (.iinc 3 1, 3) := by decide +kernel
theorem dX6_unside_55 : decode mX6_unside.2.1 55 = .ok (.goto (-25), 3) := by decide +kernel
theorem dX6_unside_58 : decode mX6_unside.2.1 58 = .ok (.return_, 1) := by decide +kernel
theorem dX6_middle_0 : decode mX6_middle.2.1 0 = .ok (.aload_n 0, 1) := by decide +kernel
theorem dX6_middle_1 : decode mX6_middle.2.1 1 = .ok (.getfield 82, 3) := by decide +kernel
theorem dX6_middle_4 : decode mX6_middle.2.1 4 = .ok (.iconst 5, 1) := by decide +kernel
theorem dX6_middle_5 : decode mX6_middle.2.1 5 = .ok (.if_icmp .ge 10, 3) := by decide +kernel
theorem dX6_middle_8 : decode mX6_middle.2.1 8 = .ok (.aload_n 0, 1) := by decide +kernel
theorem dX6_middle_9 : decode mX6_middle.2.1 9 = .ok (.getfield 82, 3) := by decide +kernel
theorem dX6_middle_12 : decode mX6_middle.2.1 12 = .ok (.goto 4, 3) := by decide +kernel
theorem dX6_middle_15 : decode mX6_middle.2.1 15 = .ok (.iconst 5, 1) := by decide +kernel
theorem dX6_middle_16 : decode mX6_middle.2.1 16 = .ok (.istore_n 1, 1) := by decide +kernel
theorem dX6_middle_17 : decode mX6_middle.2.1 17 = .ok (.iconst 0, 1) := by decide +kernel
theorem dX6_middle_18 : decode mX6_middle.2.1 18 = .ok (.istore_n 2, 1) := by decide +kernel
theorem dX6_middle_19 : decode mX6_middle.2.1 19 = .ok (.iconst 0, 1) := by decide +kernel
theorem dX6_middle_20 : decode mX6_middle.2.1 20 = .ok (.istore_n 3, 1) := by decide +kernel
theorem dX6_middle_21 : decode mX6_middle.2.1 21 = .ok (.iload_n 3, 1) := by decide +kernel
theorem dX6_middle_22 : decode mX6_middle.2.1 22 = .ok (.iload_n 1, 1) := by decide +kernel
theorem dX6_middle_23 : decode mX6_middle.2.1 23 = .ok (.if_icmp .ge 105, 3) := by decide +kernel
theorem dX6_middle_26 : decode mX6_middle.2.1 26 = .ok (.iconst 0, 1) := by decide +kernel
theorem dX6_middle_27 : decode mX6_middle.2.1 27 = .ok (.istore 4, 2) := by decide +kernel
theorem dX6_middle_29 : decode mX6_middle.2.1 29 = .ok (.iconst 0, 1) := by decide +kernel
theorem dX6_middle_30 : decode mX6_middle.2.1 30 = .ok (.istore 5, 2) := by decide +kernel
theorem dX6_middle_32 : decode mX6_middle.2.1 32 = .ok (.iconst 0, 1) := by decide +kernel
theorem dX6_middle_33 : decode mX6_middle.2.1 33 = .ok (.istore 6, 2) := by decide +kernel
theorem dX6_middle_35 : decode mX6_middle.2.1 35 = .ok (.iload 6, 2) := by decide +kernel
theorem dX6_middle_37 : decode mX6_middle.2.1 37 = .ok (.iload_n 1, 1) := by decide +kernel
theorem dX6_middle_38 : decode mX6_middle.2.1 38 = .ok (.if_icmp .ge 61, 3) := by decide +kernel
theorem dX6_middle_41 : decode mX6_middle.2.1 41 = .ok (.iload 4, 2) := by decide +kernel
theorem dX6_middle_43 : decode mX6_middle.2.1 43 = .ok (.aload_n 0, 1) := by decide +kernel
theorem dX6_middle_44 : decode mX6_middle.2.1 44 = .ok (.getfield 40, 3) := by decide +kernel
theorem dX6_middle_47 : decode mX6_middle.2.1 47 = .ok (.iload 6, 2) := by decide +kernel
theorem dX6_middle_49 : decode mX6_middle.2.1 49 = .ok (.iaload, 1) := by decide +kernel
theorem dX6_middle_50 : decode mX6_middle.2.1 50 = .ok (.aload_n 0, 1) := by decide +kernel
theorem dX6_middle_51 : decode mX6_middle.2.1 51 = .ok (.getfield 40, 3) := by decide +kernel
theorem dX6_middle_54 : decode mX6_middle.2.1 54 = .ok (.iload_n 3, 1) := by decide +kernel
theorem dX6_middle_55 : decode mX6_middle.2.1 55 = .ok (.iaload, 1) := by decide +kernel
theorem dX6_middle_56 : decode mX6_middle.2.1 56 = .ok (.if_icmp .ge 7, 3) := by decide +kernel
theorem dX6_middle_59 : decode mX6_middle.2.1 59 = .ok (.iconst 1, 1) := by decide +kernel
theorem dX6_middle_60 : decode mX6_middle.2.1 60 = .ok (.goto 4, 3) := by decide +kernel
theorem dX6_middle_63 : decode mX6_middle.2.1 63 = .ok (.iconst 0, 1) := by decide +kernel
theorem dX6_middle_64 : decode mX6_middle.2.1 64 = .ok (.iadd, 1) := by decide +kernel
theorem dX6_middle_65 : decode mX6_middle.2.1 65 = .ok (.istore 4, 2) := by decide +kernel
theorem dX6_middle_67 : decode mX6_middle.2.1 67 = .ok (.iload 5, 2) := by decide +kernel
theorem dX6_middle_69 : decode mX6_middle.2.1 69 = .ok (.aload_n 0, 1) := by decide +kernel
theorem dX6_middle_70 : decode mX6_middle.2.1 70 = .ok (.getfield 40, 3) := by decide +kernel
theorem dX6_middle_73 : decode mX6_middle.2.1 73 = .ok (.iload 6, 2) := by decide +kernel
theorem dX6_middle_75 : decode mX6_middle.2.1 75 = .ok (.iaload, 1) := by decide +kernel
theorem dX6_middle_76 : decode mX6_middle.2.1 76 = .ok (.aload_n 0, 1) := by decide +kernel
theorem dX6_middle_77 : decode mX6_middle.2.1 77 = .ok (.getfield 40, 3) := by decide +kernel
theorem dX6_middle_80 : decode mX6_middle.2.1 80 = .ok (.iload_n 3, 1) := by decide +kernel
theorem dX6_middle_81 : decode mX6_middle.2.1 81 = .ok (.iaload, 1) := by decide +kernel
theorem dX6_middle_82 : decode mX6_middle.2.1 82 = .ok (.if_icmp .gt 7, 3) := by decide +kernel
theorem dX6_middle_85 : decode mX6_middle.2.1 85 = .ok (.iconst 1, 1) := by decide +kernel
theorem dX6_middle_86 : decode mX6_middle.2.1 86 = .ok (.goto 4, 3) := by decide +kernel
theorem dX6_middle_89 : decode mX6_middle.2.1 89 = .ok (.iconst 0, 1) := by decide +kernel
theorem dX6_middle_90 : decode mX6_middle.2.1 90 = .ok (.iadd, 1) := by decide +kernel
theorem dX6_middle_91 : decode mX6_middle.2.1 91 = .ok (.istore 5, 2) := by decide +kernel
theorem dX6_middle_93 : decode mX6_middle.2.1 93 = .ok (.iinc 6 1, 3) := by decide +kernel
theorem dX6_middle_96 : decode mX6_middle.2.1 96 = .ok (.goto (-61), 3) := by decide +kernel
theorem dX6_middle_99 : decode mX6_middle.2.1 99 = .ok (.iload 4, 2) := by decide +kernel
theorem dX6_middle_101 : decode mX6_middle.2.1 101 = .ok (.iload_n 1, 1) := by decide +kernel
theorem dX6_middle_102 : decode mX6_middle.2.1 102 = .ok (.iconst 2, 1) := by decide +kernel
theorem dX6_middle_103 : decode mX6_middle.2.1 103 = .ok (.idiv, 1) := by decide +kernel
theorem dX6_middle_104 : decode mX6_middle.2.1 104 = .ok (.if_icmp .gt 18, 3) := by decide +kernel
theorem dX6_middle_107 : decode mX6_middle.2.1 107 = .ok (.iload_n 1, 1) := by decide +kernel
theorem dX6_middle_108 : decode mX6_middle.2.1 108 = .ok (.iconst 2, 1) := by decide +kernel
theorem dX6_middle_109 : decode mX6_middle.2.1 109 = .ok (.idiv, 1) := by decide +kernel
theorem dX6_middle_110 : decode mX6_middle.2.1 110 = .ok (.iload 5, 2) := by decide +kernel
theorem dX6_middle_112 : decode mX6_middle.2.1 112 = .ok (.if_icmp .ge 10, 3) := by decide +kernel
theorem dX6_middle_115 : decode mX6_middle.2.1 115 = .ok (.aload_n 0, 1) := by decide +kernel
theorem dX6_middle_116 : decode mX6_middle.2.1 116 = .ok (.getfield 40, 3) := by decide +kernel
theorem dX6_middle_119 : decode mX6_middle.2.1 119 = .ok (.iload_n 3, 1) := by decide +kernel
theorem dX6_middle_120 : decode mX6_middle.2.1 120 = .ok (.iaload, 1) := by decide +kernel
theorem dX6_middle_121 : decode mX6_middle.2.1 121 = .ok (.istore_n 2, 1) := by decide +kernel
theorem dX6_middle_122 : decode mX6_middle.2.1 122 = .ok (.iinc 3 1, 3) := by decide +kernel
theorem dX6_middle_125 : decode mX6_middle.2.1 125 = .ok (.goto (-104), 3) := by decide +kernel
theorem dX6_middle_128 : decode mX6_middle.2.1 128 = .ok (.iload_n 2, 1) := by decide +kernel
theorem dX6_middle_129 : decode mX6_middle.2.1 129 = .ok (.ireturn, 1) := by decide +kernel
end
section
/-! decode rows -/
theorem dX6_isTooNear_0 : decode mX6_isTooNear.2.1 0 = .ok (.aload_n 0, 1) := by decide +kernel
theorem dX6_isTooNear_1 : decode mX6_isTooNear.2.1 1 = .ok (.iload_n 1, 1) := by decide +kernel
theorem dX6_isTooNear_2 : decode mX6_isTooNear.2.1 2 = .ok (.invokevirtual 85, 3) := by decide +kernel
theorem dX6_isTooNear_5 : decode mX6_isTooNear.2.1 5 = .ok (.bipush 6, 2) := by decide +kernel
theorem dX6_isTooNear_7 : decode mX6_isTooNear.2.1 7 = .ok (.if_icmp .ge 16, 3) := by decide +kernel
theorem dX6_isTooNear_10 : decode mX6_isTooNear.2.1 10 = .ok (.sipush 12000, 3) := by decide +kernel
theorem dX6_isTooNear_13 : decode mX6_isTooNear.2.1 13 = .ok (.aload_n 0, 1) := by decide +kernel
theorem dX6_isTooNear_14 : decode mX6_isTooNear.2.1 14 = .ok (.getfield 43, 3) := by decide +kernel
theorem dX6_isTooNear_17 : decode mX6_isTooNear.2.1 17 = .ok (.idiv, 1) := by decide +kernel
theorem dX6_isTooNear_18 : decode mX6_isTooNear.2.1 18 = .ok (.bipush 90, 2) := by decide +kernel
theorem dX6_isTooNear_20 : decode mX6_isTooNear.2.1 20 = .ok (.if_icmp .ge 8, 3) := by decide +kernel
theorem dX6_isTooNear_23 : decode mX6_isTooNear.2.1 23 = .ok (.bipush 90, 2) := by decide +kernel
theorem dX6_isTooNear_25 : decode mX6_isTooNear.2.1 25 = .ok (.goto 11, 3) := by decide +kernel
theorem dX6_isTooNear_28 : decode mX6_isTooNear.2.1 28 = .ok (.sipush 12000, 3) := by decide +kernel
theorem dX6_isTooNear_31 : decode mX6_isTooNear.2.1 31 = .ok (.aload_n 0, 1) := by decide +kernel
theorem dX6_isTooNear_32 : decode mX6_isTooNear.2.1 32 = .ok (.getfield 43, 3) := by decide +kernel
theorem dX6_isTooNear_35 : decode mX6_isTooNear.2.1 35 = .ok (.idiv, 1) := by decide +kernel
theorem dX6_isTooNear_36 : decode mX6_isTooNear.2.1 36 = .ok (.istore_n 2, 1) := by decide +kernel
theorem dX6_isTooNear_37 : decode mX6_isTooNear.2.1 37 = .ok (.iconst 0, 1) := by decide +kernel
theorem dX6_isTooNear_38 : decode mX6_isTooNear.2.1 38 = .ok (.istore_n 3, 1) := by decide +kernel
theorem dX6_isTooNear_39 : decode mX6_isTooNear.2.1 39 = .ok (.iload_n 3, 1) := by decide +kernel
theorem dX6_isTooNear_40 : decode mX6_isTooNear.2.1 40 = .ok (.bipush 60, 2) := by decide +kernel
theorem dX6_isTooNear_42 : decode mX6_isTooNear.2.1 42 = .ok (.if_icmp .ge 41, 3) := by decide +kernel
theorem dX6_isTooNear_45 : decode mX6_isTooNear.2.1 45 = .ok (.aload_n 0, 1) := by decide +kernel
theorem dX6_isTooNear_46 : decode mX6_isTooNear.2.1 46 = .ok (.getfield 7, 3) := by decide +kernel
theorem dX6_isTooNear_49 : decode mX6_isTooNear.2.1 49 = .ok (.iload_n 3, 1) := by decide +kernel
theorem dX6_isTooNear_50 : decode mX6_isTooNear.2.1 50 = .ok (.iaload, 1) := by decide +kernel
theorem dX6_isTooNear_51 : decode mX6_isTooNear.2.1 51 = .ok (.iconst 3, 1) := by decide +kernel
theorem dX6_isTooNear_52 : decode mX6_isTooNear.2.1 52 = .ok (.if_icmp .ne 25, 3) := by decide +kernel
theorem dX6_isTooNear_55 : decode mX6_isTooNear.2.1 55 = .ok (.aload_n 0, 1) := by decide +kernel
theorem dX6_isTooNear_56 : decode mX6_isTooNear.2.1 56 = .ok (.getfield 16, 3) := by decide +kernel
theorem dX6_isTooNear_59 : decode mX6_isTooNear.2.1 59 = .ok (.iload_n 3, 1) := by decide +kernel
theorem dX6_isTooNear_60 : decode mX6_isTooNear.2.1 60 = .ok (.iaload, 1) := by decide +kernel
theorem dX6_isTooNear_61 : decode mX6_isTooNear.2.1 61 = .ok (.iload_n 1, 1) := by decide +kernel
theorem dX6_isTooNear_62 : decode mX6_isTooNear.2.1 62 = .ok (.if_icmp .ne 15, 3) := by decide +kernel
theorem dX6_isTooNear_65 : decode mX6_isTooNear.2.1 65 = .ok (.aload_n 0, 1) := by decide +kernel
theorem dX6_isTooNear_66 : decode mX6_isTooNear.2.1 66 = .ok (.getfield 13, 3) := by decide +kernel
theorem dX6_isTooNear_69 : decode mX6_isTooNear.2.1 69 = .ok (.iload_n 3, 1) := by decide +kernel
theorem dX6_isTooNear_70 : decode mX6_isTooNear.2.1 70 = .ok (.iaload, 1) := by decide +kernel
theorem dX6_isTooNear_71 : decode mX6_isTooNear.2.1 71 = .ok (.iload_n 2, 1) := by decide +kernel
theorem dX6_isTooNear_72 : decode mX6_isTooNear.2.1 72 = .ok (.if_icmp .ge 5, 3) := by decide +kernel
theorem dX6_isTooNear_75 : decode mX6_isTooNear.2.1 75 = .ok (.iconst 1, 1) := by decide +kernel
theorem dX6_isTooNear_76 : decode mX6_isTooNear.2.1 76 = .ok (.ireturn, 1) := by decide +kernel
theorem dX6_isTooNear_77 : decode mX6_isTooNear.2.1 77 = .ok (.iinc 3 1, 3) := by decide +kernel
theorem dX6_isTooNear_80 : decode mX6_isTooNear.2.1 80 = .ok (.goto (-41), 3) := by decide +kernel
theorem dX6_isTooNear_83 : decode mX6_isTooNear.2.1 83 = .ok (.iconst 0, 1) := by decide +kernel
theorem dX6_isTooNear_84 : decode mX6_isTooNear.2.1 84 = .ok (.ireturn, 1) := by decide +kernel
theorem dX6_clamp_0 : decode mX6_clamp.2.1 0 = .ok (.aload_n 0, 1) := by decide +kernel
theorem dX6_clamp_1 : decode mX6_clamp.2.1 1 = .ok (.getfield 22, 3) := by decide +kernel
theorem dX6_clamp_4 : decode mX6_clamp.2.1 4 = .ok (.iload_n 1, 1) := by decide +kernel
theorem dX6_clamp_5 : decode mX6_clamp.2.1 5 = .ok (.dup2, 1) := by decide +kernel
theorem dX6_clamp_6 : decode mX6_clamp.2.1 6 = .ok (.iaload, 1) := by decide +kernel
theorem dX6_clamp_7 : decode mX6_clamp.2.1 7 = .ok (.iconst 1, 1) := by decide +kernel
theorem dX6_clamp_8 : decode mX6_clamp.2.1 8 = .ok (.iadd, 1) := by decide +kernel
theorem dX6_clamp_9 : decode mX6_clamp.2.1 9 = .ok (.iastore, 1) := by decide +kernel
theorem dX6_clamp_10 : decode mX6_clamp.2.1 10 = .ok (.aload_n 0, 1) := by decide +kernel
theorem dX6_clamp_11 : decode mX6_clamp.2.1 11 = .ok (.getfield 25, 3) := by decide +kernel
theorem dX6_clamp_14 : decode mX6_clamp.2.1 14 = .ok (.iload_n 1, 1) := by decide +kernel
theorem dX6_clamp_15 : decode mX6_clamp.2.1 15 = .ok (.iaload, 1) := by decide +kernel
theorem dX6_clamp_16 : decode mX6_clamp.2.1 16 = .ok (.ifCond .lt 7, 3) := by decide +kernel
theorem dX6_clamp_19 : decode mX6_clamp.2.1 19 = .ok (.iconst 1, 1) := by decide +kernel
theorem dX6_clamp_20 : decode mX6_clamp.2.1 20 = .ok (.goto 4, 3) := by decide +kernel
theorem dX6_clamp_23 : decode mX6_clamp.2.1 23 = .ok (.iconst 0, 1) := by decide +kernel
theorem dX6_clamp_24 : decode mX6_clamp.2.1 24 = .ok (.istore_n 2, 1) := by decide +kernel
theorem dX6_clamp_25 : decode mX6_clamp.2.1 25 = .ok (.iload_n 2, 1) := by decide +kernel
theorem dX6_clamp_26 : decode mX6_clamp.2.1 26 = .ok (.ifCond .ne 15, 3) := by decide +kernel
theorem dX6_clamp_29 : decode mX6_clamp.2.1 29 = .ok (.aload_n 0, 1) := by decide +kernel
theorem dX6_clamp_30 : decode mX6_clamp.2.1 30 = .ok (.getfield 22, 3) := by decide +kernel
theorem dX6_clamp_33 : decode mX6_clamp.2.1 33 = .ok (.iload_n 1, 1) := by decide +kernel
theorem dX6_clamp_34 : decode mX6_clamp.2.1 34 = .ok (.iaload, 1) := by decide +kernel
theorem dX6_clamp_35 : decode mX6_clamp.2.1 35 = .ok (.bipush 40, 2) := by decide +kernel
theorem dX6_clamp_37 : decode mX6_clamp.2.1 37 = .ok (.if_icmp .ge 4, 3) := by decide +kernel
theorem dX6_clamp_40 : decode mX6_clamp.2.1 40 = .ok (.return_, 1) := by decide +kernel
theorem dX6_clamp_41 : decode mX6_clamp.2.1 41 = .ok (.aload_n 0, 1) := by decide +kernel
theorem dX6_clamp_42 : decode mX6_clamp.2.1 42 = .ok (.getfield 25, 3) := by decide +kernel
theorem dX6_clamp_45 : decode mX6_clamp.2.1 45 = .ok (.iload_n 1, 1) := by decide +kernel
theorem dX6_clamp_46 : decode mX6_clamp.2.1 46 = .ok (.iaload, 1) := by decide +kernel
theorem dX6_clamp_47 : decode mX6_clamp.2.1 47 = .ok (.aload_n 0, 1) := by decide +kernel
theorem dX6_clamp_48 : decode mX6_clamp.2.1 48 = .ok (.getfield 28, 3) := by decide +kernel
theorem dX6_clamp_51 : decode mX6_clamp.2.1 51 = .ok (.iload_n 1, 1) := by decide +kernel
theorem dX6_clamp_52 : decode mX6_clamp.2.1 52 = .ok (.iaload, 1) := by decide +kernel
theorem dX6_clamp_53 : decode mX6_clamp.2.1 53 = .ok (.if_icmp .le 12, 3) := by decide +kernel
theorem dX6_clamp_56 : decode mX6_clamp.2.1 56 = .ok (.aload_n 0, 1) := by decide +kernel
theorem dX6_clamp_57 : decode mX6_clamp.2.1 57 = .ok (.getfield 25, 3) := by decide +kernel
theorem dX6_clamp_60 : decode mX6_clamp.2.1 60 = .ok (.iload_n 1, 1) := by decide +kernel
theorem dX6_clamp_61 : decode mX6_clamp.2.1 61 = .ok (.iaload, 1) := by decide +kernel
theorem dX6_clamp_62 : decode mX6_clamp.2.1 62 = .ok (.goto 9, 3) := by decide +kernel
theorem dX6_clamp_65 : decode mX6_clamp.2.1 65 = .ok (.aload_n 0, 1) := by decide +kernel
theorem dX6_clamp_66 : decode mX6_clamp.2.1 66 = .ok (.getfield 28, 3) := by decide +kernel
theorem dX6_clamp_69 : decode mX6_clamp.2.1 69 = .ok (.iload_n 1, 1) := by decide +kernel
theorem dX6_clamp_70 : decode mX6_clamp.2.1 70 = .ok (.iaload, 1) := by decide +kernel
theorem dX6_clamp_71 : decode mX6_clamp.2.1 71 = .ok (.istore_n 3, 1) := by decide +kernel
theorem dX6_clamp_72 : decode mX6_clamp.2.1 72 = .ok (.aload_n 0, 1) := by decide +kernel
theorem dX6_clamp_73 : decode mX6_clamp.2.1 73 = .ok (.getfield 25, 3) := by decide +kernel
theorem dX6_clamp_76 : decode mX6_clamp.2.1 76 = .ok (.iload_n 1, 1) := by decide +kernel
theorem dX6_clamp_77 : decode mX6_clamp.2.1 77 = .ok (.iaload, 1) := by decide +kernel
theorem dX6_clamp_78 : decode mX6_clamp.2.1 78 = .ok (.aload_n 0, 1) := by decide +kernel
theorem dX6_clamp_79 : decode mX6_clamp.2.1 79 = .ok (.getfield 28, 3) := by decide +kernel
theorem dX6_clamp_82 : decode mX6_clamp.2.1 82 = .ok (.iload_n 1, 1) := by decide +kernel
theorem dX6_clamp_83 : decode mX6_clamp.2.1 83 = .ok (.iaload, 1) := by decide +kernel
theorem dX6_clamp_84 : decode mX6_clamp.2.1 84 = .ok (.if_icmp .le 12, 3) := by decide +kernel
theorem dX6_clamp_87 : decode mX6_clamp.2.1 87 = .ok (.aload_n 0, 1) := by decide +kernel
theorem dX6_clamp_88 : decode mX6_clamp.2.1 88 = .ok (.getfield 28, 3) := by decide +kernel
theorem dX6_clamp_91 : decode mX6_clamp.2.1 91 = .ok (.iload_n 1, 1) := by decide +kernel
theorem dX6_clamp_92 : decode mX6_clamp.2.1 92 = .ok (.iaload, 1) := by decide +kernel
theorem dX6_clamp_93 : decode mX6_clamp.2.1 93 = .ok (.goto 9, 3) := by decide +kernel
theorem dX6_clamp_96 : decode mX6_clamp.2.1 96 = .ok (.aload_n 0, 1) := by decide +kernel
theorem dX6_clamp_97 : decode mX6_clamp.2.1 97 = .ok (.getfield 25, 3) := by decide +kernel
theorem dX6_clamp_100 : decode mX6_clamp.2.1 100 = .ok (.iload_n 1, 1) := by decide +kernel
theorem dX6_clamp_101 : decode mX6_clamp.2.1 101 = .ok (.iaload, 1) := by decide +kernel
theorem dX6_clamp_102 : decode mX6_clamp.2.1 102 = .ok (.istore 4, 2) := by decide +kernel
theorem dX6_clamp_104 : decode mX6_clamp.2.1 104 = .ok (.iload_n 2, 1) := by decide +kernel
theorem dX6_clamp_105 : decode mX6_clamp.2.1 105 = .ok (.ifCond .eq 15, 3) := by decide +kernel
theorem dX6_clamp_108 : decode mX6_clamp.2.1 108 = .ok (.iload 4, 2) := by decide +kernel
theorem dX6_clamp_110 : decode mX6_clamp.2.1 110 = .ok (.sipush 4000, 3) := by decide +kernel
theorem dX6_clamp_113 : decode mX6_clamp.2.1 113 = .ok (.if_icmp .le 7, 3) := by decide +kernel
theorem dX6_clamp_116 : decode mX6_clamp.2.1 116 = .ok (.iconst 1, 1) := by decide +kernel
theorem dX6_clamp_117 : decode mX6_clamp.2.1 117 = .ok (.goto 4, 3) := by decide +kernel
theorem dX6_clamp_120 : decode mX6_clamp.2.1 120 = .ok (.iconst 0, 1) := by decide +kernel
theorem dX6_clamp_121 : decode mX6_clamp.2.1 121 = .ok (.istore 5, 2) := by decide +kernel
theorem dX6_clamp_123 : decode mX6_clamp.2.1 123 = .ok (.iload 5, 2) := by decide +kernel
theorem dX6_clamp_125 : decode mX6_clamp.2.1 125 = .ok (.ifCond .eq 20, 3) := by decide +kernel
theorem dX6_clamp_128 : decode mX6_clamp.2.1 128 = .ok (.bipush 100, 2) := by decide +kernel
theorem dX6_clamp_130 : decode mX6_clamp.2.1 130 = .ok (.iload_n 3, 1) := by decide +kernel
theorem dX6_clamp_131 : decode mX6_clamp.2.1 131 = .ok (.iload 4, 2) := by decide +kernel
theorem dX6_clamp_133 : decode mX6_clamp.2.1 133 = .ok (.isub, 1) := by decide +kernel
theorem dX6_clamp_134 : decode mX6_clamp.2.1 134 = .ok (.imul, 1) := by decide +kernel
theorem dX6_clamp_135 : decode mX6_clamp.2.1 135 = .ok (.iconst 3, 1) := by decide +kernel
theorem dX6_clamp_136 : decode mX6_clamp.2.1 136 = .ok (.iload_n 3, 1) := by decide +kernel
theorem dX6_clamp_137 : decode mX6_clamp.2.1 137 = .ok (.imul, 1) := by decide +kernel
theorem dX6_clamp_138 : decode mX6_clamp.2.1 138 = .ok (.if_icmp .gt 7, 3) := by decide +kernel
theorem dX6_clamp_141 : decode mX6_clamp.2.1 141 = .ok (.iconst 1, 1) := by decide +kernel
theorem dX6_clamp_142 : decode mX6_clamp.2.1 142 = .ok (.goto 4, 3) := by decide +kernel
theorem dX6_clamp_145 : decode mX6_clamp.2.1 145 = .ok (.iconst 0, 1) := by decide +kernel
theorem dX6_clamp_146 : decode mX6_clamp.2.1 146 = .ok (.istore 6, 2) := by decide +kernel
theorem dX6_clamp_148 : decode mX6_clamp.2.1 148 = .ok (.aload_n 0, 1) := by decide +kernel
theorem dX6_clamp_149 : decode mX6_clamp.2.1 149 = .ok (.getfield 22, 3) := by decide +kernel
theorem dX6_clamp_152 : decode mX6_clamp.2.1 152 = .ok (.iload_n 1, 1) := by decide +kernel
theorem dX6_clamp_153 : decode mX6_clamp.2.1 153 = .ok (.iconst (-1), 1) := by decide +kernel
theorem dX6_clamp_154 : decode mX6_clamp.2.1 154 = .ok (.iastore, 1) := by decide +kernel
theorem dX6_clamp_155 : decode mX6_clamp.2.1 155 = .ok (.aload_n 0, 1) := by decide +kernel
theorem dX6_clamp_156 : decode mX6_clamp.2.1 156 = .ok (.getfield 19, 3) := by decide +kernel
theorem dX6_clamp_159 : decode mX6_clamp.2.1 159 = .ok (.iload_n 1, 1) := by decide +kernel
theorem dX6_clamp_160 : decode mX6_clamp.2.1 160 = .ok (.iconst 0, 1) := by decide +kernel
theorem dX6_clamp_161 : decode mX6_clamp.2.1 161 = .ok (.iastore, 1) := by decide +kernel
theorem dX6_clamp_162 : decode mX6_clamp.2.1 162 = .ok (.iload 6, 2) := by decide +kernel
theorem dX6_clamp_164 : decode mX6_clamp.2.1 164 = .ok (.ifCond .eq 28, 3) := by decide +kernel
theorem dX6_clamp_167 : decode mX6_clamp.2.1 167 = .ok (.aload_n 0, 1) := by decide +kernel
theorem dX6_clamp_168 : decode mX6_clamp.2.1 168 = .ok (.getfield 7, 3) := by decide +kernel
theorem dX6_clamp_171 : decode mX6_clamp.2.1 171 = .ok (.iload_n 1, 1) := by decide +kernel
theorem dX6_clamp_172 : decode mX6_clamp.2.1 172 = .ok (.iconst 3, 1) := by decide +kernel
theorem dX6_clamp_173 : decode mX6_clamp.2.1 173 = .ok (.iastore, 1) := by decide +kernel
theorem dX6_clamp_174 : decode mX6_clamp.2.1 174 = .ok (.aload_n 0, 1) := by decide +kernel
theorem dX6_clamp_175 : decode mX6_clamp.2.1 175 = .ok (.getfield 13, 3) := by decide +kernel
theorem dX6_clamp_178 : decode mX6_clamp.2.1 178 = .ok (.iload_n 1, 1) := by decide +kernel
theorem dX6_clamp_179 : decode mX6_clamp.2.1 179 = .ok (.iconst 0, 1) := by decide +kernel
theorem dX6_clamp_180 : decode mX6_clamp.2.1 180 = .ok (.iastore, 1) := by decide +kernel
theorem dX6_clamp_181 : decode mX6_clamp.2.1 181 = .ok (.aload_n 0, 1) := by decide +kernel
theorem dX6_clamp_182 : decode mX6_clamp.2.1 182 = .ok (.getfield 31, 3) := by decide +kernel
theorem dX6_clamp_185 : decode mX6_clamp.2.1 185 = .ok (.iload_n 1, 1) := by decide +kernel
theorem dX6_clamp_186 : decode mX6_clamp.2.1 186 = .ok (.dup2, 1) := by decide +kernel
theorem dX6_clamp_187 : decode mX6_clamp.2.1 187 = .ok (.iaload, 1) := by decide +kernel
theorem dX6_clamp_188 : decode mX6_clamp.2.1 188 = .ok (.iconst 1, 1) := by decide +kernel
theorem dX6_clamp_189 : decode mX6_clamp.2.1 189 = .ok (.iadd, 1) := by decide +kernel
theorem dX6_clamp_190 : decode mX6_clamp.2.1 190 = .ok (.iastore, 1) := by decide +kernel
theorem dX6_clamp_191 : decode mX6_clamp.2.1 191 = .ok (.return_, 1) := by decide +kernel
theorem dX6_clamp_192 : decode mX6_clamp.2.1 192 = .ok (.aload_n 0, 1) := by decide +kernel
theorem dX6_clamp_193 : decode mX6_clamp.2.1 193 = .ok (.getfield 34, 3) := by decide +kernel
theorem dX6_clamp_196 : decode mX6_clamp.2.1 196 = .ok (.iload_n 1, 1) := by decide +kernel
theorem dX6_clamp_197 : decode mX6_clamp.2.1 197 = .ok (.iload_n 2, 1) := by decide +kernel
theorem dX6_clamp_198 : decode mX6_clamp.2.1 198 = .ok (.ifCond .ne 7, 3) := by decide +kernel
theorem dX6_clamp_201 : decode mX6_clamp.2.1 201 = .ok (.iconst 3, 1) := by decide +kernel
theorem dX6_clamp_202 : decode mX6_clamp.2.1 202 = .ok (.goto 13, 3) := by decide +kernel
theorem dX6_clamp_205 : decode mX6_clamp.2.1 205 = .ok (.iload 5, 2) := by decide +kernel
theorem dX6_clamp_207 : decode mX6_clamp.2.1 207 = .ok (.ifCond .eq 7, 3) := by decide +kernel
theorem dX6_clamp_210 : decode mX6_clamp.2.1 210 = .ok (.iconst 2, 1) := by decide +kernel
theorem dX6_clamp_211 : decode mX6_clamp.2.1 211 = .ok (.goto 4, 3) := by decide +kernel
theorem dX6_clamp_214 : decode mX6_clamp.2.1 214 = .ok (.iconst 1, 1) := by decide +kernel
theorem dX6_clamp_215 : decode mX6_clamp.2.1 215 = .ok (.iastore, 1) := by decide +kernel
theorem dX6_clamp_216 : decode mX6_clamp.2.1 216 = .ok (.aload_n 0, 1) := by decide +kernel
theorem dX6_clamp_217 : decode mX6_clamp.2.1 217 = .ok (.aload_n 0, 1) := by decide +kernel
theorem dX6_clamp_218 : decode mX6_clamp.2.1 218 = .ok (.getfield 73, 3) := by decide +kernel
theorem dX6_clamp_221 : decode mX6_clamp.2.1 221 = .ok (.iconst 1, 1) := by decide +kernel
theorem dX6_clamp_222 : decode mX6_clamp.2.1 222 = .ok (.ior, 1) := by decide +kernel
theorem dX6_clamp_223 : decode mX6_clamp.2.1 223 = .ok (.putfield 73, 3) := by decide +kernel
theorem dX6_clamp_226 : decode mX6_clamp.2.1 226 = .ok (.aload_n 0, 1) := by decide +kernel
theorem dX6_clamp_227 : decode mX6_clamp.2.1 227 = .ok (.getfield 79, 3) := by decide +kernel
theorem dX6_clamp_230 : decode mX6_clamp.2.1 230 = .ok (.bipush 20, 2) := by decide +kernel
theorem dX6_clamp_232 : decode mX6_clamp.2.1 232 = .ok (.if_icmp .ge 11, 3) := by decide +kernel
theorem dX6_clamp_235 : decode mX6_clamp.2.1 235 = .ok (.aload_n 0, 1) := by decide +kernel
theorem dX6_clamp_236 : decode mX6_clamp.2.1 236 = .ok (.iload_n 1, 1) := by decide +kernel
theorem dX6_clamp_237 : decode mX6_clamp.2.1 237 = .ok (.invokevirtual 89, 3) := by decide +kernel
theorem dX6_clamp_240 : decode mX6_clamp.2.1 240 = .ok (.goto 13, 3) := by decide +kernel
theorem dX6_clamp_243 : decode mX6_clamp.2.1 243 = .ok (.aload_n 0, 1) := by decide +kernel
theorem dX6_clamp_244 : decode mX6_clamp.2.1 244 = .ok (.aload_n 0, 1) := by decide +kernel
theorem dX6_clamp_245 : decode mX6_clamp.2.1 245 = .ok (.getfield 73, 3) := by decide +kernel
theorem dX6_clamp_248 : decode mX6_clamp.2.1 248 = .ok (.iconst 2, 1) := by decide +kernel
theorem dX6_clamp_249 : decode mX6_clamp.2.1 249 = .ok (.ior, 1) := by decide +kernel
theorem dX6_clamp_250 : decode mX6_clamp.2.1 250 = .ok (.putfield 73, 3) := by decide +kernel
theorem dX6_clamp_253 : decode mX6_clamp.2.1 253 = .ok (.return_, 1) := by decide +kernel
theorem dX6_work_0 : decode mX6_work.2.1 0 = .ok (.aload_n 0, 1) := by decide +kernel
theorem dX6_work_1 : decode mX6_work.2.1 1 = .ok (.iload_n 1, 1) := by decide +kernel
theorem dX6_work_2 : decode mX6_work.2.1 2 = .ok (.iload_n 2, 1) := by decide +kernel
theorem dX6_work_3 : decode mX6_work.2.1 3 = .ok (.invokevirtual 54, 3) := by decide +kernel
theorem dX6_work_6 : decode mX6_work.2.1 6 = .ok (.istore_n 3, 1) := by decide +kernel
theorem dX6_work_7 : decode mX6_work.2.1 7 = .ok (.iload_n 3, 1) := by decide +kernel
theorem dX6_work_8 : decode mX6_work.2.1 8 = .ok (.ifCond .ge 4, 3) := by decide +kernel
theorem dX6_work_11 : decode mX6_work.2.1 11 = .ok (.return_, 1) := by decide +kernel
theorem dX6_work_12 : decode mX6_work.2.1 12 = .ok (.aload_n 0, 1) := by decide +kernel
theorem dX6_work_13 : decode mX6_work.2.1 13 = .ok (.getfield 19, 3) := by decide +kernel
theorem dX6_work_16 : decode mX6_work.2.1 16 = .ok (.iload_n 3, 1) := by decide +kernel
theorem dX6_work_17 : decode mX6_work.2.1 17 = .ok (.dup2, 1) := by decide +kernel
theorem dX6_work_18 : decode mX6_work.2.1 18 = .ok (.iaload, 1) := by decide +kernel
theorem dX6_work_19 : decode mX6_work.2.1 19 = .ok (.iconst 1, 1) := by decide +kernel
theorem dX6_work_20 : decode mX6_work.2.1 20 = .ok (.iadd, 1) := by decide +kernel
theorem dX6_work_21 : decode mX6_work.2.1 21 = .ok (.iastore, 1) := by decide +kernel
theorem dX6_work_22 : decode mX6_work.2.1 22 = .ok (.iload_n 2, 1) := by decide +kernel
theorem dX6_work_23 : decode mX6_work.2.1 23 = .ok (.bipush 12, 2) := by decide +kernel
theorem dX6_work_25 : decode mX6_work.2.1 25 = .ok (.if_icmp .ge 37, 3) := by decide +kernel
theorem dX6_work_28 : decode mX6_work.2.1 28 = .ok (.aload_n 0, 1) := by decide +kernel
theorem dX6_work_29 : decode mX6_work.2.1 29 = .ok (.getfield 19, 3) := by decide +kernel
theorem dX6_work_32 : decode mX6_work.2.1 32 = .ok (.iload_n 3, 1) := by decide +kernel
theorem dX6_work_33 : decode mX6_work.2.1 33 = .ok (.iaload, 1) := by decide +kernel
theorem dX6_work_34 : decode mX6_work.2.1 34 = .ok (.bipush 15, 2) := by decide +kernel
theorem dX6_work_36 : decode mX6_work.2.1 36 = .ok (.if_icmp .lt 90, 3) := by decide +kernel
theorem dX6_work_39 : decode mX6_work.2.1 39 = .ok (.aload_n 0, 1) := by decide +kernel
theorem dX6_work_40 : decode mX6_work.2.1 40 = .ok (.iload_n 1, 1) := by decide +kernel
theorem dX6_work_41 : decode mX6_work.2.1 41 = .ok (.iload_n 2, 1) := by decide +kernel
theorem dX6_work_42 : decode mX6_work.2.1 42 = .ok (.iconst 1, 1) := by decide +kernel
theorem dX6_work_43 : decode mX6_work.2.1 43 = .ok (.iadd, 1) := by decide +kernel
theorem dX6_work_44 : decode mX6_work.2.1 44 = .ok (.invokevirtual 54, 3) := by decide +kernel
theorem dX6_work_47 : decode mX6_work.2.1 47 = .ok (.ifCond .ge 79, 3) := by decide +kernel
theorem dX6_work_50 : decode mX6_work.2.1 50 = .ok (.aload_n 0, 1) := by decide +kernel
theorem dX6_work_51 : decode mX6_work.2.1 51 = .ok (.iload_n 3, 1) := by decide +kernel
theorem dX6_work_52 : decode mX6_work.2.1 52 = .ok (.iload_n 1, 1) := by decide +kernel
theorem dX6_work_53 : decode mX6_work.2.1 53 = .ok (.iload_n 2, 1) := by decide +kernel
theorem dX6_work_54 : decode mX6_work.2.1 54 = .ok (.iconst 1, 1) := by decide +kernel
theorem dX6_work_55 : decode mX6_work.2.1 55 = .ok (.iadd, 1) := by decide +kernel
theorem dX6_work_56 : decode mX6_work.2.1 56 = .ok (.invokevirtual 58, 3) := by decide +kernel
theorem dX6_work_59 : decode mX6_work.2.1 59 = .ok (.goto 67, 3) := by decide +kernel
theorem dX6_work_62 : decode mX6_work.2.1 62 = .ok (.aload_n 0, 1) := by decide +kernel
theorem dX6_work_63 : decode mX6_work.2.1 63 = .ok (.getfield 22, 3) := by decide +kernel
theorem dX6_work_66 : decode mX6_work.2.1 66 = .ok (.iload_n 3, 1) := by decide +kernel
theorem dX6_work_67 : decode mX6_work.2.1 67 = .ok (.iaload, 1) := by decide +kernel
theorem dX6_work_68 : decode mX6_work.2.1 68 = .ok (.ifCond .lt 11, 3) := by decide +kernel
theorem dX6_work_71 : decode mX6_work.2.1 71 = .ok (.aload_n 0, 1) := by decide +kernel
theorem dX6_work_72 : decode mX6_work.2.1 72 = .ok (.iload_n 3, 1) := by decide +kernel
theorem dX6_work_73 : decode mX6_work.2.1 73 = .ok (.invokevirtual 93, 3) := by decide +kernel
theorem dX6_work_76 : decode mX6_work.2.1 76 = .ok (.goto 50, 3) := by decide +kernel
theorem dX6_work_79 : decode mX6_work.2.1 79 = .ok (.aload_n 0, 1) := by decide +kernel
theorem dX6_work_80 : decode mX6_work.2.1 80 = .ok (.getfield 19, 3) := by decide +kernel
theorem dX6_work_83 : decode mX6_work.2.1 83 = .ok (.iload_n 3, 1) := by decide +kernel
theorem dX6_work_84 : decode mX6_work.2.1 84 = .ok (.iaload, 1) := by decide +kernel
theorem dX6_work_85 : decode mX6_work.2.1 85 = .ok (.bipush 15, 2) := by decide +kernel
theorem dX6_work_87 : decode mX6_work.2.1 87 = .ok (.if_icmp .lt 39, 3) := by decide +kernel
theorem dX6_work_90 : decode mX6_work.2.1 90 = .ok (.aload_n 0, 1) := by decide +kernel
theorem dX6_work_91 : decode mX6_work.2.1 91 = .ok (.getfield 73, 3) := by decide +kernel
theorem dX6_work_94 : decode mX6_work.2.1 94 = .ok (.ifCond .ne 32, 3) := by decide +kernel
theorem dX6_work_97 : decode mX6_work.2.1 97 = .ok (.aload_n 0, 1) := by decide +kernel
theorem dX6_work_98 : decode mX6_work.2.1 98 = .ok (.iload_n 1, 1) := by decide +kernel
theorem dX6_work_99 : decode mX6_work.2.1 99 = .ok (.invokevirtual 96, 3) := by decide +kernel
theorem dX6_work_102 : decode mX6_work.2.1 102 = .ok (.ifCond .ne 24, 3) := by decide +kernel
theorem dX6_work_105 : decode mX6_work.2.1 105 = .ok (.aload_n 0, 1) := by decide +kernel
theorem dX6_work_106 : decode mX6_work.2.1 106 = .ok (.getfield 22, 3) := by decide +kernel
theorem dX6_work_109 : decode mX6_work.2.1 109 = .ok (.iload_n 3, 1) := by decide +kernel
theorem dX6_work_110 : decode mX6_work.2.1 110 = .ok (.iconst 0, 1) := by decide +kernel
theorem dX6_work_111 : decode mX6_work.2.1 111 = .ok (.iastore, 1) := by decide +kernel
theorem dX6_work_112 : decode mX6_work.2.1 112 = .ok (.aload_n 0, 1) := by decide +kernel
theorem dX6_work_113 : decode mX6_work.2.1 113 = .ok (.getfield 25, 3) := by decide +kernel
theorem dX6_work_116 : decode mX6_work.2.1 116 = .ok (.iload_n 3, 1) := by decide +kernel
theorem dX6_work_117 : decode mX6_work.2.1 117 = .ok (.iconst (-1), 1) := by decide +kernel
theorem dX6_work_118 : decode mX6_work.2.1 118 = .ok (.iastore, 1) := by decide +kernel
theorem dX6_work_119 : decode mX6_work.2.1 119 = .ok (.aload_n 0, 1) := by decide +kernel
theorem dX6_work_120 : decode mX6_work.2.1 120 = .ok (.getfield 28, 3) := by decide +kernel
theorem dX6_work_123 : decode mX6_work.2.1 123 = .ok (.iload_n 3, 1) := by decide +kernel
theorem dX6_work_124 : decode mX6_work.2.1 124 = .ok (.iconst (-1), 1) := by decide +kernel
theorem dX6_work_125 : decode mX6_work.2.1 125 = .ok (.iastore, 1) := by decide +kernel
theorem dX6_work_126 : decode mX6_work.2.1 126 = .ok (.return_, 1) := by decide +kernel
theorem dX6_isWaiting_0 : decode mX6_isWaiting.2.1 0 = .ok (.iconst 0, 1) := by decide +kernel
theorem dX6_isWaiting_1 : decode mX6_isWaiting.2.1 1 = .ok (.istore_n 1, 1) := by decide +kernel
theorem dX6_isWaiting_2 : decode mX6_isWaiting.2.1 2 = .ok (.iload_n 1, 1) := by decide +kernel
theorem dX6_isWaiting_3 : decode mX6_isWaiting.2.1 3 = .ok (.bipush 60, 2) := by decide +kernel
theorem dX6_isWaiting_5 : decode mX6_isWaiting.2.1 5 = .ok (.if_icmp .ge 49, 3) := by decide +kernel
theorem dX6_isWaiting_8 : decode mX6_isWaiting.2.1 8 = .ok (.aload_n 0, 1) := by decide +kernel
theorem dX6_isWaiting_9 : decode mX6_isWaiting.2.1 9 = .ok (.getfield 7, 3) := by decide +kernel
theorem dX6_isWaiting_12 : decode mX6_isWaiting.2.1 12 = .ok (.iload_n 1, 1) := by decide +kernel
theorem dX6_isWaiting_13 : decode mX6_isWaiting.2.1 13 = .ok (.iaload, 1) := by decide +kernel
theorem dX6_isWaiting_14 : decode mX6_isWaiting.2.1 14 = .ok (.iconst 3, 1) := by decide +kernel
theorem dX6_isWaiting_15 : decode mX6_isWaiting.2.1 15 = .ok (.if_icmp .ne 33, 3) := by decide +kernel
theorem dX6_isWaiting_18 : decode mX6_isWaiting.2.1 18 = .ok (.aload_n 0, 1) := by decide +kernel
theorem dX6_isWaiting_19 : decode mX6_isWaiting.2.1 19 = .ok (.getfield 13, 3) := by decide +kernel
theorem dX6_isWaiting_22 : decode mX6_isWaiting.2.1 22 = .ok (.iload_n 1, 1) := by decide +kernel
theorem dX6_isWaiting_23 : decode mX6_isWaiting.2.1 23 = .ok (.iaload, 1) := by decide +kernel
theorem dX6_isWaiting_24 : decode mX6_isWaiting.2.1 24 = .ok (.sipush 5640, 3) := by decide +kernel
theorem dX6_isWaiting_27 : decode mX6_isWaiting.2.1 27 = .ok (.if_icmp .lt 21, 3) := by decide +kernel
theorem dX6_isWaiting_30 : decode mX6_isWaiting.2.1 30 = .ok (.aload_n 0, 1) := by decide +kernel
theorem dX6_isWaiting_31 : decode mX6_isWaiting.2.1 31 = .ok (.iconst 1, 1) := by decide +kernel
theorem dX6_isWaiting_32 : decode mX6_isWaiting.2.1 32 = .ok (.aload_n 0, 1) := by decide +kernel
theorem dX6_isWaiting_33 : decode mX6_isWaiting.2.1 33 = .ok (.getfield 16, 3) := by decide +kernel
theorem dX6_isWaiting_36 : decode mX6_isWaiting.2.1 36 = .ok (.iload_n 1, 1) := by decide +kernel
theorem dX6_isWaiting_37 : decode mX6_isWaiting.2.1 37 = .ok (.iaload, 1) := by decide +kernel
theorem dX6_isWaiting_38 : decode mX6_isWaiting.2.1 38 = .ok (.isub, 1) := by decide +kernel
theorem dX6_isWaiting_39 : decode mX6_isWaiting.2.1 39 = .ok (.iconst 1, 1) := by decide +kernel
theorem dX6_isWaiting_40 : decode mX6_isWaiting.2.1 40 = .ok (.invokevirtual 54, 3) := by decide +kernel
theorem dX6_isWaiting_43 : decode mX6_isWaiting.2.1 43 = .ok (.ifCond .lt 5, 3) := by decide +kernel
theorem dX6_isWaiting_46 : decode mX6_isWaiting.2.1 46 = .ok (.iconst 1, 1) := by decide +kernel
theorem dX6_isWaiting_47 : decode mX6_isWaiting.2.1 47 = .ok (.ireturn, 1) := by decide +kernel
theorem dX6_isWaiting_48 : decode mX6_isWaiting.2.1 48 = .ok (.iinc 1 1, 3) := by decide +kernel
theorem dX6_isWaiting_51 : decode mX6_isWaiting.2.1 51 = .ok (.goto (-49), 3) := by decide +kernel
theorem dX6_isWaiting_54 : decode mX6_isWaiting.2.1 54 = .ok (.iconst 0, 1) := by decide +kernel
theorem dX6_isWaiting_55 : decode mX6_isWaiting.2.1 55 = .ok (.ireturn, 1) := by decide +kernel
theorem dX6_one_0 : decode mX6_one.2.1 0 = .ok (.aload_n 0, 1) := by decide +kernel
theorem dX6_one_1 : decode mX6_one.2.1 1 = .ok (.invokevirtual 100, 3) := by decide +kernel
theorem dX6_one_4 : decode mX6_one.2.1 4 = .ok (.sipush 250, 3) := by decide +kernel
theorem dX6_one_7 : decode mX6_one.2.1 7 = .ok (.if_icmp .le 13, 3) := by decide +kernel
theorem dX6_one_10 : decode mX6_one.2.1 10 = .ok (.aload_n 0, 1) := by decide +kernel
theorem dX6_one_11 : decode mX6_one.2.1 11 = .ok (.aload_n 0, 1) := by decide +kernel
theorem dX6_one_12 : decode mX6_one.2.1 12 = .ok (.getfield 73, 3) := by decide +kernel
theorem dX6_one_15 : decode mX6_one.2.1 15 = .ok (.iconst 4, 1) := by decide +kernel
theorem dX6_one_16 : decode mX6_one.2.1 16 = .ok (.ior, 1) := by decide +kernel
theorem dX6_one_17 : decode mX6_one.2.1 17 = .ok (.putfield 73, 3) := by decide +kernel
theorem dX6_one_20 : decode mX6_one.2.1 20 = .ok (.iconst 0, 1) := by decide +kernel
theorem dX6_one_21 : decode mX6_one.2.1 21 = .ok (.istore_n 1, 1) := by decide +kernel
theorem dX6_one_22 : decode mX6_one.2.1 22 = .ok (.iload_n 1, 1) := by decide +kernel
theorem dX6_one_23 : decode mX6_one.2.1 23 = .ok (.iconst 2, 1) := by decide +kernel
theorem dX6_one_24 : decode mX6_one.2.1 24 = .ok (.if_icmp .ge 28, 3) := by decide +kernel
theorem dX6_one_27 : decode mX6_one.2.1 27 = .ok (.bipush 12, 2) := by decide +kernel
theorem dX6_one_29 : decode mX6_one.2.1 29 = .ok (.istore_n 2, 1) := by decide +kernel
theorem dX6_one_30 : decode mX6_one.2.1 30 = .ok (.iload_n 2, 1) := by decide +kernel
theorem dX6_one_31 : decode mX6_one.2.1 31 = .ok (.ifCond .le 15, 3) := by decide +kernel
theorem dX6_one_34 : decode mX6_one.2.1 34 = .ok (.aload_n 0, 1) := by decide +kernel
theorem dX6_one_35 : decode mX6_one.2.1 35 = .ok (.iload_n 1, 1) := by decide +kernel
theorem dX6_one_36 : decode mX6_one.2.1 36 = .ok (.iload_n 2, 1) := by decide +kernel
theorem dX6_one_37 : decode mX6_one.2.1 37 = .ok (.invokevirtual 104, 3) := by decide +kernel
theorem dX6_one_40 : decode mX6_one.2.1 40 = .ok (.iinc 2 (-1), 3) := by decide +kernel
theorem dX6_one_43 : decode mX6_one.2.1 43 = .ok (.goto (-13), 3) := by decide +kernel
theorem dX6_one_46 : decode mX6_one.2.1 46 = .ok (.iinc 1 1, 3) := by decide +kernel
theorem dX6_one_49 : decode mX6_one.2.1 49 = .ok (.goto (-27), 3) := by decide +kernel
theorem dX6_one_52 : decode mX6_one.2.1 52 = .ok (.aload_n 0, 1) := by decide +kernel
theorem dX6_one_53 : decode mX6_one.2.1 53 = .ok (.getfield 73, 3) := by decide +kernel
theorem dX6_one_56 : decode mX6_one.2.1 56 = .ok (.ifCond .ne 10, 3) := by decide +kernel
theorem dX6_one_59 : decode mX6_one.2.1 59 = .ok (.aload_n 0, 1) := by decide +kernel
theorem dX6_one_60 : decode mX6_one.2.1 60 = .ok (.invokevirtual 108, 3) := by decide +kernel
theorem dX6_one_63 : decode mX6_one.2.1 63 = .ok (.ifCond .eq 7, 3) := by decide +kernel
theorem dX6_one_66 : decode mX6_one.2.1 66 = .ok (.iconst 0, 1) := by decide +kernel
theorem dX6_one_67 : decode mX6_one.2.1 67 = .ok (.goto 29, 3) := by decide +kernel
theorem dX6_one_70 : decode mX6_one.2.1 70 = .ok (.aload_n 0, 1) := by decide +kernel
theorem dX6_one_71 : decode mX6_one.2.1 71 = .ok (.invokevirtual 100, 3) := by decide +kernel
theorem dX6_one_74 : decode mX6_one.2.1 74 = .ok (.sipush 180, 3) := by decide +kernel
theorem dX6_one_77 : decode mX6_one.2.1 77 = .ok (.if_icmp .le 15, 3) := by decide +kernel
theorem dX6_one_80 : decode mX6_one.2.1 80 = .ok (.aload_n 0, 1) := by decide +kernel
theorem dX6_one_81 : decode mX6_one.2.1 81 = .ok (.getfield 111, 3) := by decide +kernel
theorem dX6_one_84 : decode mX6_one.2.1 84 = .ok (.iconst 2, 1) := by decide +kernel
theorem dX6_one_85 : decode mX6_one.2.1 85 = .ok (.if_icmp .le 7, 3) := by decide +kernel
theorem dX6_one_88 : decode mX6_one.2.1 88 = .ok (.iconst 2, 1) := by decide +kernel
theorem dX6_one_89 : decode mX6_one.2.1 89 = .ok (.goto 7, 3) := by decide +kernel
theorem dX6_one_92 : decode mX6_one.2.1 92 = .ok (.aload_n 0, 1) := by decide +kernel
theorem dX6_one_93 : decode mX6_one.2.1 93 = .ok (.getfield 111, 3) := by decide +kernel
theorem dX6_one_96 : decode mX6_one.2.1 96 = .ok (.istore_n 1, 1) := by decide +kernel
theorem dX6_one_97 : decode mX6_one.2.1 97 = .ok (.aload_n 0, 1) := by decide +kernel
theorem dX6_one_98 : decode mX6_one.2.1 98 = .ok (.dup, 1) := by decide +kernel
theorem dX6_one_99 : decode mX6_one.2.1 99 = .ok (.getfield 114, 3) := by decide +kernel
theorem dX6_one_102 : decode mX6_one.2.1 102 = .ok (.iload_n 1, 1) := by decide +kernel
theorem dX6_one_103 : decode mX6_one.2.1 103 = .ok (.aload_n 0, 1) := by decide +kernel
theorem dX6_one_104 : decode mX6_one.2.1 104 = .ok (.getfield 114, 3) := by decide +kernel
theorem dX6_one_107 : decode mX6_one.2.1 107 = .ok (.if_icmp .le 7, 3) := by decide +kernel
theorem dX6_one_110 : decode mX6_one.2.1 110 = .ok (.iconst 1, 1) := by decide +kernel
theorem dX6_one_111 : decode mX6_one.2.1 111 = .ok (.goto 16, 3) := by decide +kernel
theorem dX6_one_114 : decode mX6_one.2.1 114 = .ok (.iload_n 1, 1) := by decide +kernel
theorem dX6_one_115 : decode mX6_one.2.1 115 = .ok (.aload_n 0, 1) := by decide +kernel
theorem dX6_one_116 : decode mX6_one.2.1 116 = .ok (.getfield 114, 3) := by decide +kernel
theorem dX6_one_119 : decode mX6_one.2.1 119 = .ok (.if_icmp .ge 7, 3) := by decide +kernel
theorem dX6_one_122 : decode mX6_one.2.1 122 = .ok (.iconst (-1), 1) := by decide +kernel
theorem dX6_one_123 : decode mX6_one.2.1 123 = .ok (.goto 4, 3) := by decide +kernel
theorem dX6_one_126 : decode mX6_one.2.1 126 = .ok (.iconst 0, 1) := by decide +kernel
theorem dX6_one_127 : decode mX6_one.2.1 127 = .ok (.iadd, 1) := by decide +kernel
theorem dX6_one_128 : decode mX6_one.2.1 128 = .ok (.putfield 114, 3) := by decide +kernel
theorem dX6_one_131 : decode mX6_one.2.1 131 = .ok (.aload_n 0, 1) := by decide +kernel
theorem dX6_one_132 : decode mX6_one.2.1 132 = .ok (.dup, 1) := by decide +kernel
theorem dX6_one_133 : decode mX6_one.2.1 133 = .ok (.getfield 117, 3) := by decide +kernel
theorem dX6_one_136 : decode mX6_one.2.1 136 = .ok (.iconst 1, 1) := by decide +kernel
theorem dX6_one_137 : decode mX6_one.2.1 137 = .ok (.iadd, 1) := by decide +kernel
theorem dX6_one_138 : decode mX6_one.2.1 138 = .ok (.putfield 117, 3) := by decide +kernel
theorem dX6_one_141 : decode mX6_one.2.1 141 = .ok (.return_, 1) := by decide +kernel
theorem dX6_tick_0 : decode mX6_tick.2.1 0 = .ok (.aload_n 0, 1) := by decide +kernel
theorem dX6_tick_1 : decode mX6_tick.2.1 1 = .ok (.iload_n 1, 1) := by decide +kernel
theorem dX6_tick_2 : decode mX6_tick.2.1 2 = .ok (.iconst 1, 1) := by decide +kernel
theorem dX6_tick_3 : decode mX6_tick.2.1 3 = .ok (.bipush 100, 2) := by decide +kernel
theorem dX6_tick_5 : decode mX6_tick.2.1 5 = .ok (.invokestatic 50, 3) := by decide +kernel
theorem dX6_tick_8 : decode mX6_tick.2.1 8 = .ok (.ifCond .ne 7, 3) := by decide +kernel
theorem dX6_tick_11 : decode mX6_tick.2.1 11 = .ok (.iconst 1, 1) := by decide +kernel
theorem dX6_tick_12 : decode mX6_tick.2.1 12 = .ok (.goto 4, 3) := by decide +kernel
theorem dX6_tick_15 : decode mX6_tick.2.1 15 = .ok (.iconst 0, 1) := by decide +kernel
theorem dX6_tick_16 : decode mX6_tick.2.1 16 = .ok (.invokevirtual 62, 3) := by decide +kernel
theorem dX6_tick_19 : decode mX6_tick.2.1 19 = .ok (.ifCond .eq 5, 3) := by decide +kernel
theorem dX6_tick_22 : decode mX6_tick.2.1 22 = .ok (.iconst 0, 1) := by decide +kernel
theorem dX6_tick_23 : decode mX6_tick.2.1 23 = .ok (.ireturn, 1) := by decide +kernel
theorem dX6_tick_24 : decode mX6_tick.2.1 24 = .ok (.iconst 0, 1) := by decide +kernel
theorem dX6_tick_25 : decode mX6_tick.2.1 25 = .ok (.istore_n 2, 1) := by decide +kernel
theorem dX6_tick_26 : decode mX6_tick.2.1 26 = .ok (.iload_n 2, 1) := by decide +kernel
theorem dX6_tick_27 : decode mX6_tick.2.1 27 = .ok (.iload_n 1, 1) := by decide +kernel
theorem dX6_tick_28 : decode mX6_tick.2.1 28 = .ok (.if_icmp .ge 13, 3) := by decide +kernel
theorem dX6_tick_31 : decode mX6_tick.2.1 31 = .ok (.aload_n 0, 1) := by decide +kernel
theorem dX6_tick_32 : decode mX6_tick.2.1 32 = .ok (.invokevirtual 120, 3) := by decide +kernel
theorem dX6_tick_35 : decode mX6_tick.2.1 35 = .ok (.iinc 2 1, 3) := by decide +kernel
theorem dX6_tick_38 : decode mX6_tick.2.1 38 = .ok (.goto (-12), 3) := by decide +kernel
theorem dX6_tick_41 : decode mX6_tick.2.1 41 = .ok (.aload_n 0, 1) := by decide +kernel
theorem dX6_tick_42 : decode mX6_tick.2.1 42 = .ok (.getfield 114, 3) := by decide +kernel
theorem dX6_tick_45 : decode mX6_tick.2.1 45 = .ok (.ireturn, 1) := by decide +kernel
theorem dX6_gauge_0 : decode mX6_gauge.2.1 0 = .ok (.aload_n 0, 1) := by decide +kernel
theorem dX6_gauge_1 : decode mX6_gauge.2.1 1 = .ok (.iload_n 1, 1) := by decide +kernel
theorem dX6_gauge_2 : decode mX6_gauge.2.1 2 = .ok (.invokestatic 123, 3) := by decide +kernel
theorem dX6_gauge_5 : decode mX6_gauge.2.1 5 = .ok (.ifCond .eq 25, 3) := by decide +kernel
theorem dX6_gauge_8 : decode mX6_gauge.2.1 8 = .ok (.iload_n 2, 1) := by decide +kernel
theorem dX6_gauge_9 : decode mX6_gauge.2.1 9 = .ok (.iconst 0, 1) := by decide +kernel
theorem dX6_gauge_10 : decode mX6_gauge.2.1 10 = .ok (.sipush 20000, 3) := by decide +kernel
theorem dX6_gauge_13 : decode mX6_gauge.2.1 13 = .ok (.invokestatic 50, 3) := by decide +kernel
theorem dX6_gauge_16 : decode mX6_gauge.2.1 16 = .ok (.ifCond .eq 14, 3) := by decide +kernel
theorem dX6_gauge_19 : decode mX6_gauge.2.1 19 = .ok (.iload_n 3, 1) := by decide +kernel
theorem dX6_gauge_20 : decode mX6_gauge.2.1 20 = .ok (.iconst 0, 1) := by decide +kernel
theorem dX6_gauge_21 : decode mX6_gauge.2.1 21 = .ok (.sipush 20000, 3) := by decide +kernel
theorem dX6_gauge_24 : decode mX6_gauge.2.1 24 = .ok (.invokestatic 50, 3) := by decide +kernel
theorem dX6_gauge_27 : decode mX6_gauge.2.1 27 = .ok (.ifCond .ne 7, 3) := by decide +kernel
theorem dX6_gauge_30 : decode mX6_gauge.2.1 30 = .ok (.iconst 1, 1) := by decide +kernel
theorem dX6_gauge_31 : decode mX6_gauge.2.1 31 = .ok (.goto 4, 3) := by decide +kernel
theorem dX6_gauge_34 : decode mX6_gauge.2.1 34 = .ok (.iconst 0, 1) := by decide +kernel
theorem dX6_gauge_35 : decode mX6_gauge.2.1 35 = .ok (.invokevirtual 62, 3) := by decide +kernel
theorem dX6_gauge_38 : decode mX6_gauge.2.1 38 = .ok (.ifCond .eq 5, 3) := by decide +kernel
theorem dX6_gauge_41 : decode mX6_gauge.2.1 41 = .ok (.iconst 0, 1) := by decide +kernel
theorem dX6_gauge_42 : decode mX6_gauge.2.1 42 = .ok (.ireturn, 1) := by decide +kernel
theorem dX6_gauge_43 : decode mX6_gauge.2.1 43 = .ok (.aload_n 0, 1) := by decide +kernel
theorem dX6_gauge_44 : decode mX6_gauge.2.1 44 = .ok (.iload_n 1, 1) := by decide +kernel
theorem dX6_gauge_45 : decode mX6_gauge.2.1 45 = .ok (.bipush 12, 2) := by decide +kernel
theorem dX6_gauge_47 : decode mX6_gauge.2.1 47 = .ok (.invokevirtual 54, 3) := by decide +kernel
theorem dX6_gauge_50 : decode mX6_gauge.2.1 50 = .ok (.istore 4, 2) := by decide +kernel
theorem dX6_gauge_52 : decode mX6_gauge.2.1 52 = .ok (.iload 4, 2) := by decide +kernel
theorem dX6_gauge_54 : decode mX6_gauge.2.1 54 = .ok (.ifCond .lt 13, 3) := by decide +kernel
theorem dX6_gauge_57 : decode mX6_gauge.2.1 57 = .ok (.aload_n 0, 1) := by decide +kernel
theorem dX6_gauge_58 : decode mX6_gauge.2.1 58 = .ok (.getfield 22, 3) := by decide +kernel
theorem dX6_gauge_61 : decode mX6_gauge.2.1 61 = .ok (.iload 4, 2) := by decide +kernel
theorem dX6_gauge_63 : decode mX6_gauge.2.1 63 = .ok (.iaload, 1) := by decide +kernel
theorem dX6_gauge_64 : decode mX6_gauge.2.1 64 = .ok (.ifCond .ge 5, 3) := by decide +kernel
theorem dX6_gauge_67 : decode mX6_gauge.2.1 67 = .ok (.iconst 0, 1) := by decide +kernel
theorem dX6_gauge_68 : decode mX6_gauge.2.1 68 = .ok (.ireturn, 1) := by decide +kernel
theorem dX6_gauge_69 : decode mX6_gauge.2.1 69 = .ok (.aload_n 0, 1) := by decide +kernel
theorem dX6_gauge_70 : decode mX6_gauge.2.1 70 = .ok (.getfield 25, 3) := by decide +kernel
theorem dX6_gauge_73 : decode mX6_gauge.2.1 73 = .ok (.iload 4, 2) := by decide +kernel
theorem dX6_gauge_75 : decode mX6_gauge.2.1 75 = .ok (.iload_n 2, 1) := by decide +kernel
theorem dX6_gauge_76 : decode mX6_gauge.2.1 76 = .ok (.iastore, 1) := by decide +kernel
theorem dX6_gauge_77 : decode mX6_gauge.2.1 77 = .ok (.aload_n 0, 1) := by decide +kernel
theorem dX6_gauge_78 : decode mX6_gauge.2.1 78 = .ok (.getfield 28, 3) := by decide +kernel
theorem dX6_gauge_81 : decode mX6_gauge.2.1 81 = .ok (.iload 4, 2) := by decide +kernel
theorem dX6_gauge_83 : decode mX6_gauge.2.1 83 = .ok (.iload_n 3, 1) := by decide +kernel
theorem dX6_gauge_84 : decode mX6_gauge.2.1 84 = .ok (.iastore, 1) := by decide +kernel
theorem dX6_gauge_85 : decode mX6_gauge.2.1 85 = .ok (.iconst 1, 1) := by decide +kernel
theorem dX6_gauge_86 : decode mX6_gauge.2.1 86 = .ok (.ireturn, 1) := by decide +kernel
theorem dX6_wind_0 : decode mX6_wind.2.1 0 = .ok (.aload_n 0, 1) := by decide +kernel
theorem dX6_wind_1 : decode mX6_wind.2.1 1 = .ok (.iload_n 1, 1) := by decide +kernel
theorem dX6_wind_2 : decode mX6_wind.2.1 2 = .ok (.iconst 0, 1) := by decide +kernel
theorem dX6_wind_3 : decode mX6_wind.2.1 3 = .ok (.sipush 1000, 3) := by decide +kernel
theorem dX6_wind_6 : decode mX6_wind.2.1 6 = .ok (.invokestatic 50, 3) := by decide +kernel
theorem dX6_wind_9 : decode mX6_wind.2.1 9 = .ok (.ifCond .ne 7, 3) := by decide +kernel
theorem dX6_wind_12 : decode mX6_wind.2.1 12 = .ok (.iconst 1, 1) := by decide +kernel
theorem dX6_wind_13 : decode mX6_wind.2.1 13 = .ok (.goto 4, 3) := by decide +kernel
theorem dX6_wind_16 : decode mX6_wind.2.1 16 = .ok (.iconst 0, 1) := by decide +kernel
theorem dX6_wind_17 : decode mX6_wind.2.1 17 = .ok (.invokevirtual 62, 3) := by decide +kernel
theorem dX6_wind_20 : decode mX6_wind.2.1 20 = .ok (.ifCond .eq 4, 3) := by decide +kernel
theorem dX6_wind_23 : decode mX6_wind.2.1 23 = .ok (.return_, 1) := by decide +kernel
theorem dX6_wind_24 : decode mX6_wind.2.1 24 = .ok (.aload_n 0, 1) := by decide +kernel
theorem dX6_wind_25 : decode mX6_wind.2.1 25 = .ok (.getfield 40, 3) := by decide +kernel
theorem dX6_wind_28 : decode mX6_wind.2.1 28 = .ok (.aload_n 0, 1) := by decide +kernel
theorem dX6_wind_29 : decode mX6_wind.2.1 29 = .ok (.getfield 82, 3) := by decide +kernel
theorem dX6_wind_32 : decode mX6_wind.2.1 32 = .ok (.iconst 5, 1) := by decide +kernel
theorem dX6_wind_33 : decode mX6_wind.2.1 33 = .ok (.irem, 1) := by decide +kernel
theorem dX6_wind_34 : decode mX6_wind.2.1 34 = .ok (.iload_n 1, 1) := by decide +kernel
theorem dX6_wind_35 : decode mX6_wind.2.1 35 = .ok (.iastore, 1) := by decide +kernel
theorem dX6_wind_36 : decode mX6_wind.2.1 36 = .ok (.aload_n 0, 1) := by decide +kernel
theorem dX6_wind_37 : decode mX6_wind.2.1 37 = .ok (.dup, 1) := by decide +kernel
theorem dX6_wind_38 : decode mX6_wind.2.1 38 = .ok (.getfield 82, 3) := by decide +kernel
theorem dX6_wind_41 : decode mX6_wind.2.1 41 = .ok (.iconst 1, 1) := by decide +kernel
theorem dX6_wind_42 : decode mX6_wind.2.1 42 = .ok (.iadd, 1) := by decide +kernel
theorem dX6_wind_43 : decode mX6_wind.2.1 43 = .ok (.putfield 82, 3) := by decide +kernel
theorem dX6_wind_46 : decode mX6_wind.2.1 46 = .ok (.return_, 1) := by decide +kernel
end
section
/-! decode rows -/
theorem dX6_drive_0 : decode mX6_drive.2.1 0 = .ok (.aload_n 0, 1) := by decide +kernel
theorem dX6_drive_1 : decode mX6_drive.2.1 1 = .ok (.iload_n 1, 1) := by decide +kernel
theorem dX6_drive_2 : decode mX6_drive.2.1 2 = .ok (.iconst 0, 1) := by decide +kernel
theorem dX6_drive_3 : decode mX6_drive.2.1 3 = .ok (.iconst 5, 1) := by decide +kernel
theorem dX6_drive_4 : decode mX6_drive.2.1 4 = .ok (.invokestatic 50, 3) := by decide +kernel
theorem dX6_drive_7 : decode mX6_drive.2.1 7 = .ok (.ifCond .ne 7, 3) := by decide +kernel
theorem dX6_drive_10 : decode mX6_drive.2.1 10 = .ok (.iconst 1, 1) := by decide +kernel
theorem dX6_drive_11 : decode mX6_drive.2.1 11 = .ok (.goto 4, 3) := by decide +kernel
theorem dX6_drive_14 : decode mX6_drive.2.1 14 = .ok (.iconst 0, 1) := by decide +kernel
theorem dX6_drive_15 : decode mX6_drive.2.1 15 = .ok (.invokevirtual 62, 3) := by decide +kernel
theorem dX6_drive_18 : decode mX6_drive.2.1 18 = .ok (.ifCond .ne 10, 3) := by decide +kernel
theorem dX6_drive_21 : decode mX6_drive.2.1 21 = .ok (.aload_n 0, 1) := by decide +kernel
theorem dX6_drive_22 : decode mX6_drive.2.1 22 = .ok (.getfield 73, 3) := by decide +kernel
theorem dX6_drive_25 : decode mX6_drive.2.1 25 = .ok (.ifCond .eq 5, 3) := by decide +kernel
theorem dX6_drive_28 : decode mX6_drive.2.1 28 = .ok (.iconst 0, 1) := by decide +kernel
theorem dX6_drive_29 : decode mX6_drive.2.1 29 = .ok (.ireturn, 1) := by decide +kernel
theorem dX6_drive_30 : decode mX6_drive.2.1 30 = .ok (.aload_n 0, 1) := by decide +kernel
theorem dX6_drive_31 : decode mX6_drive.2.1 31 = .ok (.iload_n 1, 1) := by decide +kernel
theorem dX6_drive_32 : decode mX6_drive.2.1 32 = .ok (.putfield 111, 3) := by decide +kernel
theorem dX6_drive_35 : decode mX6_drive.2.1 35 = .ok (.iconst 1, 1) := by decide +kernel
theorem dX6_drive_36 : decode mX6_drive.2.1 36 = .ok (.ireturn, 1) := by decide +kernel
theorem dX6_bring_0 : decode mX6_bring.2.1 0 = .ok (.aload_n 0, 1) := by decide +kernel
theorem dX6_bring_1 : decode mX6_bring.2.1 1 = .ok (.iload_n 1, 1) := by decide +kernel
theorem dX6_bring_2 : decode mX6_bring.2.1 2 = .ok (.invokestatic 126, 3) := by decide +kernel
theorem dX6_bring_5 : decode mX6_bring.2.1 5 = .ok (.ifCond .ne 7, 3) := by decide +kernel
theorem dX6_bring_8 : decode mX6_bring.2.1 8 = .ok (.iconst 1, 1) := by decide +kernel
theorem dX6_bring_9 : decode mX6_bring.2.1 9 = .ok (.goto 4, 3) := by decide +kernel
theorem dX6_bring_12 : decode mX6_bring.2.1 12 = .ok (.iconst 0, 1) := by decide +kernel
theorem dX6_bring_13 : decode mX6_bring.2.1 13 = .ok (.invokevirtual 62, 3) := by decide +kernel
theorem dX6_bring_16 : decode mX6_bring.2.1 16 = .ok (.ifCond .ne 21, 3) := by decide +kernel
theorem dX6_bring_19 : decode mX6_bring.2.1 19 = .ok (.aload_n 0, 1) := by decide +kernel
theorem dX6_bring_20 : decode mX6_bring.2.1 20 = .ok (.getfield 7, 3) := by decide +kernel
theorem dX6_bring_23 : decode mX6_bring.2.1 23 = .ok (.iload_n 1, 1) := by decide +kernel
theorem dX6_bring_24 : decode mX6_bring.2.1 24 = .ok (.iaload, 1) := by decide +kernel
theorem dX6_bring_25 : decode mX6_bring.2.1 25 = .ok (.ifCond .ne 12, 3) := by decide +kernel
theorem dX6_bring_28 : decode mX6_bring.2.1 28 = .ok (.aload_n 0, 1) := by decide +kernel
theorem dX6_bring_29 : decode mX6_bring.2.1 29 = .ok (.getfield 79, 3) := by decide +kernel
theorem dX6_bring_32 : decode mX6_bring.2.1 32 = .ok (.bipush 20, 2) := by decide +kernel
theorem dX6_bring_34 : decode mX6_bring.2.1 34 = .ok (.if_icmp .ne 5, 3) := by decide +kernel
theorem dX6_bring_37 : decode mX6_bring.2.1 37 = .ok (.iconst 0, 1) := by decide +kernel
theorem dX6_bring_38 : decode mX6_bring.2.1 38 = .ok (.ireturn, 1) := by decide +kernel
theorem dX6_bring_39 : decode mX6_bring.2.1 39 = .ok (.aload_n 0, 1) := by decide +kernel
theorem dX6_bring_40 : decode mX6_bring.2.1 40 = .ok (.iload_n 1, 1) := by decide +kernel
theorem dX6_bring_41 : decode mX6_bring.2.1 41 = .ok (.invokevirtual 89, 3) := by decide +kernel
theorem dX6_bring_44 : decode mX6_bring.2.1 44 = .ok (.iconst 1, 1) := by decide +kernel
theorem dX6_bring_45 : decode mX6_bring.2.1 45 = .ok (.ireturn, 1) := by decide +kernel
theorem dX6_putOn_0 : decode mX6_putOn.2.1 0 = .ok (.aload_n 0, 1) := by decide +kernel
theorem dX6_putOn_1 : decode mX6_putOn.2.1 1 = .ok (.iload_n 1, 1) := by decide +kernel
theorem dX6_putOn_2 : decode mX6_putOn.2.1 2 = .ok (.invokestatic 123, 3) := by decide +kernel
theorem dX6_putOn_5 : decode mX6_putOn.2.1 5 = .ok (.ifCond .eq 10, 3) := by decide +kernel
theorem dX6_putOn_8 : decode mX6_putOn.2.1 8 = .ok (.iload_n 2, 1) := by decide +kernel
theorem dX6_putOn_9 : decode mX6_putOn.2.1 9 = .ok (.invokestatic 126, 3) := by decide +kernel
theorem dX6_putOn_12 : decode mX6_putOn.2.1 12 = .ok (.ifCond .ne 7, 3) := by decide +kernel
theorem dX6_putOn_15 : decode mX6_putOn.2.1 15 = .ok (.iconst 1, 1) := by decide +kernel
theorem dX6_putOn_16 : decode mX6_putOn.2.1 16 = .ok (.goto 4, 3) := by decide +kernel
theorem dX6_putOn_19 : decode mX6_putOn.2.1 19 = .ok (.iconst 0, 1) := by decide +kernel
theorem dX6_putOn_20 : decode mX6_putOn.2.1 20 = .ok (.invokevirtual 62, 3) := by decide +kernel
theorem dX6_putOn_23 : decode mX6_putOn.2.1 23 = .ok (.ifCond .ne 31, 3) := by decide +kernel
theorem dX6_putOn_26 : decode mX6_putOn.2.1 26 = .ok (.aload_n 0, 1) := by decide +kernel
theorem dX6_putOn_27 : decode mX6_putOn.2.1 27 = .ok (.getfield 7, 3) := by decide +kernel
theorem dX6_putOn_30 : decode mX6_putOn.2.1 30 = .ok (.iload_n 2, 1) := by decide +kernel
theorem dX6_putOn_31 : decode mX6_putOn.2.1 31 = .ok (.iaload, 1) := by decide +kernel
theorem dX6_putOn_32 : decode mX6_putOn.2.1 32 = .ok (.iconst 1, 1) := by decide +kernel
theorem dX6_putOn_33 : decode mX6_putOn.2.1 33 = .ok (.if_icmp .ne 21, 3) := by decide +kernel
theorem dX6_putOn_36 : decode mX6_putOn.2.1 36 = .ok (.aload_n 0, 1) := by decide +kernel
theorem dX6_putOn_37 : decode mX6_putOn.2.1 37 = .ok (.iconst 2, 1) := by decide +kernel
theorem dX6_putOn_38 : decode mX6_putOn.2.1 38 = .ok (.invokevirtual 129, 3) := by decide +kernel
theorem dX6_putOn_41 : decode mX6_putOn.2.1 41 = .ok (.aload_n 0, 1) := by decide +kernel
theorem dX6_putOn_42 : decode mX6_putOn.2.1 42 = .ok (.iconst 3, 1) := by decide +kernel
theorem dX6_putOn_43 : decode mX6_putOn.2.1 43 = .ok (.invokevirtual 129, 3) := by decide +kernel
theorem dX6_putOn_46 : decode mX6_putOn.2.1 46 = .ok (.iadd, 1) := by decide +kernel
theorem dX6_putOn_47 : decode mX6_putOn.2.1 47 = .ok (.aload_n 0, 1) := by decide +kernel
theorem dX6_putOn_48 : decode mX6_putOn.2.1 48 = .ok (.getfield 43, 3) := by decide +kernel
theorem dX6_putOn_51 : decode mX6_putOn.2.1 51 = .ok (.if_icmp .lt 5, 3) := by decide +kernel
theorem dX6_putOn_54 : decode mX6_putOn.2.1 54 = .ok (.iconst 0, 1) := by decide +kernel
theorem dX6_putOn_55 : decode mX6_putOn.2.1 55 = .ok (.ireturn, 1) := by decide +kernel
theorem dX6_putOn_56 : decode mX6_putOn.2.1 56 = .ok (.iconst 1, 1) := by decide +kernel
theorem dX6_putOn_57 : decode mX6_putOn.2.1 57 = .ok (.istore_n 3, 1) := by decide +kernel
theorem dX6_putOn_58 : decode mX6_putOn.2.1 58 = .ok (.iload_n 3, 1) := by decide +kernel
theorem dX6_putOn_59 : decode mX6_putOn.2.1 59 = .ok (.bipush 6, 2) := by decide +kernel
theorem dX6_putOn_61 : decode mX6_putOn.2.1 61 = .ok (.if_icmp .ge 20, 3) := by decide +kernel
theorem dX6_putOn_64 : decode mX6_putOn.2.1 64 = .ok (.aload_n 0, 1) := by decide +kernel
theorem dX6_putOn_65 : decode mX6_putOn.2.1 65 = .ok (.iload_n 1, 1) := by decide +kernel
theorem dX6_putOn_66 : decode mX6_putOn.2.1 66 = .ok (.iload_n 3, 1) := by decide +kernel
theorem dX6_putOn_67 : decode mX6_putOn.2.1 67 = .ok (.invokevirtual 54, 3) := by decide +kernel
theorem dX6_putOn_70 : decode mX6_putOn.2.1 70 = .ok (.ifCond .lt 5, 3) := by decide +kernel
theorem dX6_putOn_73 : decode mX6_putOn.2.1 73 = .ok (.iconst 0, 1) := by decide +kernel
theorem dX6_putOn_74 : decode mX6_putOn.2.1 74 = .ok (.ireturn, 1) := by decide +kernel
theorem dX6_putOn_75 : decode mX6_putOn.2.1 75 = .ok (.iinc 3 1, 3) := by decide +kernel
theorem dX6_putOn_78 : decode mX6_putOn.2.1 78 = .ok (.goto (-20), 3) := by decide +kernel
theorem dX6_putOn_81 : decode mX6_putOn.2.1 81 = .ok (.aload_n 0, 1) := by decide +kernel
theorem dX6_putOn_82 : decode mX6_putOn.2.1 82 = .ok (.iload_n 2, 1) := by decide +kernel
theorem dX6_putOn_83 : decode mX6_putOn.2.1 83 = .ok (.invokevirtual 132, 3) := by decide +kernel
theorem dX6_putOn_86 : decode mX6_putOn.2.1 86 = .ok (.aload_n 0, 1) := by decide +kernel
theorem dX6_putOn_87 : decode mX6_putOn.2.1 87 = .ok (.iload_n 2, 1) := by decide +kernel
theorem dX6_putOn_88 : decode mX6_putOn.2.1 88 = .ok (.iload_n 1, 1) := by decide +kernel
theorem dX6_putOn_89 : decode mX6_putOn.2.1 89 = .ok (.iconst 5, 1) := by decide +kernel
theorem dX6_putOn_90 : decode mX6_putOn.2.1 90 = .ok (.invokevirtual 58, 3) := by decide +kernel
theorem dX6_putOn_93 : decode mX6_putOn.2.1 93 = .ok (.iconst 1, 1) := by decide +kernel
theorem dX6_putOn_94 : decode mX6_putOn.2.1 94 = .ok (.ireturn, 1) := by decide +kernel
theorem dX6_takeOff_0 : decode mX6_takeOff.2.1 0 = .ok (.aload_n 0, 1) := by decide +kernel
theorem dX6_takeOff_1 : decode mX6_takeOff.2.1 1 = .ok (.iload_n 1, 1) := by decide +kernel
theorem dX6_takeOff_2 : decode mX6_takeOff.2.1 2 = .ok (.invokestatic 123, 3) := by decide +kernel
theorem dX6_takeOff_5 : decode mX6_takeOff.2.1 5 = .ok (.ifCond .eq 10, 3) := by decide +kernel
theorem dX6_takeOff_8 : decode mX6_takeOff.2.1 8 = .ok (.iload_n 2, 1) := by decide +kernel
theorem dX6_takeOff_9 : decode mX6_takeOff.2.1 9 = .ok (.invokestatic 126, 3) := by decide +kernel
theorem dX6_takeOff_12 : decode mX6_takeOff.2.1 12 = .ok (.ifCond .ne 7, 3) := by decide +kernel
theorem dX6_takeOff_15 : decode mX6_takeOff.2.1 15 = .ok (.iconst 1, 1) := by decide +kernel
theorem dX6_takeOff_16 : decode mX6_takeOff.2.1 16 = .ok (.goto 4, 3) := by decide +kernel
theorem dX6_takeOff_19 : decode mX6_takeOff.2.1 19 = .ok (.iconst 0, 1) := by decide +kernel
theorem dX6_takeOff_20 : decode mX6_takeOff.2.1 20 = .ok (.invokevirtual 62, 3) := by decide +kernel
theorem dX6_takeOff_23 : decode mX6_takeOff.2.1 23 = .ok (.ifCond .ne 47, 3) := by decide +kernel
theorem dX6_takeOff_26 : decode mX6_takeOff.2.1 26 = .ok (.aload_n 0, 1) := by decide +kernel
theorem dX6_takeOff_27 : decode mX6_takeOff.2.1 27 = .ok (.getfield 7, 3) := by decide +kernel
theorem dX6_takeOff_30 : decode mX6_takeOff.2.1 30 = .ok (.iload_n 2, 1) := by decide +kernel
theorem dX6_takeOff_31 : decode mX6_takeOff.2.1 31 = .ok (.iaload, 1) := by decide +kernel
theorem dX6_takeOff_32 : decode mX6_takeOff.2.1 32 = .ok (.iconst 2, 1) := by decide +kernel
theorem dX6_takeOff_33 : decode mX6_takeOff.2.1 33 = .ok (.if_icmp .ne 37, 3) := by decide +kernel
theorem dX6_takeOff_36 : decode mX6_takeOff.2.1 36 = .ok (.aload_n 0, 1) := by decide +kernel
theorem dX6_takeOff_37 : decode mX6_takeOff.2.1 37 = .ok (.getfield 16, 3) := by decide +kernel
theorem dX6_takeOff_40 : decode mX6_takeOff.2.1 40 = .ok (.iload_n 2, 1) := by decide +kernel
theorem dX6_takeOff_41 : decode mX6_takeOff.2.1 41 = .ok (.iaload, 1) := by decide +kernel
theorem dX6_takeOff_42 : decode mX6_takeOff.2.1 42 = .ok (.iload_n 1, 1) := by decide +kernel
theorem dX6_takeOff_43 : decode mX6_takeOff.2.1 43 = .ok (.if_icmp .ne 27, 3) := by decide +kernel
theorem dX6_takeOff_46 : decode mX6_takeOff.2.1 46 = .ok (.aload_n 0, 1) := by decide +kernel
theorem dX6_takeOff_47 : decode mX6_takeOff.2.1 47 = .ok (.getfield 13, 3) := by decide +kernel
theorem dX6_takeOff_50 : decode mX6_takeOff.2.1 50 = .ok (.iload_n 2, 1) := by decide +kernel
theorem dX6_takeOff_51 : decode mX6_takeOff.2.1 51 = .ok (.iaload, 1) := by decide +kernel
theorem dX6_takeOff_52 : decode mX6_takeOff.2.1 52 = .ok (.iconst 5, 1) := by decide +kernel
theorem dX6_takeOff_53 : decode mX6_takeOff.2.1 53 = .ok (.bipush 8, 2) := by decide +kernel
theorem dX6_takeOff_55 : decode mX6_takeOff.2.1 55 = .ok (.invokestatic 50, 3) := by decide +kernel
theorem dX6_takeOff_58 : decode mX6_takeOff.2.1 58 = .ok (.ifCond .eq 12, 3) := by decide +kernel
theorem dX6_takeOff_61 : decode mX6_takeOff.2.1 61 = .ok (.aload_n 0, 1) := by decide +kernel
theorem dX6_takeOff_62 : decode mX6_takeOff.2.1 62 = .ok (.getfield 79, 3) := by decide +kernel
theorem dX6_takeOff_65 : decode mX6_takeOff.2.1 65 = .ok (.bipush 20, 2) := by decide +kernel
theorem dX6_takeOff_67 : decode mX6_takeOff.2.1 67 = .ok (.if_icmp .ne 5, 3) := by decide +kernel
theorem dX6_takeOff_70 : decode mX6_takeOff.2.1 70 = .ok (.iconst 0, 1) := by decide +kernel
theorem dX6_takeOff_71 : decode mX6_takeOff.2.1 71 = .ok (.ireturn, 1) := by decide +kernel
theorem dX6_takeOff_72 : decode mX6_takeOff.2.1 72 = .ok (.aload_n 0, 1) := by decide +kernel
theorem dX6_takeOff_73 : decode mX6_takeOff.2.1 73 = .ok (.iload_n 2, 1) := by decide +kernel
theorem dX6_takeOff_74 : decode mX6_takeOff.2.1 74 = .ok (.invokevirtual 89, 3) := by decide +kernel
theorem dX6_takeOff_77 : decode mX6_takeOff.2.1 77 = .ok (.iconst 1, 1) := by decide +kernel
theorem dX6_takeOff_78 : decode mX6_takeOff.2.1 78 = .ok (.ireturn, 1) := by decide +kernel
theorem dX6_plan_0 : decode mX6_plan.2.1 0 = .ok (.aload_n 0, 1) := by decide +kernel
theorem dX6_plan_1 : decode mX6_plan.2.1 1 = .ok (.iload_n 1, 1) := by decide +kernel
theorem dX6_plan_2 : decode mX6_plan.2.1 2 = .ok (.iconst 1, 1) := by decide +kernel
theorem dX6_plan_3 : decode mX6_plan.2.1 3 = .ok (.sipush 900, 3) := by decide +kernel
theorem dX6_plan_6 : decode mX6_plan.2.1 6 = .ok (.invokestatic 50, 3) := by decide +kernel
theorem dX6_plan_9 : decode mX6_plan.2.1 9 = .ok (.ifCond .ne 7, 3) := by decide +kernel
theorem dX6_plan_12 : decode mX6_plan.2.1 12 = .ok (.iconst 1, 1) := by decide +kernel
theorem dX6_plan_13 : decode mX6_plan.2.1 13 = .ok (.goto 4, 3) := by decide +kernel
theorem dX6_plan_16 : decode mX6_plan.2.1 16 = .ok (.iconst 0, 1) := by decide +kernel
theorem dX6_plan_17 : decode mX6_plan.2.1 17 = .ok (.invokevirtual 62, 3) := by decide +kernel
theorem dX6_plan_20 : decode mX6_plan.2.1 20 = .ok (.ifCond .eq 5, 3) := by decide +kernel
theorem dX6_plan_23 : decode mX6_plan.2.1 23 = .ok (.iconst 0, 1) := by decide +kernel
theorem dX6_plan_24 : decode mX6_plan.2.1 24 = .ok (.ireturn, 1) := by decide +kernel
theorem dX6_plan_25 : decode mX6_plan.2.1 25 = .ok (.aload_n 0, 1) := by decide +kernel
theorem dX6_plan_26 : decode mX6_plan.2.1 26 = .ok (.iconst 1, 1) := by decide +kernel
theorem dX6_plan_27 : decode mX6_plan.2.1 27 = .ok (.putfield 43, 3) := by decide +kernel
theorem dX6_plan_30 : decode mX6_plan.2.1 30 = .ok (.bipush 15, 2) := by decide +kernel
theorem dX6_plan_32 : decode mX6_plan.2.1 32 = .ok (.aload_n 0, 1) := by decide +kernel
theorem dX6_plan_33 : decode mX6_plan.2.1 33 = .ok (.getfield 43, 3) := by decide +kernel
theorem dX6_plan_36 : decode mX6_plan.2.1 36 = .ok (.imul, 1) := by decide +kernel
theorem dX6_plan_37 : decode mX6_plan.2.1 37 = .ok (.iload_n 1, 1) := by decide +kernel
theorem dX6_plan_38 : decode mX6_plan.2.1 38 = .ok (.if_icmp .ge 16, 3) := by decide +kernel
theorem dX6_plan_41 : decode mX6_plan.2.1 41 = .ok (.aload_n 0, 1) := by decide +kernel
theorem dX6_plan_42 : decode mX6_plan.2.1 42 = .ok (.dup, 1) := by decide +kernel
theorem dX6_plan_43 : decode mX6_plan.2.1 43 = .ok (.getfield 43, 3) := by decide +kernel
theorem dX6_plan_46 : decode mX6_plan.2.1 46 = .ok (.iconst 1, 1) := by decide +kernel
theorem dX6_plan_47 : decode mX6_plan.2.1 47 = .ok (.iadd, 1) := by decide +kernel
theorem dX6_plan_48 : decode mX6_plan.2.1 48 = .ok (.putfield 43, 3) := by decide +kernel
theorem dX6_plan_51 : decode mX6_plan.2.1 51 = .ok (.goto (-21), 3) := by decide +kernel
theorem dX6_plan_54 : decode mX6_plan.2.1 54 = .ok (.aload_n 0, 1) := by decide +kernel
theorem dX6_plan_55 : decode mX6_plan.2.1 55 = .ok (.getfield 43, 3) := by decide +kernel
theorem dX6_plan_58 : decode mX6_plan.2.1 58 = .ok (.ireturn, 1) := by decide +kernel
theorem dX6_release_0 : decode mX6_release.2.1 0 = .ok (.aload_n 0, 1) := by decide +kernel
theorem dX6_release_1 : decode mX6_release.2.1 1 = .ok (.iload_n 1, 1) := by decide +kernel
theorem dX6_release_2 : decode mX6_release.2.1 2 = .ok (.iconst 0, 1) := by decide +kernel
theorem dX6_release_3 : decode mX6_release.2.1 3 = .ok (.iconst 3, 1) := by decide +kernel
theorem dX6_release_4 : decode mX6_release.2.1 4 = .ok (.invokestatic 50, 3) := by decide +kernel
theorem dX6_release_7 : decode mX6_release.2.1 7 = .ok (.ifCond .ne 7, 3) := by decide +kernel
theorem dX6_release_10 : decode mX6_release.2.1 10 = .ok (.iconst 1, 1) := by decide +kernel
theorem dX6_release_11 : decode mX6_release.2.1 11 = .ok (.goto 4, 3) := by decide +kernel
theorem dX6_release_14 : decode mX6_release.2.1 14 = .ok (.iconst 0, 1) := by decide +kernel
theorem dX6_release_15 : decode mX6_release.2.1 15 = .ok (.invokevirtual 62, 3) := by decide +kernel
theorem dX6_release_18 : decode mX6_release.2.1 18 = .ok (.ifCond .ne 14, 3) := by decide +kernel
theorem dX6_release_21 : decode mX6_release.2.1 21 = .ok (.aload_n 0, 1) := by decide +kernel
theorem dX6_release_22 : decode mX6_release.2.1 22 = .ok (.getfield 73, 3) := by decide +kernel
theorem dX6_release_25 : decode mX6_release.2.1 25 = .ok (.iload_n 1, 1) := by decide +kernel
theorem dX6_release_26 : decode mX6_release.2.1 26 = .ok (.ishr, 1) := by decide +kernel
theorem dX6_release_27 : decode mX6_release.2.1 27 = .ok (.iconst 1, 1) := by decide +kernel
theorem dX6_release_28 : decode mX6_release.2.1 28 = .ok (.iand, 1) := by decide +kernel
theorem dX6_release_29 : decode mX6_release.2.1 29 = .ok (.ifCond .ne 5, 3) := by decide +kernel
theorem dX6_release_32 : decode mX6_release.2.1 32 = .ok (.iconst 0, 1) := by decide +kernel
theorem dX6_release_33 : decode mX6_release.2.1 33 = .ok (.ireturn, 1) := by decide +kernel
theorem dX6_release_34 : decode mX6_release.2.1 34 = .ok (.iload_n 1, 1) := by decide +kernel
theorem dX6_release_35 : decode mX6_release.2.1 35 = .ok (.iconst 1, 1) := by decide +kernel
theorem dX6_release_36 : decode mX6_release.2.1 36 = .ok (.if_icmp .ne 12, 3) := by decide +kernel
theorem dX6_release_39 : decode mX6_release.2.1 39 = .ok (.aload_n 0, 1) := by decide +kernel
theorem dX6_release_40 : decode mX6_release.2.1 40 = .ok (.getfield 79, 3) := by decide +kernel
theorem dX6_release_43 : decode mX6_release.2.1 43 = .ok (.bipush 20, 2) := by decide +kernel
theorem dX6_release_45 : decode mX6_release.2.1 45 = .ok (.if_icmp .eq 30, 3) := by decide +kernel
theorem dX6_release_48 : decode mX6_release.2.1 48 = .ok (.iload_n 1, 1) := by decide +kernel
theorem dX6_release_49 : decode mX6_release.2.1 49 = .ok (.iconst 2, 1) := by decide +kernel
theorem dX6_release_50 : decode mX6_release.2.1 50 = .ok (.if_icmp .ne 13, 3) := by decide +kernel
theorem dX6_release_53 : decode mX6_release.2.1 53 = .ok (.aload_n 0, 1) := by decide +kernel
theorem dX6_release_54 : decode mX6_release.2.1 54 = .ok (.invokevirtual 100, 3) := by decide +kernel
theorem dX6_release_57 : decode mX6_release.2.1 57 = .ok (.sipush 250, 3) := by decide +kernel
theorem dX6_release_60 : decode mX6_release.2.1 60 = .ok (.if_icmp .gt 15, 3) := by decide +kernel
theorem dX6_release_63 : decode mX6_release.2.1 63 = .ok (.iload_n 1, 1) := by decide +kernel
theorem dX6_release_64 : decode mX6_release.2.1 64 = .ok (.iconst 3, 1) := by decide +kernel
theorem dX6_release_65 : decode mX6_release.2.1 65 = .ok (.if_icmp .ne 12, 3) := by decide +kernel
theorem dX6_release_68 : decode mX6_release.2.1 68 = .ok (.aload_n 0, 1) := by decide +kernel
theorem dX6_release_69 : decode mX6_release.2.1 69 = .ok (.invokevirtual 69, 3) := by decide +kernel
theorem dX6_release_72 : decode mX6_release.2.1 72 = .ok (.ifCond .eq 5, 3) := by decide +kernel
theorem dX6_release_75 : decode mX6_release.2.1 75 = .ok (.iconst 0, 1) := by decide +kernel
theorem dX6_release_76 : decode mX6_release.2.1 76 = .ok (.ireturn, 1) := by decide +kernel
theorem dX6_release_77 : decode mX6_release.2.1 77 = .ok (.aload_n 0, 1) := by decide +kernel
theorem dX6_release_78 : decode mX6_release.2.1 78 = .ok (.aload_n 0, 1) := by decide +kernel
theorem dX6_release_79 : decode mX6_release.2.1 79 = .ok (.getfield 73, 3) := by decide +kernel
theorem dX6_release_82 : decode mX6_release.2.1 82 = .ok (.iconst 1, 1) := by decide +kernel
theorem dX6_release_83 : decode mX6_release.2.1 83 = .ok (.iload_n 1, 1) := by decide +kernel
theorem dX6_release_84 : decode mX6_release.2.1 84 = .ok (.ishl, 1) := by decide +kernel
theorem dX6_release_85 : decode mX6_release.2.1 85 = .ok (.iconst (-1), 1) := by decide +kernel
theorem dX6_release_86 : decode mX6_release.2.1 86 = .ok (.ixor, 1) := by decide +kernel
theorem dX6_release_87 : decode mX6_release.2.1 87 = .ok (.iand, 1) := by decide +kernel
theorem dX6_release_88 : decode mX6_release.2.1 88 = .ok (.putfield 73, 3) := by decide +kernel
theorem dX6_release_91 : decode mX6_release.2.1 91 = .ok (.iconst 1, 1) := by decide +kernel
theorem dX6_release_92 : decode mX6_release.2.1 92 = .ok (.ireturn, 1) := by decide +kernel
theorem dX6_locks_0 : decode mX6_locks.2.1 0 = .ok (.aload_n 0, 1) := by decide +kernel
theorem dX6_locks_1 : decode mX6_locks.2.1 1 = .ok (.iconst 0, 1) := by decide +kernel
theorem dX6_locks_2 : decode mX6_locks.2.1 2 = .ok (.putfield 47, 3) := by decide +kernel
theorem dX6_locks_5 : decode mX6_locks.2.1 5 = .ok (.aload_n 0, 1) := by decide +kernel
theorem dX6_locks_6 : decode mX6_locks.2.1 6 = .ok (.getfield 73, 3) := by decide +kernel
theorem dX6_locks_9 : decode mX6_locks.2.1 9 = .ok (.ireturn, 1) := by decide +kernel
theorem dX6_placeOf_0 : decode mX6_placeOf.2.1 0 = .ok (.iconst 0, 1) := by decide +kernel
theorem dX6_placeOf_1 : decode mX6_placeOf.2.1 1 = .ok (.istore_n 2, 1) := by decide +kernel
theorem dX6_placeOf_2 : decode mX6_placeOf.2.1 2 = .ok (.aload_n 0, 1) := by decide +kernel
theorem dX6_placeOf_3 : decode mX6_placeOf.2.1 3 = .ok (.getfield 37, 3) := by decide +kernel
theorem dX6_placeOf_6 : decode mX6_placeOf.2.1 6 = .ok (.iload_n 2, 1) := by decide +kernel
theorem dX6_placeOf_7 : decode mX6_placeOf.2.1 7 = .ok (.iaload, 1) := by decide +kernel
theorem dX6_placeOf_8 : decode mX6_placeOf.2.1 8 = .ok (.iload_n 1, 1) := by decide +kernel
theorem dX6_placeOf_9 : decode mX6_placeOf.2.1 9 = .ok (.if_icmp .eq 9, 3) := by decide +kernel
theorem dX6_placeOf_12 : decode mX6_placeOf.2.1 12 = .ok (.iinc 2 1, 3) := by decide +kernel
theorem dX6_placeOf_15 : decode mX6_placeOf.2.1 15 = .ok (.goto (-13), 3) := by decide +kernel
theorem dX6_placeOf_18 : decode mX6_placeOf.2.1 18 = .ok (.iload_n 2, 1) := by decide +kernel
theorem dX6_placeOf_19 : decode mX6_placeOf.2.1 19 = .ok (.ireturn, 1) := by decide +kernel
theorem dX6_hasOpenDoors_0 : decode mX6_hasOpenDoors.2.1 0 = .ok (.aload_n 0, 1) := by decide +kernel
theorem dX6_hasOpenDoors_1 : decode mX6_hasOpenDoors.2.1 1 = .ok (.getfield 7, 3) := by decide +kernel
theorem dX6_hasOpenDoors_4 : decode mX6_hasOpenDoors.2.1 4 = .ok (.iload_n 1, 1) := by decide +kernel
theorem dX6_hasOpenDoors_5 : decode mX6_hasOpenDoors.2.1 5 = .ok (.iaload, 1) := by decide +kernel
theorem dX6_hasOpenDoors_6 : decode mX6_hasOpenDoors.2.1 6 = .ok (.iconst 2, 1) := by decide +kernel
theorem dX6_hasOpenDoors_7 : decode mX6_hasOpenDoors.2.1 7 = .ok (.if_icmp .eq 5, 3) := by decide +kernel
theorem dX6_hasOpenDoors_10 : decode mX6_hasOpenDoors.2.1 10 = .ok (.iconst 0, 1) := by decide +kernel
theorem dX6_hasOpenDoors_11 : decode mX6_hasOpenDoors.2.1 11 = .ok (.ireturn, 1) := by decide +kernel
theorem dX6_hasOpenDoors_12 : decode mX6_hasOpenDoors.2.1 12 = .ok (.aload_n 0, 1) := by decide +kernel
theorem dX6_hasOpenDoors_13 : decode mX6_hasOpenDoors.2.1 13 = .ok (.getfield 13, 3) := by decide +kernel
theorem dX6_hasOpenDoors_16 : decode mX6_hasOpenDoors.2.1 16 = .ok (.iload_n 1, 1) := by decide +kernel
theorem dX6_hasOpenDoors_17 : decode mX6_hasOpenDoors.2.1 17 = .ok (.iaload, 1) := by decide +kernel
theorem dX6_hasOpenDoors_18 : decode mX6_hasOpenDoors.2.1 18 = .ok (.iconst 5, 1) := by decide +kernel
theorem dX6_hasOpenDoors_19 : decode mX6_hasOpenDoors.2.1 19 = .ok (.if_icmp .ne 13, 3) := by decide +kernel
theorem dX6_hasOpenDoors_22 : decode mX6_hasOpenDoors.2.1 22 = .ok (.aload_n 0, 1) := by decide +kernel
theorem dX6_hasOpenDoors_23 : decode mX6_hasOpenDoors.2.1 23 = .ok (.getfield 19, 3) := by decide +kernel
theorem dX6_hasOpenDoors_26 : decode mX6_hasOpenDoors.2.1 26 = .ok (.iload_n 1, 1) := by decide +kernel
theorem dX6_hasOpenDoors_27 : decode mX6_hasOpenDoors.2.1 27 = .ok (.iaload, 1) := by decide +kernel
theorem dX6_hasOpenDoors_28 : decode mX6_hasOpenDoors.2.1 28 = .ok (.iconst 5, 1) := by decide +kernel
theorem dX6_hasOpenDoors_29 : decode mX6_hasOpenDoors.2.1 29 = .ok (.if_icmp .ge 47, 3) := by decide +kernel
theorem dX6_hasOpenDoors_32 : decode mX6_hasOpenDoors.2.1 32 = .ok (.aload_n 0, 1) := by decide +kernel
theorem dX6_hasOpenDoors_33 : decode mX6_hasOpenDoors.2.1 33 = .ok (.getfield 13, 3) := by decide +kernel
theorem dX6_hasOpenDoors_36 : decode mX6_hasOpenDoors.2.1 36 = .ok (.iload_n 1, 1) := by decide +kernel
theorem dX6_hasOpenDoors_37 : decode mX6_hasOpenDoors.2.1 37 = .ok (.iaload, 1) := by decide +kernel
theorem dX6_hasOpenDoors_38 : decode mX6_hasOpenDoors.2.1 38 = .ok (.bipush 6, 2) := by decide +kernel
theorem dX6_hasOpenDoors_40 : decode mX6_hasOpenDoors.2.1 40 = .ok (.if_icmp .eq 36, 3) := by decide +kernel
theorem dX6_hasOpenDoors_43 : decode mX6_hasOpenDoors.2.1 43 = .ok (.aload_n 0, 1) := by decide +kernel
theorem dX6_hasOpenDoors_44 : decode mX6_hasOpenDoors.2.1 44 = .ok (.getfield 13, 3) := by decide +kernel
theorem dX6_hasOpenDoors_47 : decode mX6_hasOpenDoors.2.1 47 = .ok (.iload_n 1, 1) := by decide +kernel
theorem dX6_hasOpenDoors_48 : decode mX6_hasOpenDoors.2.1 48 = .ok (.iaload, 1) := by decide +kernel
theorem dX6_hasOpenDoors_49 : decode mX6_hasOpenDoors.2.1 49 = .ok (.bipush 7, 2) := by decide +kernel
theorem dX6_hasOpenDoors_51 : decode mX6_hasOpenDoors.2.1 51 = .ok (.if_icmp .eq 25, 3) := by decide +kernel
theorem dX6_hasOpenDoors_54 : decode mX6_hasOpenDoors.2.1 54 = .ok (.aload_n 0, 1) := by decide +kernel
theorem dX6_hasOpenDoors_55 : decode mX6_hasOpenDoors.2.1 55 = .ok (.getfield 13, 3) := by decide +kernel
theorem dX6_hasOpenDoors_58 : decode mX6_hasOpenDoors.2.1 58 = .ok (.iload_n 1, 1) := by decide +kernel
theorem dX6_hasOpenDoors_59 : decode mX6_hasOpenDoors.2.1 59 = .ok (.iaload, 1) := by decide +kernel
theorem dX6_hasOpenDoors_60 : decode mX6_hasOpenDoors.2.1 60 = .ok (.bipush 8, 2) := by decide +kernel
theorem dX6_hasOpenDoors_62 : decode mX6_hasOpenDoors.2.1 62 = .ok (.if_icmp .ne 18, 3) := by decide +kernel
theorem dX6_hasOpenDoors_65 : decode mX6_hasOpenDoors.2.1 65 = .ok (.aload_n 0, 1) := by decide +kernel
theorem dX6_hasOpenDoors_66 : decode mX6_hasOpenDoors.2.1 66 = .ok (.getfield 19, 3) := by decide +kernel
theorem dX6_hasOpenDoors_69 : decode mX6_hasOpenDoors.2.1 69 = .ok (.iload_n 1, 1) := by decide +kernel
theorem dX6_hasOpenDoors_70 : decode mX6_hasOpenDoors.2.1 70 = .ok (.iaload, 1) := by decide +kernel
theorem dX6_hasOpenDoors_71 : decode mX6_hasOpenDoors.2.1 71 = .ok (.bipush 10, 2) := by decide +kernel
theorem dX6_hasOpenDoors_73 : decode mX6_hasOpenDoors.2.1 73 = .ok (.if_icmp .ge 7, 3) := by decide +kernel
theorem dX6_hasOpenDoors_76 : decode mX6_hasOpenDoors.2.1 76 = .ok (.iconst 1, 1) := by decide +kernel
theorem dX6_hasOpenDoors_77 : decode mX6_hasOpenDoors.2.1 77 = .ok (.goto 4, 3) := by decide +kernel
theorem dX6_hasOpenDoors_80 : decode mX6_hasOpenDoors.2.1 80 = .ok (.iconst 0, 1) := by decide +kernel
theorem dX6_hasOpenDoors_81 : decode mX6_hasOpenDoors.2.1 81 = .ok (.ireturn, 1) := by decide +kernel
theorem dX6_where_0 : decode mX6_where.2.1 0 = .ok (.aload_n 0, 1) := by decide +kernel
theorem dX6_where_1 : decode mX6_where.2.1 1 = .ok (.iload_n 1, 1) := by decide +kernel
theorem dX6_where_2 : decode mX6_where.2.1 2 = .ok (.invokestatic 126, 3) := by decide +kernel
theorem dX6_where_5 : decode mX6_where.2.1 5 = .ok (.ifCond .ne 7, 3) := by decide +kernel
theorem dX6_where_8 : decode mX6_where.2.1 8 = .ok (.iconst 1, 1) := by decide +kernel
theorem dX6_where_9 : decode mX6_where.2.1 9 = .ok (.goto 4, 3) := by decide +kernel
theorem dX6_where_12 : decode mX6_where.2.1 12 = .ok (.iconst 0, 1) := by decide +kernel
theorem dX6_where_13 : decode mX6_where.2.1 13 = .ok (.invokevirtual 62, 3) := by decide +kernel
theorem dX6_where_16 : decode mX6_where.2.1 16 = .ok (.ifCond .eq 5, 3) := by decide +kernel
theorem dX6_where_19 : decode mX6_where.2.1 19 = .ok (.iconst 0, 1) := by decide +kernel
theorem dX6_where_20 : decode mX6_where.2.1 20 = .ok (.ireturn, 1) := by decide +kernel
theorem dX6_where_21 : decode mX6_where.2.1 21 = .ok (.iload_n 2, 1) := by decide +kernel
theorem dX6_where_22 : decode mX6_where.2.1 22 = .ok (.tableswitch 182 0 7 #[46, 53, 91, 112, 133, 154, 168, 175], 46) := by decide +kernel
theorem dX6_where_68 : decode mX6_where.2.1 68 = .ok (.aload_n 0, 1) := by decide +kernel
theorem dX6_where_69 : decode mX6_where.2.1 69 = .ok (.getfield 7, 3) := by decide +kernel
theorem dX6_where_72 : decode mX6_where.2.1 72 = .ok (.iload_n 1, 1) := by decide +kernel
theorem dX6_where_73 : decode mX6_where.2.1 73 = .ok (.iaload, 1) := by decide +kernel
theorem dX6_where_74 : decode mX6_where.2.1 74 = .ok (.ireturn, 1) := by decide +kernel
theorem dX6_where_75 : decode mX6_where.2.1 75 = .ok (.aload_n 0, 1) := by decide +kernel
theorem dX6_where_76 : decode mX6_where.2.1 76 = .ok (.getfield 7, 3) := by decide +kernel
theorem dX6_where_79 : decode mX6_where.2.1 79 = .ok (.iload_n 1, 1) := by decide +kernel
theorem dX6_where_80 : decode mX6_where.2.1 80 = .ok (.iaload, 1) := by decide +kernel
theorem dX6_where_81 : decode mX6_where.2.1 81 = .ok (.ifCond .ne 7, 3) := by decide +kernel
theorem dX6_where_84 : decode mX6_where.2.1 84 = .ok (.iconst (-1), 1) := by decide +kernel
theorem dX6_where_85 : decode mX6_where.2.1 85 = .ok (.goto 27, 3) := by decide +kernel
theorem dX6_where_88 : decode mX6_where.2.1 88 = .ok (.aload_n 0, 1) := by decide +kernel
theorem dX6_where_89 : decode mX6_where.2.1 89 = .ok (.getfield 7, 3) := by decide +kernel
theorem dX6_where_92 : decode mX6_where.2.1 92 = .ok (.iload_n 1, 1) := by decide +kernel
theorem dX6_where_93 : decode mX6_where.2.1 93 = .ok (.iaload, 1) := by decide +kernel
theorem dX6_where_94 : decode mX6_where.2.1 94 = .ok (.iconst 1, 1) := by decide +kernel
theorem dX6_where_95 : decode mX6_where.2.1 95 = .ok (.if_icmp .ne 11, 3) := by decide +kernel
theorem dX6_where_98 : decode mX6_where.2.1 98 = .ok (.aload_n 0, 1) := by decide +kernel
theorem dX6_where_99 : decode mX6_where.2.1 99 = .ok (.iload_n 1, 1) := by decide +kernel
theorem dX6_where_100 : decode mX6_where.2.1 100 = .ok (.invokevirtual 135, 3) := by decide +kernel
theorem dX6_where_103 : decode mX6_where.2.1 103 = .ok (.goto 9, 3) := by decide +kernel
theorem dX6_where_106 : decode mX6_where.2.1 106 = .ok (.aload_n 0, 1) := by decide +kernel
theorem dX6_where_107 : decode mX6_where.2.1 107 = .ok (.getfield 13, 3) := by decide +kernel
theorem dX6_where_110 : decode mX6_where.2.1 110 = .ok (.iload_n 1, 1) := by decide +kernel
theorem dX6_where_111 : decode mX6_where.2.1 111 = .ok (.iaload, 1) := by decide +kernel
theorem dX6_where_112 : decode mX6_where.2.1 112 = .ok (.ireturn, 1) := by decide +kernel
theorem dX6_where_113 : decode mX6_where.2.1 113 = .ok (.aload_n 0, 1) := by decide +kernel
theorem dX6_where_114 : decode mX6_where.2.1 114 = .ok (.getfield 7, 3) := by decide +kernel
theorem dX6_where_117 : decode mX6_where.2.1 117 = .ok (.iload_n 1, 1) := by decide +kernel
theorem dX6_where_118 : decode mX6_where.2.1 118 = .ok (.iaload, 1) := by decide +kernel
theorem dX6_where_119 : decode mX6_where.2.1 119 = .ok (.iconst 1, 1) := by decide +kernel
theorem dX6_where_120 : decode mX6_where.2.1 120 = .ok (.if_icmp .le 12, 3) := by decide +kernel
theorem dX6_where_123 : decode mX6_where.2.1 123 = .ok (.aload_n 0, 1) := by decide +kernel
theorem dX6_where_124 : decode mX6_where.2.1 124 = .ok (.getfield 16, 3) := by decide +kernel
theorem dX6_where_127 : decode mX6_where.2.1 127 = .ok (.iload_n 1, 1) := by decide +kernel
theorem dX6_where_128 : decode mX6_where.2.1 128 = .ok (.iaload, 1) := by decide +kernel
theorem dX6_where_129 : decode mX6_where.2.1 129 = .ok (.goto 4, 3) := by decide +kernel
theorem dX6_where_132 : decode mX6_where.2.1 132 = .ok (.iconst (-1), 1) := by decide +kernel
theorem dX6_where_133 : decode mX6_where.2.1 133 = .ok (.ireturn, 1) := by decide +kernel
theorem dX6_where_134 : decode mX6_where.2.1 134 = .ok (.aload_n 0, 1) := by decide +kernel
theorem dX6_where_135 : decode mX6_where.2.1 135 = .ok (.getfield 7, 3) := by decide +kernel
theorem dX6_where_138 : decode mX6_where.2.1 138 = .ok (.iload_n 1, 1) := by decide +kernel
theorem dX6_where_139 : decode mX6_where.2.1 139 = .ok (.iaload, 1) := by decide +kernel
theorem dX6_where_140 : decode mX6_where.2.1 140 = .ok (.iconst 2, 1) := by decide +kernel
theorem dX6_where_141 : decode mX6_where.2.1 141 = .ok (.if_icmp .ne 12, 3) := by decide +kernel
theorem dX6_where_144 : decode mX6_where.2.1 144 = .ok (.aload_n 0, 1) := by decide +kernel
theorem dX6_where_145 : decode mX6_where.2.1 145 = .ok (.getfield 19, 3) := by decide +kernel
theorem dX6_where_148 : decode mX6_where.2.1 148 = .ok (.iload_n 1, 1) := by decide +kernel
theorem dX6_where_149 : decode mX6_where.2.1 149 = .ok (.iaload, 1) := by decide +kernel
theorem dX6_where_150 : decode mX6_where.2.1 150 = .ok (.goto 4, 3) := by decide +kernel
theorem dX6_where_153 : decode mX6_where.2.1 153 = .ok (.iconst (-1), 1) := by decide +kernel
theorem dX6_where_154 : decode mX6_where.2.1 154 = .ok (.ireturn, 1) := by decide +kernel
theorem dX6_where_155 : decode mX6_where.2.1 155 = .ok (.aload_n 0, 1) := by decide +kernel
theorem dX6_where_156 : decode mX6_where.2.1 156 = .ok (.getfield 7, 3) := by decide +kernel
theorem dX6_where_159 : decode mX6_where.2.1 159 = .ok (.iload_n 1, 1) := by decide +kernel
theorem dX6_where_160 : decode mX6_where.2.1 160 = .ok (.iaload, 1) := by decide +kernel
theorem dX6_where_161 : decode mX6_where.2.1 161 = .ok (.iconst 2, 1) := by decide +kernel
theorem dX6_where_162 : decode mX6_where.2.1 162 = .ok (.if_icmp .ne 12, 3) := by decide +kernel
theorem dX6_where_165 : decode mX6_where.2.1 165 = .ok (.aload_n 0, 1) := by decide +kernel
theorem dX6_where_166 : decode mX6_where.2.1 166 = .ok (.getfield 22, 3) := by decide +kernel
theorem dX6_where_169 : decode mX6_where.2.1 169 = .ok (.iload_n 1, 1) := by decide +kernel
theorem dX6_where_170 : decode mX6_where.2.1 170 = .ok (.iaload, 1) := by decide +kernel
theorem dX6_where_171 : decode mX6_where.2.1 171 = .ok (.goto 4, 3) := by decide +kernel
theorem dX6_where_174 : decode mX6_where.2.1 174 = .ok (.iconst (-1), 1) := by decide +kernel
theorem dX6_where_175 : decode mX6_where.2.1 175 = .ok (.ireturn, 1) := by decide +kernel
theorem dX6_where_176 : decode mX6_where.2.1 176 = .ok (.aload_n 0, 1) := by decide +kernel
theorem dX6_where_177 : decode mX6_where.2.1 177 = .ok (.iload_n 1, 1) := by decide +kernel
theorem dX6_where_178 : decode mX6_where.2.1 178 = .ok (.invokevirtual 138, 3) := by decide +kernel
theorem dX6_where_181 : decode mX6_where.2.1 181 = .ok (.ifCond .eq 7, 3) := by decide +kernel
theorem dX6_where_184 : decode mX6_where.2.1 184 = .ok (.iconst 1, 1) := by decide +kernel
theorem dX6_where_185 : decode mX6_where.2.1 185 = .ok (.goto 4, 3) := by decide +kernel
theorem dX6_where_188 : decode mX6_where.2.1 188 = .ok (.iconst 0, 1) := by decide +kernel
theorem dX6_where_189 : decode mX6_where.2.1 189 = .ok (.ireturn, 1) := by decide +kernel
theorem dX6_where_190 : decode mX6_where.2.1 190 = .ok (.aload_n 0, 1) := by decide +kernel
theorem dX6_where_191 : decode mX6_where.2.1 191 = .ok (.getfield 31, 3) := by decide +kernel
theorem dX6_where_194 : decode mX6_where.2.1 194 = .ok (.iload_n 1, 1) := by decide +kernel
theorem dX6_where_195 : decode mX6_where.2.1 195 = .ok (.iaload, 1) := by decide +kernel
theorem dX6_where_196 : decode mX6_where.2.1 196 = .ok (.ireturn, 1) := by decide +kernel
theorem dX6_where_197 : decode mX6_where.2.1 197 = .ok (.aload_n 0, 1) := by decide +kernel
theorem dX6_where_198 : decode mX6_where.2.1 198 = .ok (.getfield 34, 3) := by decide +kernel
theorem dX6_where_201 : decode mX6_where.2.1 201 = .ok (.iload_n 1, 1) := by decide +kernel
theorem dX6_where_202 : decode mX6_where.2.1 202 = .ok (.iaload, 1) := by decide +kernel
theorem dX6_where_203 : decode mX6_where.2.1 203 = .ok (.ireturn, 1) := by decide +kernel
theorem dX6_where_204 : decode mX6_where.2.1 204 = .ok (.iconst (-1), 1) := by decide +kernel
theorem dX6_where_205 : decode mX6_where.2.1 205 = .ok (.ireturn, 1) := by decide +kernel
theorem dX6_gap_0 : decode mX6_gap.2.1 0 = .ok (.aload_n 0, 1) := by decide +kernel
theorem dX6_gap_1 : decode mX6_gap.2.1 1 = .ok (.iload_n 1, 1) := by decide +kernel
theorem dX6_gap_2 : decode mX6_gap.2.1 2 = .ok (.invokestatic 126, 3) := by decide +kernel
theorem dX6_gap_5 : decode mX6_gap.2.1 5 = .ok (.ifCond .ne 7, 3) := by decide +kernel
theorem dX6_gap_8 : decode mX6_gap.2.1 8 = .ok (.iconst 1, 1) := by decide +kernel
theorem dX6_gap_9 : decode mX6_gap.2.1 9 = .ok (.goto 4, 3) := by decide +kernel
theorem dX6_gap_12 : decode mX6_gap.2.1 12 = .ok (.iconst 0, 1) := by decide +kernel
theorem dX6_gap_13 : decode mX6_gap.2.1 13 = .ok (.invokevirtual 62, 3) := by decide +kernel
theorem dX6_gap_16 : decode mX6_gap.2.1 16 = .ok (.ifCond .ne 13, 3) := by decide +kernel
theorem dX6_gap_19 : decode mX6_gap.2.1 19 = .ok (.aload_n 0, 1) := by decide +kernel
theorem dX6_gap_20 : decode mX6_gap.2.1 20 = .ok (.getfield 7, 3) := by decide +kernel
theorem dX6_gap_23 : decode mX6_gap.2.1 23 = .ok (.iload_n 1, 1) := by decide +kernel
theorem dX6_gap_24 : decode mX6_gap.2.1 24 = .ok (.iaload, 1) := by decide +kernel
theorem dX6_gap_25 : decode mX6_gap.2.1 25 = .ok (.iconst 3, 1) := by decide +kernel
theorem dX6_gap_26 : decode mX6_gap.2.1 26 = .ok (.if_icmp .eq 16, 3) := by decide +kernel
theorem dX6_gap_29 : decode mX6_gap.2.1 29 = .ok (.aload_n 0, 1) := by decide +kernel
theorem dX6_gap_30 : decode mX6_gap.2.1 30 = .ok (.getfield 47, 3) := by decide +kernel
theorem dX6_gap_33 : decode mX6_gap.2.1 33 = .ok (.ifCond .le 7, 3) := by decide +kernel
theorem dX6_gap_36 : decode mX6_gap.2.1 36 = .ok (.iconst 0, 1) := by decide +kernel
theorem dX6_gap_37 : decode mX6_gap.2.1 37 = .ok (.goto 4, 3) := by decide +kernel
theorem dX6_gap_40 : decode mX6_gap.2.1 40 = .ok (.iconst (-1), 1) := by decide +kernel
theorem dX6_gap_41 : decode mX6_gap.2.1 41 = .ok (.ireturn, 1) := by decide +kernel
theorem dX6_gap_42 : decode mX6_gap.2.1 42 = .ok (.sipush 12000, 3) := by decide +kernel
theorem dX6_gap_45 : decode mX6_gap.2.1 45 = .ok (.istore_n 2, 1) := by decide +kernel
theorem dX6_gap_46 : decode mX6_gap.2.1 46 = .ok (.iconst 0, 1) := by decide +kernel
theorem dX6_gap_47 : decode mX6_gap.2.1 47 = .ok (.istore_n 3, 1) := by decide +kernel
theorem dX6_gap_48 : decode mX6_gap.2.1 48 = .ok (.iload_n 3, 1) := by decide +kernel
theorem dX6_gap_49 : decode mX6_gap.2.1 49 = .ok (.bipush 60, 2) := by decide +kernel
theorem dX6_gap_51 : decode mX6_gap.2.1 51 = .ok (.if_icmp .ge 90, 3) := by decide +kernel
theorem dX6_gap_54 : decode mX6_gap.2.1 54 = .ok (.aload_n 0, 1) := by decide +kernel
theorem dX6_gap_55 : decode mX6_gap.2.1 55 = .ok (.getfield 7, 3) := by decide +kernel
theorem dX6_gap_58 : decode mX6_gap.2.1 58 = .ok (.iload_n 3, 1) := by decide +kernel
theorem dX6_gap_59 : decode mX6_gap.2.1 59 = .ok (.iaload, 1) := by decide +kernel
theorem dX6_gap_60 : decode mX6_gap.2.1 60 = .ok (.iconst 3, 1) := by decide +kernel
theorem dX6_gap_61 : decode mX6_gap.2.1 61 = .ok (.if_icmp .ne 74, 3) := by decide +kernel
theorem dX6_gap_64 : decode mX6_gap.2.1 64 = .ok (.iload_n 3, 1) := by decide +kernel
theorem dX6_gap_65 : decode mX6_gap.2.1 65 = .ok (.iload_n 1, 1) := by decide +kernel
theorem dX6_gap_66 : decode mX6_gap.2.1 66 = .ok (.if_icmp .ne 6, 3) := by decide +kernel
theorem dX6_gap_69 : decode mX6_gap.2.1 69 = .ok (.goto 66, 3) := by decide +kernel
theorem dX6_gap_72 : decode mX6_gap.2.1 72 = .ok (.sipush 6000, 3) := by decide +kernel
theorem dX6_gap_75 : decode mX6_gap.2.1 75 = .ok (.aload_n 0, 1) := by decide +kernel
theorem dX6_gap_76 : decode mX6_gap.2.1 76 = .ok (.getfield 16, 3) := by decide +kernel
theorem dX6_gap_79 : decode mX6_gap.2.1 79 = .ok (.iload_n 3, 1) := by decide +kernel
theorem dX6_gap_80 : decode mX6_gap.2.1 80 = .ok (.iaload, 1) := by decide +kernel
theorem dX6_gap_81 : decode mX6_gap.2.1 81 = .ok (.imul, 1) := by decide +kernel
theorem dX6_gap_82 : decode mX6_gap.2.1 82 = .ok (.aload_n 0, 1) := by decide +kernel
theorem dX6_gap_83 : decode mX6_gap.2.1 83 = .ok (.getfield 13, 3) := by decide +kernel
theorem dX6_gap_86 : decode mX6_gap.2.1 86 = .ok (.iload_n 3, 1) := by decide +kernel
theorem dX6_gap_87 : decode mX6_gap.2.1 87 = .ok (.iaload, 1) := by decide +kernel
theorem dX6_gap_88 : decode mX6_gap.2.1 88 = .ok (.iadd, 1) := by decide +kernel
theorem dX6_gap_89 : decode mX6_gap.2.1 89 = .ok (.sipush 6000, 3) := by decide +kernel
theorem dX6_gap_92 : decode mX6_gap.2.1 92 = .ok (.aload_n 0, 1) := by decide +kernel
theorem dX6_gap_93 : decode mX6_gap.2.1 93 = .ok (.getfield 16, 3) := by decide +kernel
theorem dX6_gap_96 : decode mX6_gap.2.1 96 = .ok (.iload_n 1, 1) := by decide +kernel
theorem dX6_gap_97 : decode mX6_gap.2.1 97 = .ok (.iaload, 1) := by decide +kernel
theorem dX6_gap_98 : decode mX6_gap.2.1 98 = .ok (.imul, 1) := by decide +kernel
theorem dX6_gap_99 : decode mX6_gap.2.1 99 = .ok (.isub, 1) := by decide +kernel
theorem dX6_gap_100 : decode mX6_gap.2.1 100 = .ok (.aload_n 0, 1) := by decide +kernel
theorem dX6_gap_101 : decode mX6_gap.2.1 101 = .ok (.getfield 13, 3) := by decide +kernel
theorem dX6_gap_104 : decode mX6_gap.2.1 104 = .ok (.iload_n 1, 1) := by decide +kernel
theorem dX6_gap_105 : decode mX6_gap.2.1 105 = .ok (.iaload, 1) := by decide +kernel
theorem dX6_gap_106 : decode mX6_gap.2.1 106 = .ok (.isub, 1) := by decide +kernel
theorem dX6_gap_107 : decode mX6_gap.2.1 107 = .ok (.sipush 12000, 3) := by decide +kernel
theorem dX6_gap_110 : decode mX6_gap.2.1 110 = .ok (.iadd, 1) := by decide +kernel
theorem dX6_gap_111 : decode mX6_gap.2.1 111 = .ok (.sipush 12000, 3) := by decide +kernel
theorem dX6_gap_114 : decode mX6_gap.2.1 114 = .ok (.irem, 1) := by decide +kernel
theorem dX6_gap_115 : decode mX6_gap.2.1 115 = .ok (.istore 4, 2) := by decide +kernel
theorem dX6_gap_117 : decode mX6_gap.2.1 117 = .ok (.iload 4, 2) := by decide +kernel
theorem dX6_gap_119 : decode mX6_gap.2.1 119 = .ok (.ifCond .le 14, 3) := by decide +kernel
theorem dX6_gap_122 : decode mX6_gap.2.1 122 = .ok (.iload 4, 2) := by decide +kernel
theorem dX6_gap_124 : decode mX6_gap.2.1 124 = .ok (.iload_n 2, 1) := by decide +kernel
theorem dX6_gap_125 : decode mX6_gap.2.1 125 = .ok (.if_icmp .ge 8, 3) := by decide +kernel
theorem dX6_gap_128 : decode mX6_gap.2.1 128 = .ok (.iload 4, 2) := by decide +kernel
theorem dX6_gap_130 : decode mX6_gap.2.1 130 = .ok (.goto 4, 3) := by decide +kernel
theorem dX6_gap_133 : decode mX6_gap.2.1 133 = .ok (.iload_n 2, 1) := by decide +kernel
theorem dX6_gap_134 : decode mX6_gap.2.1 134 = .ok (.istore_n 2, 1) := by decide +kernel
theorem dX6_gap_135 : decode mX6_gap.2.1 135 = .ok (.iinc 3 1, 3) := by decide +kernel
theorem dX6_gap_138 : decode mX6_gap.2.1 138 = .ok (.goto (-90), 3) := by decide +kernel
theorem dX6_gap_141 : decode mX6_gap.2.1 141 = .ok (.iload_n 2, 1) := by decide +kernel
theorem dX6_gap_142 : decode mX6_gap.2.1 142 = .ok (.ireturn, 1) := by decide +kernel
theorem dX6_sided_0 : decode mX6_sided.2.1 0 = .ok (.aload_n 0, 1) := by decide +kernel
theorem dX6_sided_1 : decode mX6_sided.2.1 1 = .ok (.iconst 0, 1) := by decide +kernel
theorem dX6_sided_2 : decode mX6_sided.2.1 2 = .ok (.putfield 47, 3) := by decide +kernel
theorem dX6_sided_5 : decode mX6_sided.2.1 5 = .ok (.iload_n 1, 1) := by decide +kernel
theorem dX6_sided_6 : decode mX6_sided.2.1 6 = .ok (.iconst 0, 1) := by decide +kernel
theorem dX6_sided_7 : decode mX6_sided.2.1 7 = .ok (.aload_n 0, 1) := by decide +kernel
theorem dX6_sided_8 : decode mX6_sided.2.1 8 = .ok (.getfield 79, 3) := by decide +kernel
theorem dX6_sided_11 : decode mX6_sided.2.1 11 = .ok (.iconst 1, 1) := by decide +kernel
theorem dX6_sided_12 : decode mX6_sided.2.1 12 = .ok (.isub, 1) := by decide +kernel
theorem dX6_sided_13 : decode mX6_sided.2.1 13 = .ok (.invokestatic 50, 3) := by decide +kernel
theorem dX6_sided_16 : decode mX6_sided.2.1 16 = .ok (.ifCond .eq 12, 3) := by decide +kernel
theorem dX6_sided_19 : decode mX6_sided.2.1 19 = .ok (.aload_n 0, 1) := by decide +kernel
theorem dX6_sided_20 : decode mX6_sided.2.1 20 = .ok (.getfield 37, 3) := by decide +kernel
theorem dX6_sided_23 : decode mX6_sided.2.1 23 = .ok (.iload_n 1, 1) := by decide +kernel
theorem dX6_sided_24 : decode mX6_sided.2.1 24 = .ok (.iaload, 1) := by decide +kernel
theorem dX6_sided_25 : decode mX6_sided.2.1 25 = .ok (.goto 4, 3) := by decide +kernel
theorem dX6_sided_28 : decode mX6_sided.2.1 28 = .ok (.iconst (-1), 1) := by decide +kernel
theorem dX6_sided_29 : decode mX6_sided.2.1 29 = .ok (.ireturn, 1) := by decide +kernel
theorem dX6_state_0 : decode mX6_state.2.1 0 = .ok (.aload_n 0, 1) := by decide +kernel
theorem dX6_state_1 : decode mX6_state.2.1 1 = .ok (.iconst 0, 1) := by decide +kernel
theorem dX6_state_2 : decode mX6_state.2.1 2 = .ok (.putfield 47, 3) := by decide +kernel
theorem dX6_state_5 : decode mX6_state.2.1 5 = .ok (.iload_n 1, 1) := by decide +kernel
theorem dX6_state_6 : decode mX6_state.2.1 6 = .ok (.tableswitch 106 0 9 #[54, 59, 64, 69, 74, 79, 85, 91, 96, 101], 54) := by decide +kernel
theorem dX6_state_60 : decode mX6_state.2.1 60 = .ok (.aload_n 0, 1) := by decide +kernel
theorem dX6_state_61 : decode mX6_state.2.1 61 = .ok (.getfield 114, 3) := by decide +kernel
theorem dX6_state_64 : decode mX6_state.2.1 64 = .ok (.ireturn, 1) := by decide +kernel
theorem dX6_state_65 : decode mX6_state.2.1 65 = .ok (.aload_n 0, 1) := by decide +kernel
theorem dX6_state_66 : decode mX6_state.2.1 66 = .ok (.getfield 111, 3) := by decide +kernel
theorem dX6_state_69 : decode mX6_state.2.1 69 = .ok (.ireturn, 1) := by decide +kernel
theorem dX6_state_70 : decode mX6_state.2.1 70 = .ok (.aload_n 0, 1) := by decide +kernel
theorem dX6_state_71 : decode mX6_state.2.1 71 = .ok (.getfield 43, 3) := by decide +kernel
theorem dX6_state_74 : decode mX6_state.2.1 74 = .ok (.ireturn, 1) := by decide +kernel
theorem dX6_state_75 : decode mX6_state.2.1 75 = .ok (.aload_n 0, 1) := by decide +kernel
theorem dX6_state_76 : decode mX6_state.2.1 76 = .ok (.invokevirtual 100, 3) := by decide +kernel
theorem dX6_state_79 : decode mX6_state.2.1 79 = .ok (.ireturn, 1) := by decide +kernel
theorem dX6_state_80 : decode mX6_state.2.1 80 = .ok (.aload_n 0, 1) := by decide +kernel
theorem dX6_state_81 : decode mX6_state.2.1 81 = .ok (.getfield 79, 3) := by decide +kernel
theorem dX6_state_84 : decode mX6_state.2.1 84 = .ok (.ireturn, 1) := by decide +kernel
theorem dX6_state_85 : decode mX6_state.2.1 85 = .ok (.aload_n 0, 1) := by decide +kernel
theorem dX6_state_86 : decode mX6_state.2.1 86 = .ok (.iconst 3, 1) := by decide +kernel
theorem dX6_state_87 : decode mX6_state.2.1 87 = .ok (.invokevirtual 129, 3) := by decide +kernel
theorem dX6_state_90 : decode mX6_state.2.1 90 = .ok (.ireturn, 1) := by decide +kernel
theorem dX6_state_91 : decode mX6_state.2.1 91 = .ok (.aload_n 0, 1) := by decide +kernel
theorem dX6_state_92 : decode mX6_state.2.1 92 = .ok (.iconst 2, 1) := by decide +kernel
theorem dX6_state_93 : decode mX6_state.2.1 93 = .ok (.invokevirtual 129, 3) := by decide +kernel
theorem dX6_state_96 : decode mX6_state.2.1 96 = .ok (.ireturn, 1) := by decide +kernel
theorem dX6_state_97 : decode mX6_state.2.1 97 = .ok (.aload_n 0, 1) := by decide +kernel
theorem dX6_state_98 : decode mX6_state.2.1 98 = .ok (.invokevirtual 141, 3) := by decide +kernel
theorem dX6_state_101 : decode mX6_state.2.1 101 = .ok (.ireturn, 1) := by decide +kernel
theorem dX6_state_102 : decode mX6_state.2.1 102 = .ok (.aload_n 0, 1) := by decide +kernel
theorem dX6_state_103 : decode mX6_state.2.1 103 = .ok (.getfield 117, 3) := by decide +kernel
theorem dX6_state_106 : decode mX6_state.2.1 106 = .ok (.ireturn, 1) := by decide +kernel
theorem dX6_state_107 : decode mX6_state.2.1 107 = .ok (.aload_n 0, 1) := by decide +kernel
theorem dX6_state_108 : decode mX6_state.2.1 108 = .ok (.getfield 76, 3) := by decide +kernel
theorem dX6_state_111 : decode mX6_state.2.1 111 = .ok (.ireturn, 1) := by decide +kernel
theorem dX6_state_112 : decode mX6_state.2.1 112 = .ok (.iconst (-1), 1) := by decide +kernel
theorem dX6_state_113 : decode mX6_state.2.1 113 = .ok (.ireturn, 1) := by decide +kernel
theorem dX6_all_0 : decode mX6_all.2.1 0 = .ok (.iconst 0, 1) := by decide +kernel
theorem dX6_all_1 : decode mX6_all.2.1 1 = .ok (.istore_n 1, 1) := by decide +kernel
theorem dX6_all_2 : decode mX6_all.2.1 2 = .ok (.iconst 0, 1) := by decide +kernel
theorem dX6_all_3 : decode mX6_all.2.1 3 = .ok (.istore_n 2, 1) := by decide +kernel
theorem dX6_all_4 : decode mX6_all.2.1 4 = .ok (.iload_n 2, 1) := by decide +kernel
theorem dX6_all_5 : decode mX6_all.2.1 5 = .ok (.bipush 60, 2) := by decide +kernel
theorem dX6_all_7 : decode mX6_all.2.1 7 = .ok (.if_icmp .ge 18, 3) := by decide +kernel
theorem dX6_all_10 : decode mX6_all.2.1 10 = .ok (.iload_n 1, 1) := by decide +kernel
theorem dX6_all_11 : decode mX6_all.2.1 11 = .ok (.aload_n 0, 1) := by decide +kernel
theorem dX6_all_12 : decode mX6_all.2.1 12 = .ok (.getfield 31, 3) := by decide +kernel
theorem dX6_all_15 : decode mX6_all.2.1 15 = .ok (.iload_n 2, 1) := by decide +kernel
theorem dX6_all_16 : decode mX6_all.2.1 16 = .ok (.iaload, 1) := by decide +kernel
theorem dX6_all_17 : decode mX6_all.2.1 17 = .ok (.iadd, 1) := by decide +kernel
theorem dX6_all_18 : decode mX6_all.2.1 18 = .ok (.istore_n 1, 1) := by decide +kernel
theorem dX6_all_19 : decode mX6_all.2.1 19 = .ok (.iinc 2 1, 3) := by decide +kernel
theorem dX6_all_22 : decode mX6_all.2.1 22 = .ok (.goto (-18), 3) := by decide +kernel
theorem dX6_all_25 : decode mX6_all.2.1 25 = .ok (.iload_n 1, 1) := by decide +kernel
theorem dX6_all_26 : decode mX6_all.2.1 26 = .ok (.ireturn, 1) := by decide +kernel
end
section
/-! decode rows -/
theorem dL_pulse_0 : decode mL_pulse.2.1 0 = .ok (.aload_n 2, 1) := by decide +kernel
theorem dL_pulse_1 : decode mL_pulse.2.1 1 = .ok (.iconst 0, 1) := by decide +kernel
theorem dL_pulse_2 : decode mL_pulse.2.1 2 = .ok (.aload_n 0, 1) := by decide +kernel
theorem dL_pulse_3 : decode mL_pulse.2.1 3 = .ok (.iload_n 1, 1) := by decide +kernel
theorem dL_pulse_4 : decode mL_pulse.2.1 4 = .ok (.invokevirtual 7, 3) := by decide +kernel
theorem dL_pulse_7 : decode mL_pulse.2.1 7 = .ok (.i2l, 1) := by decide +kernel
theorem dL_pulse_8 : decode mL_pulse.2.1 8 = .ok (.lastore, 1) := by decide +kernel
theorem dL_pulse_9 : decode mL_pulse.2.1 9 = .ok (.goto 6, 3) := by decide +kernel
theorem dL_pulse_12 : decode mL_pulse.2.1 12 = .ok (.astore_n 3, 1) := by decide +kernel
theorem dL_pulse_13 : decode mL_pulse.2.1 13 = .ok (.iconst 1, 1) := by decide +kernel
theorem dL_pulse_14 : decode mL_pulse.2.1 14 = .ok (.ireturn, 1) := by decide +kernel
theorem dL_pulse_15 : decode mL_pulse.2.1 15 = .ok (.iconst 0, 1) := by decide +kernel
theorem dL_pulse_16 : decode mL_pulse.2.1 16 = .ok (.ireturn, 1) := by decide +kernel
theorem dL_tick_0 : decode mL_tick.2.1 0 = .ok (.aload_n 2, 1) := by decide +kernel
theorem dL_tick_1 : decode mL_tick.2.1 1 = .ok (.iconst 0, 1) := by decide +kernel
theorem dL_tick_2 : decode mL_tick.2.1 2 = .ok (.aload_n 0, 1) := by decide +kernel
theorem dL_tick_3 : decode mL_tick.2.1 3 = .ok (.iload_n 1, 1) := by decide +kernel
theorem dL_tick_4 : decode mL_tick.2.1 4 = .ok (.invokevirtual 15, 3) := by decide +kernel
theorem dL_tick_7 : decode mL_tick.2.1 7 = .ok (.i2l, 1) := by decide +kernel
theorem dL_tick_8 : decode mL_tick.2.1 8 = .ok (.lastore, 1) := by decide +kernel
theorem dL_tick_9 : decode mL_tick.2.1 9 = .ok (.goto 6, 3) := by decide +kernel
theorem dL_tick_12 : decode mL_tick.2.1 12 = .ok (.astore_n 3, 1) := by decide +kernel
theorem dL_tick_13 : decode mL_tick.2.1 13 = .ok (.iconst 1, 1) := by decide +kernel
theorem dL_tick_14 : decode mL_tick.2.1 14 = .ok (.ireturn, 1) := by decide +kernel
theorem dL_tick_15 : decode mL_tick.2.1 15 = .ok (.iconst 0, 1) := by decide +kernel
theorem dL_tick_16 : decode mL_tick.2.1 16 = .ok (.ireturn, 1) := by decide +kernel
theorem dL_gauge_0 : decode mL_gauge.2.1 0 = .ok (.aload 4, 2) := by decide +kernel
theorem dL_gauge_2 : decode mL_gauge.2.1 2 = .ok (.iconst 0, 1) := by decide +kernel
theorem dL_gauge_3 : decode mL_gauge.2.1 3 = .ok (.aload_n 0, 1) := by decide +kernel
theorem dL_gauge_4 : decode mL_gauge.2.1 4 = .ok (.iload_n 1, 1) := by decide +kernel
theorem dL_gauge_5 : decode mL_gauge.2.1 5 = .ok (.iload_n 2, 1) := by decide +kernel
theorem dL_gauge_6 : decode mL_gauge.2.1 6 = .ok (.iload_n 3, 1) := by decide +kernel
theorem dL_gauge_7 : decode mL_gauge.2.1 7 = .ok (.invokevirtual 18, 3) := by decide +kernel
theorem dL_gauge_10 : decode mL_gauge.2.1 10 = .ok (.ifCond .eq 7, 3) := by decide +kernel
theorem dL_gauge_13 : decode mL_gauge.2.1 13 = .ok (.lconst 1, 1) := by decide +kernel
theorem dL_gauge_14 : decode mL_gauge.2.1 14 = .ok (.goto 4, 3) := by decide +kernel
theorem dL_gauge_17 : decode mL_gauge.2.1 17 = .ok (.lconst 0, 1) := by decide +kernel
theorem dL_gauge_18 : decode mL_gauge.2.1 18 = .ok (.lastore, 1) := by decide +kernel
theorem dL_gauge_19 : decode mL_gauge.2.1 19 = .ok (.goto 7, 3) := by decide +kernel
theorem dL_gauge_22 : decode mL_gauge.2.1 22 = .ok (.astore 5, 2) := by decide +kernel
theorem dL_gauge_24 : decode mL_gauge.2.1 24 = .ok (.iconst 1, 1) := by decide +kernel
theorem dL_gauge_25 : decode mL_gauge.2.1 25 = .ok (.ireturn, 1) := by decide +kernel
theorem dL_gauge_26 : decode mL_gauge.2.1 26 = .ok (.iconst 0, 1) := by decide +kernel
theorem dL_gauge_27 : decode mL_gauge.2.1 27 = .ok (.ireturn, 1) := by decide +kernel
theorem dL_wind_0 : decode mL_wind.2.1 0 = .ok (.aload_n 0, 1) := by decide +kernel
theorem dL_wind_1 : decode mL_wind.2.1 1 = .ok (.iload_n 1, 1) := by decide +kernel
theorem dL_wind_2 : decode mL_wind.2.1 2 = .ok (.invokevirtual 22, 3) := by decide +kernel
theorem dL_wind_5 : decode mL_wind.2.1 5 = .ok (.goto 6, 3) := by decide +kernel
theorem dL_wind_8 : decode mL_wind.2.1 8 = .ok (.astore_n 2, 1) := by decide +kernel
theorem dL_wind_9 : decode mL_wind.2.1 9 = .ok (.iconst 1, 1) := by decide +kernel
theorem dL_wind_10 : decode mL_wind.2.1 10 = .ok (.ireturn, 1) := by decide +kernel
theorem dL_wind_11 : decode mL_wind.2.1 11 = .ok (.iconst 0, 1) := by decide +kernel
theorem dL_wind_12 : decode mL_wind.2.1 12 = .ok (.ireturn, 1) := by decide +kernel
theorem dL_drive_0 : decode mL_drive.2.1 0 = .ok (.aload_n 2, 1) := by decide +kernel
theorem dL_drive_1 : decode mL_drive.2.1 1 = .ok (.iconst 0, 1) := by decide +kernel
theorem dL_drive_2 : decode mL_drive.2.1 2 = .ok (.aload_n 0, 1) := by decide +kernel
theorem dL_drive_3 : decode mL_drive.2.1 3 = .ok (.iload_n 1, 1) := by decide +kernel
theorem dL_drive_4 : decode mL_drive.2.1 4 = .ok (.invokevirtual 26, 3) := by decide +kernel
theorem dL_drive_7 : decode mL_drive.2.1 7 = .ok (.ifCond .eq 7, 3) := by decide +kernel
theorem dL_drive_10 : decode mL_drive.2.1 10 = .ok (.lconst 1, 1) := by decide +kernel
theorem dL_drive_11 : decode mL_drive.2.1 11 = .ok (.goto 4, 3) := by decide +kernel
theorem dL_drive_14 : decode mL_drive.2.1 14 = .ok (.lconst 0, 1) := by decide +kernel
theorem dL_drive_15 : decode mL_drive.2.1 15 = .ok (.lastore, 1) := by decide +kernel
theorem dL_drive_16 : decode mL_drive.2.1 16 = .ok (.goto 6, 3) := by decide +kernel
theorem dL_drive_19 : decode mL_drive.2.1 19 = .ok (.astore_n 3, 1) := by decide +kernel
theorem dL_drive_20 : decode mL_drive.2.1 20 = .ok (.iconst 1, 1) := by decide +kernel
theorem dL_drive_21 : decode mL_drive.2.1 21 = .ok (.ireturn, 1) := by decide +kernel
theorem dL_drive_22 : decode mL_drive.2.1 22 = .ok (.iconst 0, 1) := by decide +kernel
theorem dL_drive_23 : decode mL_drive.2.1 23 = .ok (.ireturn, 1) := by decide +kernel
theorem dL_bring_0 : decode mL_bring.2.1 0 = .ok (.aload_n 2, 1) := by decide +kernel
theorem dL_bring_1 : decode mL_bring.2.1 1 = .ok (.iconst 0, 1) := by decide +kernel
theorem dL_bring_2 : decode mL_bring.2.1 2 = .ok (.aload_n 0, 1) := by decide +kernel
theorem dL_bring_3 : decode mL_bring.2.1 3 = .ok (.iload_n 1, 1) := by decide +kernel
theorem dL_bring_4 : decode mL_bring.2.1 4 = .ok (.invokevirtual 30, 3) := by decide +kernel
theorem dL_bring_7 : decode mL_bring.2.1 7 = .ok (.ifCond .eq 7, 3) := by decide +kernel
theorem dL_bring_10 : decode mL_bring.2.1 10 = .ok (.lconst 1, 1) := by decide +kernel
theorem dL_bring_11 : decode mL_bring.2.1 11 = .ok (.goto 4, 3) := by decide +kernel
theorem dL_bring_14 : decode mL_bring.2.1 14 = .ok (.lconst 0, 1) := by decide +kernel
theorem dL_bring_15 : decode mL_bring.2.1 15 = .ok (.lastore, 1) := by decide +kernel
theorem dL_bring_16 : decode mL_bring.2.1 16 = .ok (.goto 6, 3) := by decide +kernel
theorem dL_bring_19 : decode mL_bring.2.1 19 = .ok (.astore_n 3, 1) := by decide +kernel
theorem dL_bring_20 : decode mL_bring.2.1 20 = .ok (.iconst 1, 1) := by decide +kernel
theorem dL_bring_21 : decode mL_bring.2.1 21 = .ok (.ireturn, 1) := by decide +kernel
theorem dL_bring_22 : decode mL_bring.2.1 22 = .ok (.iconst 0, 1) := by decide +kernel
theorem dL_bring_23 : decode mL_bring.2.1 23 = .ok (.ireturn, 1) := by decide +kernel
theorem dL_putOn_0 : decode mL_putOn.2.1 0 = .ok (.aload_n 3, 1) := by decide +kernel
theorem dL_putOn_1 : decode mL_putOn.2.1 1 = .ok (.iconst 0, 1) := by decide +kernel
theorem dL_putOn_2 : decode mL_putOn.2.1 2 = .ok (.aload_n 0, 1) := by decide +kernel
theorem dL_putOn_3 : decode mL_putOn.2.1 3 = .ok (.iload_n 1, 1) := by decide +kernel
theorem dL_putOn_4 : decode mL_putOn.2.1 4 = .ok (.iload_n 2, 1) := by decide +kernel
theorem dL_putOn_5 : decode mL_putOn.2.1 5 = .ok (.invokevirtual 33, 3) := by decide +kernel
theorem dL_putOn_8 : decode mL_putOn.2.1 8 = .ok (.ifCond .eq 7, 3) := by decide +kernel
theorem dL_putOn_11 : decode mL_putOn.2.1 11 = .ok (.lconst 1, 1) := by decide +kernel
theorem dL_putOn_12 : decode mL_putOn.2.1 12 = .ok (.goto 4, 3) := by decide +kernel
theorem dL_putOn_15 : decode mL_putOn.2.1 15 = .ok (.lconst 0, 1) := by decide +kernel
theorem dL_putOn_16 : decode mL_putOn.2.1 16 = .ok (.lastore, 1) := by decide +kernel
theorem dL_putOn_17 : decode mL_putOn.2.1 17 = .ok (.goto 7, 3) := by decide +kernel
theorem dL_putOn_20 : decode mL_putOn.2.1 20 = .ok (.astore 4, 2) := by decide +kernel
theorem dL_putOn_22 : decode mL_putOn.2.1 22 = .ok (.iconst 1, 1) := by decide +kernel
theorem dL_putOn_23 : decode mL_putOn.2.1 23 = .ok (.ireturn, 1) := by decide +kernel
theorem dL_putOn_24 : decode mL_putOn.2.1 24 = .ok (.iconst 0, 1) := by decide +kernel
theorem dL_putOn_25 : decode mL_putOn.2.1 25 = .ok (.ireturn, 1) := by decide +kernel
theorem dL_takeOff_0 : decode mL_takeOff.2.1 0 = .ok (.aload_n 3, 1) := by decide +kernel
theorem dL_takeOff_1 : decode mL_takeOff.2.1 1 = .ok (.iconst 0, 1) := by decide +kernel
theorem dL_takeOff_2 : decode mL_takeOff.2.1 2 = .ok (.aload_n 0, 1) := by decide +kernel
theorem dL_takeOff_3 : decode mL_takeOff.2.1 3 = .ok (.iload_n 1, 1) := by decide +kernel
theorem dL_takeOff_4 : decode mL_takeOff.2.1 4 = .ok (.iload_n 2, 1) := by decide +kernel
theorem dL_takeOff_5 : decode mL_takeOff.2.1 5 = .ok (.invokevirtual 37, 3) := by decide +kernel
theorem dL_takeOff_8 : decode mL_takeOff.2.1 8 = .ok (.ifCond .eq 7, 3) := by decide +kernel
theorem dL_takeOff_11 : decode mL_takeOff.2.1 11 = .ok (.lconst 1, 1) := by decide +kernel
theorem dL_takeOff_12 : decode mL_takeOff.2.1 12 = .ok (.goto 4, 3) := by decide +kernel
theorem dL_takeOff_15 : decode mL_takeOff.2.1 15 = .ok (.lconst 0, 1) := by decide +kernel
theorem dL_takeOff_16 : decode mL_takeOff.2.1 16 = .ok (.lastore, 1) := by decide +kernel
theorem dL_takeOff_17 : decode mL_takeOff.2.1 17 = .ok (.goto 7, 3) := by decide +kernel
theorem dL_takeOff_20 : decode mL_takeOff.2.1 20 = .ok (.astore 4, 2) := by decide +kernel
theorem dL_takeOff_22 : decode mL_takeOff.2.1 22 = .ok (.iconst 1, 1) := by decide +kernel
theorem dL_takeOff_23 : decode mL_takeOff.2.1 23 = .ok (.ireturn, 1) := by decide +kernel
theorem dL_takeOff_24 : decode mL_takeOff.2.1 24 = .ok (.iconst 0, 1) := by decide +kernel
theorem dL_takeOff_25 : decode mL_takeOff.2.1 25 = .ok (.ireturn, 1) := by decide +kernel
theorem dL_plan_0 : decode mL_plan.2.1 0 = .ok (.aload_n 2, 1) := by decide +kernel
theorem dL_plan_1 : decode mL_plan.2.1 1 = .ok (.iconst 0, 1) := by decide +kernel
theorem dL_plan_2 : decode mL_plan.2.1 2 = .ok (.aload_n 0, 1) := by decide +kernel
theorem dL_plan_3 : decode mL_plan.2.1 3 = .ok (.iload_n 1, 1) := by decide +kernel
theorem dL_plan_4 : decode mL_plan.2.1 4 = .ok (.invokevirtual 40, 3) := by decide +kernel
theorem dL_plan_7 : decode mL_plan.2.1 7 = .ok (.i2l, 1) := by decide +kernel
theorem dL_plan_8 : decode mL_plan.2.1 8 = .ok (.lastore, 1) := by decide +kernel
theorem dL_plan_9 : decode mL_plan.2.1 9 = .ok (.goto 6, 3) := by decide +kernel
theorem dL_plan_12 : decode mL_plan.2.1 12 = .ok (.astore_n 3, 1) := by decide +kernel
theorem dL_plan_13 : decode mL_plan.2.1 13 = .ok (.iconst 1, 1) := by decide +kernel
theorem dL_plan_14 : decode mL_plan.2.1 14 = .ok (.ireturn, 1) := by decide +kernel
theorem dL_plan_15 : decode mL_plan.2.1 15 = .ok (.iconst 0, 1) := by decide +kernel
theorem dL_plan_16 : decode mL_plan.2.1 16 = .ok (.ireturn, 1) := by decide +kernel
theorem dL_release_0 : decode mL_release.2.1 0 = .ok (.aload_n 2, 1) := by decide +kernel
theorem dL_release_1 : decode mL_release.2.1 1 = .ok (.iconst 0, 1) := by decide +kernel
theorem dL_release_2 : decode mL_release.2.1 2 = .ok (.aload_n 0, 1) := by decide +kernel
theorem dL_release_3 : decode mL_release.2.1 3 = .ok (.iload_n 1, 1) := by decide +kernel
theorem dL_release_4 : decode mL_release.2.1 4 = .ok (.invokevirtual 43, 3) := by decide +kernel
theorem dL_release_7 : decode mL_release.2.1 7 = .ok (.ifCond .eq 7, 3) := by decide +kernel
theorem dL_release_10 : decode mL_release.2.1 10 = .ok (.lconst 1, 1) := by decide +kernel
theorem dL_release_11 : decode mL_release.2.1 11 = .ok (.goto 4, 3) := by decide +kernel
theorem dL_release_14 : decode mL_release.2.1 14 = .ok (.lconst 0, 1) := by decide +kernel
theorem dL_release_15 : decode mL_release.2.1 15 = .ok (.lastore, 1) := by decide +kernel
theorem dL_release_16 : decode mL_release.2.1 16 = .ok (.goto 6, 3) := by decide +kernel
theorem dL_release_19 : decode mL_release.2.1 19 = .ok (.astore_n 3, 1) := by decide +kernel
theorem dL_release_20 : decode mL_release.2.1 20 = .ok (.iconst 1, 1) := by decide +kernel
theorem dL_release_21 : decode mL_release.2.1 21 = .ok (.ireturn, 1) := by decide +kernel
theorem dL_release_22 : decode mL_release.2.1 22 = .ok (.iconst 0, 1) := by decide +kernel
theorem dL_release_23 : decode mL_release.2.1 23 = .ok (.ireturn, 1) := by decide +kernel
theorem dL_where_0 : decode mL_where.2.1 0 = .ok (.aload_n 3, 1) := by decide +kernel
theorem dL_where_1 : decode mL_where.2.1 1 = .ok (.iconst 0, 1) := by decide +kernel
theorem dL_where_2 : decode mL_where.2.1 2 = .ok (.aload_n 0, 1) := by decide +kernel
theorem dL_where_3 : decode mL_where.2.1 3 = .ok (.iload_n 1, 1) := by decide +kernel
theorem dL_where_4 : decode mL_where.2.1 4 = .ok (.iload_n 2, 1) := by decide +kernel
theorem dL_where_5 : decode mL_where.2.1 5 = .ok (.invokevirtual 46, 3) := by decide +kernel
theorem dL_where_8 : decode mL_where.2.1 8 = .ok (.i2l, 1) := by decide +kernel
theorem dL_where_9 : decode mL_where.2.1 9 = .ok (.lastore, 1) := by decide +kernel
theorem dL_where_10 : decode mL_where.2.1 10 = .ok (.goto 7, 3) := by decide +kernel
theorem dL_where_13 : decode mL_where.2.1 13 = .ok (.astore 4, 2) := by decide +kernel
theorem dL_where_15 : decode mL_where.2.1 15 = .ok (.iconst 1, 1) := by decide +kernel
theorem dL_where_16 : decode mL_where.2.1 16 = .ok (.ireturn, 1) := by decide +kernel
theorem dL_where_17 : decode mL_where.2.1 17 = .ok (.iconst 0, 1) := by decide +kernel
theorem dL_where_18 : decode mL_where.2.1 18 = .ok (.ireturn, 1) := by decide +kernel
theorem dL_gap_0 : decode mL_gap.2.1 0 = .ok (.aload_n 2, 1) := by decide +kernel
theorem dL_gap_1 : decode mL_gap.2.1 1 = .ok (.iconst 0, 1) := by decide +kernel
theorem dL_gap_2 : decode mL_gap.2.1 2 = .ok (.aload_n 0, 1) := by decide +kernel
theorem dL_gap_3 : decode mL_gap.2.1 3 = .ok (.iload_n 1, 1) := by decide +kernel
theorem dL_gap_4 : decode mL_gap.2.1 4 = .ok (.invokevirtual 50, 3) := by decide +kernel
theorem dL_gap_7 : decode mL_gap.2.1 7 = .ok (.i2l, 1) := by decide +kernel
theorem dL_gap_8 : decode mL_gap.2.1 8 = .ok (.lastore, 1) := by decide +kernel
theorem dL_gap_9 : decode mL_gap.2.1 9 = .ok (.goto 6, 3) := by decide +kernel
theorem dL_gap_12 : decode mL_gap.2.1 12 = .ok (.astore_n 3, 1) := by decide +kernel
theorem dL_gap_13 : decode mL_gap.2.1 13 = .ok (.iconst 1, 1) := by decide +kernel
theorem dL_gap_14 : decode mL_gap.2.1 14 = .ok (.ireturn, 1) := by decide +kernel
theorem dL_gap_15 : decode mL_gap.2.1 15 = .ok (.iconst 0, 1) := by decide +kernel
theorem dL_gap_16 : decode mL_gap.2.1 16 = .ok (.ireturn, 1) := by decide +kernel
end
section
/-! decode rows -/
theorem dL_law_0 : decode mL_law.2.1 0 = .ok (.new 8, 3) := by decide +kernel
theorem dL_law_3 : decode mL_law.2.1 3 = .ok (.dup, 1) := by decide +kernel
theorem dL_law_4 : decode mL_law.2.1 4 = .ok (.invokespecial 53, 3) := by decide +kernel
theorem dL_law_7 : decode mL_law.2.1 7 = .ok (.astore_n 1, 1) := by decide +kernel
theorem dL_law_8 : decode mL_law.2.1 8 = .ok (.new 54, 3) := by decide +kernel
theorem dL_law_11 : decode mL_law.2.1 11 = .ok (.dup, 1) := by decide +kernel
theorem dL_law_12 : decode mL_law.2.1 12 = .ok (.invokespecial 56, 3) := by decide +kernel
theorem dL_law_15 : decode mL_law.2.1 15 = .ok (.astore_n 2, 1) := by decide +kernel
theorem dL_law_16 : decode mL_law.2.1 16 = .ok (.iconst 1, 1) := by decide +kernel
theorem dL_law_17 : decode mL_law.2.1 17 = .ok (.newarray .long, 2) := by decide +kernel
theorem dL_law_19 : decode mL_law.2.1 19 = .ok (.astore_n 3, 1) := by decide +kernel
theorem dL_law_20 : decode mL_law.2.1 20 = .ok (.iconst 0, 1) := by decide +kernel
theorem dL_law_21 : decode mL_law.2.1 21 = .ok (.istore 4, 2) := by decide +kernel
theorem dL_law_23 : decode mL_law.2.1 23 = .ok (.iload 4, 2) := by decide +kernel
theorem dL_law_25 : decode mL_law.2.1 25 = .ok (.aload_n 0, 1) := by decide +kernel
theorem dL_law_26 : decode mL_law.2.1 26 = .ok (.arraylength, 1) := by decide +kernel
theorem dL_law_27 : decode mL_law.2.1 27 = .ok (.iconst 4, 1) := by decide +kernel
theorem dL_law_28 : decode mL_law.2.1 28 = .ok (.isub, 1) := by decide +kernel
theorem dL_law_29 : decode mL_law.2.1 29 = .ok (.if_icmp .gt 906, 3) := by decide +kernel
theorem dL_law_32 : decode mL_law.2.1 32 = .ok (.aload_n 0, 1) := by decide +kernel
theorem dL_law_33 : decode mL_law.2.1 33 = .ok (.iload 4, 2) := by decide +kernel
theorem dL_law_35 : decode mL_law.2.1 35 = .ok (.iaload, 1) := by decide +kernel
theorem dL_law_36 : decode mL_law.2.1 36 = .ok (.bipush 15, 2) := by decide +kernel
theorem dL_law_38 : decode mL_law.2.1 38 = .ok (.iand, 1) := by decide +kernel
theorem dL_law_39 : decode mL_law.2.1 39 = .ok (.tableswitch 890 0 14 #[73, 129, 185, 272, 308, 371, 434, 509, 584, 640, 703, 716, 784, 840, 865], 73) := by decide +kernel
theorem dL_law_112 : decode mL_law.2.1 112 = .ok (.aload_n 1, 1) := by decide +kernel
theorem dL_law_113 : decode mL_law.2.1 113 = .ok (.aload_n 0, 1) := by decide +kernel
theorem dL_law_114 : decode mL_law.2.1 114 = .ok (.iload 4, 2) := by decide +kernel
theorem dL_law_116 : decode mL_law.2.1 116 = .ok (.iconst 1, 1) := by decide +kernel
theorem dL_law_117 : decode mL_law.2.1 117 = .ok (.iadd, 1) := by decide +kernel
theorem dL_law_118 : decode mL_law.2.1 118 = .ok (.iaload, 1) := by decide +kernel
theorem dL_law_119 : decode mL_law.2.1 119 = .ok (.aload_n 3, 1) := by decide +kernel
theorem dL_law_120 : decode mL_law.2.1 120 = .ok (.invokestatic 57, 3) := by decide +kernel
theorem dL_law_123 : decode mL_law.2.1 123 = .ok (.istore 5, 2) := by decide +kernel
theorem dL_law_125 : decode mL_law.2.1 125 = .ok (.aload_n 2, 1) := by decide +kernel
theorem dL_law_126 : decode mL_law.2.1 126 = .ok (.aload_n 0, 1) := by decide +kernel
theorem dL_law_127 : decode mL_law.2.1 127 = .ok (.iload 4, 2) := by decide +kernel
theorem dL_law_129 : decode mL_law.2.1 129 = .ok (.iconst 1, 1) := by decide +kernel
theorem dL_law_130 : decode mL_law.2.1 130 = .ok (.iadd, 1) := by decide +kernel
theorem dL_law_131 : decode mL_law.2.1 131 = .ok (.iaload, 1) := by decide +kernel
theorem dL_law_132 : decode mL_law.2.1 132 = .ok (.invokevirtual 62, 3) := by decide +kernel
theorem dL_law_135 : decode mL_law.2.1 135 = .ok (.istore 6, 2) := by decide +kernel
theorem dL_law_137 : decode mL_law.2.1 137 = .ok (.aload_n 2, 1) := by decide +kernel
theorem dL_law_138 : decode mL_law.2.1 138 = .ok (.invokevirtual 63, 3) := by decide +kernel
theorem dL_law_141 : decode mL_law.2.1 141 = .ok (.iload 5, 2) := by decide +kernel
theorem dL_law_143 : decode mL_law.2.1 143 = .ok (.if_icmp .eq 5, 3) := by decide +kernel
theorem dL_law_146 : decode mL_law.2.1 146 = .ok (.iconst 0, 1) := by decide +kernel
theorem dL_law_147 : decode mL_law.2.1 147 = .ok (.ireturn, 1) := by decide +kernel
theorem dL_law_148 : decode mL_law.2.1 148 = .ok (.iload 5, 2) := by decide +kernel
theorem dL_law_150 : decode mL_law.2.1 150 = .ok (.ifCond .ne 15, 3) := by decide +kernel
theorem dL_law_153 : decode mL_law.2.1 153 = .ok (.aload_n 3, 1) := by decide +kernel
theorem dL_law_154 : decode mL_law.2.1 154 = .ok (.iconst 0, 1) := by decide +kernel
theorem dL_law_155 : decode mL_law.2.1 155 = .ok (.laload, 1) := by decide +kernel
theorem dL_law_156 : decode mL_law.2.1 156 = .ok (.iload 6, 2) := by decide +kernel
theorem dL_law_158 : decode mL_law.2.1 158 = .ok (.i2l, 1) := by decide +kernel
theorem dL_law_159 : decode mL_law.2.1 159 = .ok (.lcmp, 1) := by decide +kernel
theorem dL_law_160 : decode mL_law.2.1 160 = .ok (.ifCond .eq 5, 3) := by decide +kernel
theorem dL_law_163 : decode mL_law.2.1 163 = .ok (.iconst 0, 1) := by decide +kernel
theorem dL_law_164 : decode mL_law.2.1 164 = .ok (.ireturn, 1) := by decide +kernel
theorem dL_law_165 : decode mL_law.2.1 165 = .ok (.goto 764, 3) := by decide +kernel
theorem dL_law_168 : decode mL_law.2.1 168 = .ok (.aload_n 1, 1) := by decide +kernel
theorem dL_law_169 : decode mL_law.2.1 169 = .ok (.aload_n 0, 1) := by decide +kernel
theorem dL_law_170 : decode mL_law.2.1 170 = .ok (.iload 4, 2) := by decide +kernel
theorem dL_law_172 : decode mL_law.2.1 172 = .ok (.iconst 1, 1) := by decide +kernel
theorem dL_law_173 : decode mL_law.2.1 173 = .ok (.iadd, 1) := by decide +kernel
theorem dL_law_174 : decode mL_law.2.1 174 = .ok (.iaload, 1) := by decide +kernel
theorem dL_law_175 : decode mL_law.2.1 175 = .ok (.aload_n 3, 1) := by decide +kernel
theorem dL_law_176 : decode mL_law.2.1 176 = .ok (.invokestatic 67, 3) := by decide +kernel
theorem dL_law_179 : decode mL_law.2.1 179 = .ok (.istore 5, 2) := by decide +kernel
theorem dL_law_181 : decode mL_law.2.1 181 = .ok (.aload_n 2, 1) := by decide +kernel
theorem dL_law_182 : decode mL_law.2.1 182 = .ok (.aload_n 0, 1) := by decide +kernel
theorem dL_law_183 : decode mL_law.2.1 183 = .ok (.iload 4, 2) := by decide +kernel
theorem dL_law_185 : decode mL_law.2.1 185 = .ok (.iconst 1, 1) := by decide +kernel
theorem dL_law_186 : decode mL_law.2.1 186 = .ok (.iadd, 1) := by decide +kernel
theorem dL_law_187 : decode mL_law.2.1 187 = .ok (.iaload, 1) := by decide +kernel
theorem dL_law_188 : decode mL_law.2.1 188 = .ok (.invokevirtual 69, 3) := by decide +kernel
theorem dL_law_191 : decode mL_law.2.1 191 = .ok (.istore 6, 2) := by decide +kernel
theorem dL_law_193 : decode mL_law.2.1 193 = .ok (.aload_n 2, 1) := by decide +kernel
theorem dL_law_194 : decode mL_law.2.1 194 = .ok (.invokevirtual 63, 3) := by decide +kernel
theorem dL_law_197 : decode mL_law.2.1 197 = .ok (.iload 5, 2) := by decide +kernel
theorem dL_law_199 : decode mL_law.2.1 199 = .ok (.if_icmp .eq 5, 3) := by decide +kernel
theorem dL_law_202 : decode mL_law.2.1 202 = .ok (.iconst 0, 1) := by decide +kernel
theorem dL_law_203 : decode mL_law.2.1 203 = .ok (.ireturn, 1) := by decide +kernel
theorem dL_law_204 : decode mL_law.2.1 204 = .ok (.iload 5, 2) := by decide +kernel
theorem dL_law_206 : decode mL_law.2.1 206 = .ok (.ifCond .ne 15, 3) := by decide +kernel
theorem dL_law_209 : decode mL_law.2.1 209 = .ok (.aload_n 3, 1) := by decide +kernel
theorem dL_law_210 : decode mL_law.2.1 210 = .ok (.iconst 0, 1) := by decide +kernel
theorem dL_law_211 : decode mL_law.2.1 211 = .ok (.laload, 1) := by decide +kernel
theorem dL_law_212 : decode mL_law.2.1 212 = .ok (.iload 6, 2) := by decide +kernel
theorem dL_law_214 : decode mL_law.2.1 214 = .ok (.i2l, 1) := by decide +kernel
theorem dL_law_215 : decode mL_law.2.1 215 = .ok (.lcmp, 1) := by decide +kernel
theorem dL_law_216 : decode mL_law.2.1 216 = .ok (.ifCond .eq 5, 3) := by decide +kernel
theorem dL_law_219 : decode mL_law.2.1 219 = .ok (.iconst 0, 1) := by decide +kernel
theorem dL_law_220 : decode mL_law.2.1 220 = .ok (.ireturn, 1) := by decide +kernel
theorem dL_law_221 : decode mL_law.2.1 221 = .ok (.goto 708, 3) := by decide +kernel
theorem dL_law_224 : decode mL_law.2.1 224 = .ok (.aload_n 1, 1) := by decide +kernel
theorem dL_law_225 : decode mL_law.2.1 225 = .ok (.aload_n 0, 1) := by decide +kernel
theorem dL_law_226 : decode mL_law.2.1 226 = .ok (.iload 4, 2) := by decide +kernel
theorem dL_law_228 : decode mL_law.2.1 228 = .ok (.iconst 1, 1) := by decide +kernel
theorem dL_law_229 : decode mL_law.2.1 229 = .ok (.iadd, 1) := by decide +kernel
theorem dL_law_230 : decode mL_law.2.1 230 = .ok (.iaload, 1) := by decide +kernel
theorem dL_law_231 : decode mL_law.2.1 231 = .ok (.aload_n 0, 1) := by decide +kernel
theorem dL_law_232 : decode mL_law.2.1 232 = .ok (.iload 4, 2) := by decide +kernel
theorem dL_law_234 : decode mL_law.2.1 234 = .ok (.iconst 2, 1) := by decide +kernel
theorem dL_law_235 : decode mL_law.2.1 235 = .ok (.iadd, 1) := by decide +kernel
theorem dL_law_236 : decode mL_law.2.1 236 = .ok (.iaload, 1) := by decide +kernel
theorem dL_law_237 : decode mL_law.2.1 237 = .ok (.aload_n 0, 1) := by decide +kernel
theorem dL_law_238 : decode mL_law.2.1 238 = .ok (.iload 4, 2) := by decide +kernel
theorem dL_law_240 : decode mL_law.2.1 240 = .ok (.iconst 3, 1) := by decide +kernel
theorem dL_law_241 : decode mL_law.2.1 241 = .ok (.iadd, 1) := by decide +kernel
theorem dL_law_242 : decode mL_law.2.1 242 = .ok (.iaload, 1) := by decide +kernel
theorem dL_law_243 : decode mL_law.2.1 243 = .ok (.aload_n 3, 1) := by decide +kernel
theorem dL_law_244 : decode mL_law.2.1 244 = .ok (.invokestatic 70, 3) := by decide +kernel
theorem dL_law_247 : decode mL_law.2.1 247 = .ok (.istore 5, 2) := by decide +kernel
theorem dL_law_249 : decode mL_law.2.1 249 = .ok (.aload_n 2, 1) := by decide +kernel
theorem dL_law_250 : decode mL_law.2.1 250 = .ok (.aload_n 0, 1) := by decide +kernel
theorem dL_law_251 : decode mL_law.2.1 251 = .ok (.iload 4, 2) := by decide +kernel
theorem dL_law_253 : decode mL_law.2.1 253 = .ok (.iconst 1, 1) := by decide +kernel
theorem dL_law_254 : decode mL_law.2.1 254 = .ok (.iadd, 1) := by decide +kernel
theorem dL_law_255 : decode mL_law.2.1 255 = .ok (.iaload, 1) := by decide +kernel
theorem dL_law_256 : decode mL_law.2.1 256 = .ok (.aload_n 0, 1) := by decide +kernel
theorem dL_law_257 : decode mL_law.2.1 257 = .ok (.iload 4, 2) := by decide +kernel
theorem dL_law_259 : decode mL_law.2.1 259 = .ok (.iconst 2, 1) := by decide +kernel
theorem dL_law_260 : decode mL_law.2.1 260 = .ok (.iadd, 1) := by decide +kernel
theorem dL_law_261 : decode mL_law.2.1 261 = .ok (.iaload, 1) := by decide +kernel
theorem dL_law_262 : decode mL_law.2.1 262 = .ok (.aload_n 0, 1) := by decide +kernel
theorem dL_law_263 : decode mL_law.2.1 263 = .ok (.iload 4, 2) := by decide +kernel
theorem dL_law_265 : decode mL_law.2.1 265 = .ok (.iconst 3, 1) := by decide +kernel
theorem dL_law_266 : decode mL_law.2.1 266 = .ok (.iadd, 1) := by decide +kernel
theorem dL_law_267 : decode mL_law.2.1 267 = .ok (.iaload, 1) := by decide +kernel
theorem dL_law_268 : decode mL_law.2.1 268 = .ok (.invokevirtual 73, 3) := by decide +kernel
theorem dL_law_271 : decode mL_law.2.1 271 = .ok (.istore 6, 2) := by decide +kernel
theorem dL_law_273 : decode mL_law.2.1 273 = .ok (.aload_n 2, 1) := by decide +kernel
theorem dL_law_274 : decode mL_law.2.1 274 = .ok (.invokevirtual 63, 3) := by decide +kernel
theorem dL_law_277 : decode mL_law.2.1 277 = .ok (.iload 5, 2) := by decide +kernel
theorem dL_law_279 : decode mL_law.2.1 279 = .ok (.if_icmp .eq 5, 3) := by decide +kernel
theorem dL_law_282 : decode mL_law.2.1 282 = .ok (.iconst 0, 1) := by decide +kernel
theorem dL_law_283 : decode mL_law.2.1 283 = .ok (.ireturn, 1) := by decide +kernel
theorem dL_law_284 : decode mL_law.2.1 284 = .ok (.iload 5, 2) := by decide +kernel
theorem dL_law_286 : decode mL_law.2.1 286 = .ok (.ifCond .ne 22, 3) := by decide +kernel
theorem dL_law_289 : decode mL_law.2.1 289 = .ok (.aload_n 3, 1) := by decide +kernel
theorem dL_law_290 : decode mL_law.2.1 290 = .ok (.iconst 0, 1) := by decide +kernel
theorem dL_law_291 : decode mL_law.2.1 291 = .ok (.laload, 1) := by decide +kernel
theorem dL_law_292 : decode mL_law.2.1 292 = .ok (.iload 6, 2) := by decide +kernel
theorem dL_law_294 : decode mL_law.2.1 294 = .ok (.ifCond .eq 7, 3) := by decide +kernel
theorem dL_law_297 : decode mL_law.2.1 297 = .ok (.lconst 1, 1) := by decide +kernel
theorem dL_law_298 : decode mL_law.2.1 298 = .ok (.goto 4, 3) := by decide +kernel
theorem dL_law_301 : decode mL_law.2.1 301 = .ok (.lconst 0, 1) := by decide +kernel
theorem dL_law_302 : decode mL_law.2.1 302 = .ok (.lcmp, 1) := by decide +kernel
theorem dL_law_303 : decode mL_law.2.1 303 = .ok (.ifCond .eq 5, 3) := by decide +kernel
theorem dL_law_306 : decode mL_law.2.1 306 = .ok (.iconst 0, 1) := by decide +kernel
theorem dL_law_307 : decode mL_law.2.1 307 = .ok (.ireturn, 1) := by decide +kernel
theorem dL_law_308 : decode mL_law.2.1 308 = .ok (.goto 621, 3) := by decide +kernel
theorem dL_law_311 : decode mL_law.2.1 311 = .ok (.aload_n 1, 1) := by decide +kernel
theorem dL_law_312 : decode mL_law.2.1 312 = .ok (.aload_n 0, 1) := by decide +kernel
theorem dL_law_313 : decode mL_law.2.1 313 = .ok (.iload 4, 2) := by decide +kernel
theorem dL_law_315 : decode mL_law.2.1 315 = .ok (.iconst 1, 1) := by decide +kernel
theorem dL_law_316 : decode mL_law.2.1 316 = .ok (.iadd, 1) := by decide +kernel
theorem dL_law_317 : decode mL_law.2.1 317 = .ok (.iaload, 1) := by decide +kernel
theorem dL_law_318 : decode mL_law.2.1 318 = .ok (.invokestatic 74, 3) := by decide +kernel
theorem dL_law_321 : decode mL_law.2.1 321 = .ok (.istore 5, 2) := by decide +kernel
theorem dL_law_323 : decode mL_law.2.1 323 = .ok (.aload_n 2, 1) := by decide +kernel
theorem dL_law_324 : decode mL_law.2.1 324 = .ok (.aload_n 0, 1) := by decide +kernel
theorem dL_law_325 : decode mL_law.2.1 325 = .ok (.iload 4, 2) := by decide +kernel
theorem dL_law_327 : decode mL_law.2.1 327 = .ok (.iconst 1, 1) := by decide +kernel
theorem dL_law_328 : decode mL_law.2.1 328 = .ok (.iadd, 1) := by decide +kernel
theorem dL_law_329 : decode mL_law.2.1 329 = .ok (.iaload, 1) := by decide +kernel
theorem dL_law_330 : decode mL_law.2.1 330 = .ok (.invokevirtual 77, 3) := by decide +kernel
theorem dL_law_333 : decode mL_law.2.1 333 = .ok (.aload_n 2, 1) := by decide +kernel
theorem dL_law_334 : decode mL_law.2.1 334 = .ok (.invokevirtual 63, 3) := by decide +kernel
theorem dL_law_337 : decode mL_law.2.1 337 = .ok (.iload 5, 2) := by decide +kernel
theorem dL_law_339 : decode mL_law.2.1 339 = .ok (.if_icmp .eq 5, 3) := by decide +kernel
theorem dL_law_342 : decode mL_law.2.1 342 = .ok (.iconst 0, 1) := by decide +kernel
theorem dL_law_343 : decode mL_law.2.1 343 = .ok (.ireturn, 1) := by decide +kernel
theorem dL_law_344 : decode mL_law.2.1 344 = .ok (.goto 585, 3) := by decide +kernel
theorem dL_law_347 : decode mL_law.2.1 347 = .ok (.aload_n 1, 1) := by decide +kernel
theorem dL_law_348 : decode mL_law.2.1 348 = .ok (.aload_n 0, 1) := by decide +kernel
theorem dL_law_349 : decode mL_law.2.1 349 = .ok (.iload 4, 2) := by decide +kernel
theorem dL_law_351 : decode mL_law.2.1 351 = .ok (.iconst 1, 1) := by decide +kernel
theorem dL_law_352 : decode mL_law.2.1 352 = .ok (.iadd, 1) := by decide +kernel
theorem dL_law_353 : decode mL_law.2.1 353 = .ok (.iaload, 1) := by decide +kernel
theorem dL_law_354 : decode mL_law.2.1 354 = .ok (.aload_n 3, 1) := by decide +kernel
theorem dL_law_355 : decode mL_law.2.1 355 = .ok (.invokestatic 78, 3) := by decide +kernel
theorem dL_law_358 : decode mL_law.2.1 358 = .ok (.istore 5, 2) := by decide +kernel
theorem dL_law_360 : decode mL_law.2.1 360 = .ok (.aload_n 2, 1) := by decide +kernel
theorem dL_law_361 : decode mL_law.2.1 361 = .ok (.aload_n 0, 1) := by decide +kernel
theorem dL_law_362 : decode mL_law.2.1 362 = .ok (.iload 4, 2) := by decide +kernel
theorem dL_law_364 : decode mL_law.2.1 364 = .ok (.iconst 1, 1) := by decide +kernel
theorem dL_law_365 : decode mL_law.2.1 365 = .ok (.iadd, 1) := by decide +kernel
theorem dL_law_366 : decode mL_law.2.1 366 = .ok (.iaload, 1) := by decide +kernel
theorem dL_law_367 : decode mL_law.2.1 367 = .ok (.invokevirtual 80, 3) := by decide +kernel
theorem dL_law_370 : decode mL_law.2.1 370 = .ok (.istore 6, 2) := by decide +kernel
theorem dL_law_372 : decode mL_law.2.1 372 = .ok (.aload_n 2, 1) := by decide +kernel
theorem dL_law_373 : decode mL_law.2.1 373 = .ok (.invokevirtual 63, 3) := by decide +kernel
theorem dL_law_376 : decode mL_law.2.1 376 = .ok (.iload 5, 2) := by decide +kernel
theorem dL_law_378 : decode mL_law.2.1 378 = .ok (.if_icmp .eq 5, 3) := by decide +kernel
theorem dL_law_381 : decode mL_law.2.1 381 = .ok (.iconst 0, 1) := by decide +kernel
theorem dL_law_382 : decode mL_law.2.1 382 = .ok (.ireturn, 1) := by decide +kernel
theorem dL_law_383 : decode mL_law.2.1 383 = .ok (.iload 5, 2) := by decide +kernel
theorem dL_law_385 : decode mL_law.2.1 385 = .ok (.ifCond .ne 22, 3) := by decide +kernel
theorem dL_law_388 : decode mL_law.2.1 388 = .ok (.aload_n 3, 1) := by decide +kernel
theorem dL_law_389 : decode mL_law.2.1 389 = .ok (.iconst 0, 1) := by decide +kernel
theorem dL_law_390 : decode mL_law.2.1 390 = .ok (.laload, 1) := by decide +kernel
theorem dL_law_391 : decode mL_law.2.1 391 = .ok (.iload 6, 2) := by decide +kernel
theorem dL_law_393 : decode mL_law.2.1 393 = .ok (.ifCond .eq 7, 3) := by decide +kernel
theorem dL_law_396 : decode mL_law.2.1 396 = .ok (.lconst 1, 1) := by decide +kernel
theorem dL_law_397 : decode mL_law.2.1 397 = .ok (.goto 4, 3) := by decide +kernel
theorem dL_law_400 : decode mL_law.2.1 400 = .ok (.lconst 0, 1) := by decide +kernel
theorem dL_law_401 : decode mL_law.2.1 401 = .ok (.lcmp, 1) := by decide +kernel
theorem dL_law_402 : decode mL_law.2.1 402 = .ok (.ifCond .eq 5, 3) := by decide +kernel
theorem dL_law_405 : decode mL_law.2.1 405 = .ok (.iconst 0, 1) := by decide +kernel
theorem dL_law_406 : decode mL_law.2.1 406 = .ok (.ireturn, 1) := by decide +kernel
theorem dL_law_407 : decode mL_law.2.1 407 = .ok (.goto 522, 3) := by decide +kernel
theorem dL_law_410 : decode mL_law.2.1 410 = .ok (.aload_n 1, 1) := by decide +kernel
theorem dL_law_411 : decode mL_law.2.1 411 = .ok (.aload_n 0, 1) := by decide +kernel
theorem dL_law_412 : decode mL_law.2.1 412 = .ok (.iload 4, 2) := by decide +kernel
theorem dL_law_414 : decode mL_law.2.1 414 = .ok (.iconst 1, 1) := by decide +kernel
theorem dL_law_415 : decode mL_law.2.1 415 = .ok (.iadd, 1) := by decide +kernel
theorem dL_law_416 : decode mL_law.2.1 416 = .ok (.iaload, 1) := by decide +kernel
theorem dL_law_417 : decode mL_law.2.1 417 = .ok (.aload_n 3, 1) := by decide +kernel
theorem dL_law_418 : decode mL_law.2.1 418 = .ok (.invokestatic 81, 3) := by decide +kernel
theorem dL_law_421 : decode mL_law.2.1 421 = .ok (.istore 5, 2) := by decide +kernel
theorem dL_law_423 : decode mL_law.2.1 423 = .ok (.aload_n 2, 1) := by decide +kernel
theorem dL_law_424 : decode mL_law.2.1 424 = .ok (.aload_n 0, 1) := by decide +kernel
theorem dL_law_425 : decode mL_law.2.1 425 = .ok (.iload 4, 2) := by decide +kernel
theorem dL_law_427 : decode mL_law.2.1 427 = .ok (.iconst 1, 1) := by decide +kernel
theorem dL_law_428 : decode mL_law.2.1 428 = .ok (.iadd, 1) := by decide +kernel
theorem dL_law_429 : decode mL_law.2.1 429 = .ok (.iaload, 1) := by decide +kernel
theorem dL_law_430 : decode mL_law.2.1 430 = .ok (.invokevirtual 83, 3) := by decide +kernel
theorem dL_law_433 : decode mL_law.2.1 433 = .ok (.istore 6, 2) := by decide +kernel
theorem dL_law_435 : decode mL_law.2.1 435 = .ok (.aload_n 2, 1) := by decide +kernel
theorem dL_law_436 : decode mL_law.2.1 436 = .ok (.invokevirtual 63, 3) := by decide +kernel
theorem dL_law_439 : decode mL_law.2.1 439 = .ok (.iload 5, 2) := by decide +kernel
theorem dL_law_441 : decode mL_law.2.1 441 = .ok (.if_icmp .eq 5, 3) := by decide +kernel
theorem dL_law_444 : decode mL_law.2.1 444 = .ok (.iconst 0, 1) := by decide +kernel
theorem dL_law_445 : decode mL_law.2.1 445 = .ok (.ireturn, 1) := by decide +kernel
theorem dL_law_446 : decode mL_law.2.1 446 = .ok (.iload 5, 2) := by decide +kernel
theorem dL_law_448 : decode mL_law.2.1 448 = .ok (.ifCond .ne 22, 3) := by decide +kernel
theorem dL_law_451 : decode mL_law.2.1 451 = .ok (.aload_n 3, 1) := by decide +kernel
theorem dL_law_452 : decode mL_law.2.1 452 = .ok (.iconst 0, 1) := by decide +kernel
theorem dL_law_453 : decode mL_law.2.1 453 = .ok (.laload, 1) := by decide +kernel
theorem dL_law_454 : decode mL_law.2.1 454 = .ok (.iload 6, 2) := by decide +kernel
theorem dL_law_456 : decode mL_law.2.1 456 = .ok (.ifCond .eq 7, 3) := by decide +kernel
theorem dL_law_459 : decode mL_law.2.1 459 = .ok (.lconst 1, 1) := by decide +kernel
theorem dL_law_460 : decode mL_law.2.1 460 = .ok (.goto 4, 3) := by decide +kernel
theorem dL_law_463 : decode mL_law.2.1 463 = .ok (.lconst 0, 1) := by decide +kernel
theorem dL_law_464 : decode mL_law.2.1 464 = .ok (.lcmp, 1) := by decide +kernel
theorem dL_law_465 : decode mL_law.2.1 465 = .ok (.ifCond .eq 5, 3) := by decide +kernel
theorem dL_law_468 : decode mL_law.2.1 468 = .ok (.iconst 0, 1) := by decide +kernel
theorem dL_law_469 : decode mL_law.2.1 469 = .ok (.ireturn, 1) := by decide +kernel
theorem dL_law_470 : decode mL_law.2.1 470 = .ok (.goto 459, 3) := by decide +kernel
theorem dL_law_473 : decode mL_law.2.1 473 = .ok (.aload_n 1, 1) := by decide +kernel
theorem dL_law_474 : decode mL_law.2.1 474 = .ok (.aload_n 0, 1) := by decide +kernel
theorem dL_law_475 : decode mL_law.2.1 475 = .ok (.iload 4, 2) := by decide +kernel
theorem dL_law_477 : decode mL_law.2.1 477 = .ok (.iconst 1, 1) := by decide +kernel
theorem dL_law_478 : decode mL_law.2.1 478 = .ok (.iadd, 1) := by decide +kernel
theorem dL_law_479 : decode mL_law.2.1 479 = .ok (.iaload, 1) := by decide +kernel
theorem dL_law_480 : decode mL_law.2.1 480 = .ok (.aload_n 0, 1) := by decide +kernel
theorem dL_law_481 : decode mL_law.2.1 481 = .ok (.iload 4, 2) := by decide +kernel
theorem dL_law_483 : decode mL_law.2.1 483 = .ok (.iconst 2, 1) := by decide +kernel
theorem dL_law_484 : decode mL_law.2.1 484 = .ok (.iadd, 1) := by decide +kernel
theorem dL_law_485 : decode mL_law.2.1 485 = .ok (.iaload, 1) := by decide +kernel
theorem dL_law_486 : decode mL_law.2.1 486 = .ok (.aload_n 3, 1) := by decide +kernel
theorem dL_law_487 : decode mL_law.2.1 487 = .ok (.invokestatic 84, 3) := by decide +kernel
theorem dL_law_490 : decode mL_law.2.1 490 = .ok (.istore 5, 2) := by decide +kernel
theorem dL_law_492 : decode mL_law.2.1 492 = .ok (.aload_n 2, 1) := by decide +kernel
theorem dL_law_493 : decode mL_law.2.1 493 = .ok (.aload_n 0, 1) := by decide +kernel
theorem dL_law_494 : decode mL_law.2.1 494 = .ok (.iload 4, 2) := by decide +kernel
theorem dL_law_496 : decode mL_law.2.1 496 = .ok (.iconst 1, 1) := by decide +kernel
theorem dL_law_497 : decode mL_law.2.1 497 = .ok (.iadd, 1) := by decide +kernel
theorem dL_law_498 : decode mL_law.2.1 498 = .ok (.iaload, 1) := by decide +kernel
theorem dL_law_499 : decode mL_law.2.1 499 = .ok (.aload_n 0, 1) := by decide +kernel
theorem dL_law_500 : decode mL_law.2.1 500 = .ok (.iload 4, 2) := by decide +kernel
theorem dL_law_502 : decode mL_law.2.1 502 = .ok (.iconst 2, 1) := by decide +kernel
theorem dL_law_503 : decode mL_law.2.1 503 = .ok (.iadd, 1) := by decide +kernel
theorem dL_law_504 : decode mL_law.2.1 504 = .ok (.iaload, 1) := by decide +kernel
theorem dL_law_505 : decode mL_law.2.1 505 = .ok (.invokevirtual 87, 3) := by decide +kernel
theorem dL_law_508 : decode mL_law.2.1 508 = .ok (.istore 6, 2) := by decide +kernel
theorem dL_law_510 : decode mL_law.2.1 510 = .ok (.aload_n 2, 1) := by decide +kernel
theorem dL_law_511 : decode mL_law.2.1 511 = .ok (.invokevirtual 63, 3) := by decide +kernel
theorem dL_law_514 : decode mL_law.2.1 514 = .ok (.iload 5, 2) := by decide +kernel
theorem dL_law_516 : decode mL_law.2.1 516 = .ok (.if_icmp .eq 5, 3) := by decide +kernel
theorem dL_law_519 : decode mL_law.2.1 519 = .ok (.iconst 0, 1) := by decide +kernel
theorem dL_law_520 : decode mL_law.2.1 520 = .ok (.ireturn, 1) := by decide +kernel
theorem dL_law_521 : decode mL_law.2.1 521 = .ok (.iload 5, 2) := by decide +kernel
theorem dL_law_523 : decode mL_law.2.1 523 = .ok (.ifCond .ne 22, 3) := by decide +kernel
theorem dL_law_526 : decode mL_law.2.1 526 = .ok (.aload_n 3, 1) := by decide +kernel
theorem dL_law_527 : decode mL_law.2.1 527 = .ok (.iconst 0, 1) := by decide +kernel
theorem dL_law_528 : decode mL_law.2.1 528 = .ok (.laload, 1) := by decide +kernel
theorem dL_law_529 : decode mL_law.2.1 529 = .ok (.iload 6, 2) := by decide +kernel
theorem dL_law_531 : decode mL_law.2.1 531 = .ok (.ifCond .eq 7, 3) := by decide +kernel
theorem dL_law_534 : decode mL_law.2.1 534 = .ok (.lconst 1, 1) := by decide +kernel
theorem dL_law_535 : decode mL_law.2.1 535 = .ok (.goto 4, 3) := by decide +kernel
theorem dL_law_538 : decode mL_law.2.1 538 = .ok (.lconst 0, 1) := by decide +kernel
theorem dL_law_539 : decode mL_law.2.1 539 = .ok (.lcmp, 1) := by decide +kernel
theorem dL_law_540 : decode mL_law.2.1 540 = .ok (.ifCond .eq 5, 3) := by decide +kernel
theorem dL_law_543 : decode mL_law.2.1 543 = .ok (.iconst 0, 1) := by decide +kernel
theorem dL_law_544 : decode mL_law.2.1 544 = .ok (.ireturn, 1) := by decide +kernel
theorem dL_law_545 : decode mL_law.2.1 545 = .ok (.goto 384, 3) := by decide +kernel
theorem dL_law_548 : decode mL_law.2.1 548 = .ok (.aload_n 1, 1) := by decide +kernel
theorem dL_law_549 : decode mL_law.2.1 549 = .ok (.aload_n 0, 1) := by decide +kernel
theorem dL_law_550 : decode mL_law.2.1 550 = .ok (.iload 4, 2) := by decide +kernel
theorem dL_law_552 : decode mL_law.2.1 552 = .ok (.iconst 1, 1) := by decide +kernel
theorem dL_law_553 : decode mL_law.2.1 553 = .ok (.iadd, 1) := by decide +kernel
theorem dL_law_554 : decode mL_law.2.1 554 = .ok (.iaload, 1) := by decide +kernel
theorem dL_law_555 : decode mL_law.2.1 555 = .ok (.aload_n 0, 1) := by decide +kernel
theorem dL_law_556 : decode mL_law.2.1 556 = .ok (.iload 4, 2) := by decide +kernel
theorem dL_law_558 : decode mL_law.2.1 558 = .ok (.iconst 2, 1) := by decide +kernel
theorem dL_law_559 : decode mL_law.2.1 559 = .ok (.iadd, 1) := by decide +kernel
theorem dL_law_560 : decode mL_law.2.1 560 = .ok (.iaload, 1) := by decide +kernel
theorem dL_law_561 : decode mL_law.2.1 561 = .ok (.aload_n 3, 1) := by decide +kernel
theorem dL_law_562 : decode mL_law.2.1 562 = .ok (.invokestatic 88, 3) := by decide +kernel
theorem dL_law_565 : decode mL_law.2.1 565 = .ok (.istore 5, 2) := by decide +kernel
theorem dL_law_567 : decode mL_law.2.1 567 = .ok (.aload_n 2, 1) := by decide +kernel
theorem dL_law_568 : decode mL_law.2.1 568 = .ok (.aload_n 0, 1) := by decide +kernel
theorem dL_law_569 : decode mL_law.2.1 569 = .ok (.iload 4, 2) := by decide +kernel
theorem dL_law_571 : decode mL_law.2.1 571 = .ok (.iconst 1, 1) := by decide +kernel
theorem dL_law_572 : decode mL_law.2.1 572 = .ok (.iadd, 1) := by decide +kernel
theorem dL_law_573 : decode mL_law.2.1 573 = .ok (.iaload, 1) := by decide +kernel
theorem dL_law_574 : decode mL_law.2.1 574 = .ok (.aload_n 0, 1) := by decide +kernel
theorem dL_law_575 : decode mL_law.2.1 575 = .ok (.iload 4, 2) := by decide +kernel
theorem dL_law_577 : decode mL_law.2.1 577 = .ok (.iconst 2, 1) := by decide +kernel
theorem dL_law_578 : decode mL_law.2.1 578 = .ok (.iadd, 1) := by decide +kernel
theorem dL_law_579 : decode mL_law.2.1 579 = .ok (.iaload, 1) := by decide +kernel
theorem dL_law_580 : decode mL_law.2.1 580 = .ok (.invokevirtual 90, 3) := by decide +kernel
theorem dL_law_583 : decode mL_law.2.1 583 = .ok (.istore 6, 2) := by decide +kernel
theorem dL_law_585 : decode mL_law.2.1 585 = .ok (.aload_n 2, 1) := by decide +kernel
theorem dL_law_586 : decode mL_law.2.1 586 = .ok (.invokevirtual 63, 3) := by decide +kernel
theorem dL_law_589 : decode mL_law.2.1 589 = .ok (.iload 5, 2) := by decide +kernel
theorem dL_law_591 : decode mL_law.2.1 591 = .ok (.if_icmp .eq 5, 3) := by decide +kernel
theorem dL_law_594 : decode mL_law.2.1 594 = .ok (.iconst 0, 1) := by decide +kernel
theorem dL_law_595 : decode mL_law.2.1 595 = .ok (.ireturn, 1) := by decide +kernel
theorem dL_law_596 : decode mL_law.2.1 596 = .ok (.iload 5, 2) := by decide +kernel
theorem dL_law_598 : decode mL_law.2.1 598 = .ok (.ifCond .ne 22, 3) := by decide +kernel
theorem dL_law_601 : decode mL_law.2.1 601 = .ok (.aload_n 3, 1) := by decide +kernel
theorem dL_law_602 : decode mL_law.2.1 602 = .ok (.iconst 0, 1) := by decide +kernel
theorem dL_law_603 : decode mL_law.2.1 603 = .ok (.laload, 1) := by decide +kernel
theorem dL_law_604 : decode mL_law.2.1 604 = .ok (.iload 6, 2) := by decide +kernel
theorem dL_law_606 : decode mL_law.2.1 606 = .ok (.ifCond .eq 7, 3) := by decide +kernel
theorem dL_law_609 : decode mL_law.2.1 609 = .ok (.lconst 1, 1) := by decide +kernel
theorem dL_law_610 : decode mL_law.2.1 610 = .ok (.goto 4, 3) := by decide +kernel
theorem dL_law_613 : decode mL_law.2.1 613 = .ok (.lconst 0, 1) := by decide +kernel
theorem dL_law_614 : decode mL_law.2.1 614 = .ok (.lcmp, 1) := by decide +kernel
theorem dL_law_615 : decode mL_law.2.1 615 = .ok (.ifCond .eq 5, 3) := by decide +kernel
theorem dL_law_618 : decode mL_law.2.1 618 = .ok (.iconst 0, 1) := by decide +kernel
theorem dL_law_619 : decode mL_law.2.1 619 = .ok (.ireturn, 1) := by decide +kernel
theorem dL_law_620 : decode mL_law.2.1 620 = .ok (.goto 309, 3) := by decide +kernel
theorem dL_law_623 : decode mL_law.2.1 623 = .ok (.aload_n 1, 1) := by decide +kernel
theorem dL_law_624 : decode mL_law.2.1 624 = .ok (.aload_n 0, 1) := by decide +kernel
theorem dL_law_625 : decode mL_law.2.1 625 = .ok (.iload 4, 2) := by decide +kernel
theorem dL_law_627 : decode mL_law.2.1 627 = .ok (.iconst 1, 1) := by decide +kernel
theorem dL_law_628 : decode mL_law.2.1 628 = .ok (.iadd, 1) := by decide +kernel
theorem dL_law_629 : decode mL_law.2.1 629 = .ok (.iaload, 1) := by decide +kernel
theorem dL_law_630 : decode mL_law.2.1 630 = .ok (.aload_n 3, 1) := by decide +kernel
theorem dL_law_631 : decode mL_law.2.1 631 = .ok (.invokestatic 91, 3) := by decide +kernel
theorem dL_law_634 : decode mL_law.2.1 634 = .ok (.istore 5, 2) := by decide +kernel
theorem dL_law_636 : decode mL_law.2.1 636 = .ok (.aload_n 2, 1) := by decide +kernel
theorem dL_law_637 : decode mL_law.2.1 637 = .ok (.aload_n 0, 1) := by decide +kernel
theorem dL_law_638 : decode mL_law.2.1 638 = .ok (.iload 4, 2) := by decide +kernel
theorem dL_law_640 : decode mL_law.2.1 640 = .ok (.iconst 1, 1) := by decide +kernel
theorem dL_law_641 : decode mL_law.2.1 641 = .ok (.iadd, 1) := by decide +kernel
theorem dL_law_642 : decode mL_law.2.1 642 = .ok (.iaload, 1) := by decide +kernel
theorem dL_law_643 : decode mL_law.2.1 643 = .ok (.invokevirtual 93, 3) := by decide +kernel
theorem dL_law_646 : decode mL_law.2.1 646 = .ok (.istore 6, 2) := by decide +kernel
theorem dL_law_648 : decode mL_law.2.1 648 = .ok (.aload_n 2, 1) := by decide +kernel
theorem dL_law_649 : decode mL_law.2.1 649 = .ok (.invokevirtual 63, 3) := by decide +kernel
theorem dL_law_652 : decode mL_law.2.1 652 = .ok (.iload 5, 2) := by decide +kernel
theorem dL_law_654 : decode mL_law.2.1 654 = .ok (.if_icmp .eq 5, 3) := by decide +kernel
theorem dL_law_657 : decode mL_law.2.1 657 = .ok (.iconst 0, 1) := by decide +kernel
theorem dL_law_658 : decode mL_law.2.1 658 = .ok (.ireturn, 1) := by decide +kernel
theorem dL_law_659 : decode mL_law.2.1 659 = .ok (.iload 5, 2) := by decide +kernel
theorem dL_law_661 : decode mL_law.2.1 661 = .ok (.ifCond .ne 15, 3) := by decide +kernel
theorem dL_law_664 : decode mL_law.2.1 664 = .ok (.aload_n 3, 1) := by decide +kernel
theorem dL_law_665 : decode mL_law.2.1 665 = .ok (.iconst 0, 1) := by decide +kernel
theorem dL_law_666 : decode mL_law.2.1 666 = .ok (.laload, 1) := by decide +kernel
theorem dL_law_667 : decode mL_law.2.1 667 = .ok (.iload 6, 2) := by decide +kernel
theorem dL_law_669 : decode mL_law.2.1 669 = .ok (.i2l, 1) := by decide +kernel
theorem dL_law_670 : decode mL_law.2.1 670 = .ok (.lcmp, 1) := by decide +kernel
theorem dL_law_671 : decode mL_law.2.1 671 = .ok (.ifCond .eq 5, 3) := by decide +kernel
theorem dL_law_674 : decode mL_law.2.1 674 = .ok (.iconst 0, 1) := by decide +kernel
theorem dL_law_675 : decode mL_law.2.1 675 = .ok (.ireturn, 1) := by decide +kernel
theorem dL_law_676 : decode mL_law.2.1 676 = .ok (.goto 253, 3) := by decide +kernel
theorem dL_law_679 : decode mL_law.2.1 679 = .ok (.aload_n 1, 1) := by decide +kernel
theorem dL_law_680 : decode mL_law.2.1 680 = .ok (.aload_n 0, 1) := by decide +kernel
theorem dL_law_681 : decode mL_law.2.1 681 = .ok (.iload 4, 2) := by decide +kernel
theorem dL_law_683 : decode mL_law.2.1 683 = .ok (.iconst 1, 1) := by decide +kernel
theorem dL_law_684 : decode mL_law.2.1 684 = .ok (.iadd, 1) := by decide +kernel
theorem dL_law_685 : decode mL_law.2.1 685 = .ok (.iaload, 1) := by decide +kernel
theorem dL_law_686 : decode mL_law.2.1 686 = .ok (.aload_n 3, 1) := by decide +kernel
theorem dL_law_687 : decode mL_law.2.1 687 = .ok (.invokestatic 94, 3) := by decide +kernel
theorem dL_law_690 : decode mL_law.2.1 690 = .ok (.istore 5, 2) := by decide +kernel
theorem dL_law_692 : decode mL_law.2.1 692 = .ok (.aload_n 2, 1) := by decide +kernel
theorem dL_law_693 : decode mL_law.2.1 693 = .ok (.aload_n 0, 1) := by decide +kernel
theorem dL_law_694 : decode mL_law.2.1 694 = .ok (.iload 4, 2) := by decide +kernel
theorem dL_law_696 : decode mL_law.2.1 696 = .ok (.iconst 1, 1) := by decide +kernel
theorem dL_law_697 : decode mL_law.2.1 697 = .ok (.iadd, 1) := by decide +kernel
theorem dL_law_698 : decode mL_law.2.1 698 = .ok (.iaload, 1) := by decide +kernel
theorem dL_law_699 : decode mL_law.2.1 699 = .ok (.invokevirtual 96, 3) := by decide +kernel
theorem dL_law_702 : decode mL_law.2.1 702 = .ok (.istore 6, 2) := by decide +kernel
theorem dL_law_704 : decode mL_law.2.1 704 = .ok (.aload_n 2, 1) := by decide +kernel
theorem dL_law_705 : decode mL_law.2.1 705 = .ok (.invokevirtual 63, 3) := by decide +kernel
theorem dL_law_708 : decode mL_law.2.1 708 = .ok (.iload 5, 2) := by decide +kernel
theorem dL_law_710 : decode mL_law.2.1 710 = .ok (.if_icmp .eq 5, 3) := by decide +kernel
theorem dL_law_713 : decode mL_law.2.1 713 = .ok (.iconst 0, 1) := by decide +kernel
theorem dL_law_714 : decode mL_law.2.1 714 = .ok (.ireturn, 1) := by decide +kernel
theorem dL_law_715 : decode mL_law.2.1 715 = .ok (.iload 5, 2) := by decide +kernel
theorem dL_law_717 : decode mL_law.2.1 717 = .ok (.ifCond .ne 22, 3) := by decide +kernel
theorem dL_law_720 : decode mL_law.2.1 720 = .ok (.aload_n 3, 1) := by decide +kernel
theorem dL_law_721 : decode mL_law.2.1 721 = .ok (.iconst 0, 1) := by decide +kernel
theorem dL_law_722 : decode mL_law.2.1 722 = .ok (.laload, 1) := by decide +kernel
theorem dL_law_723 : decode mL_law.2.1 723 = .ok (.iload 6, 2) := by decide +kernel
theorem dL_law_725 : decode mL_law.2.1 725 = .ok (.ifCond .eq 7, 3) := by decide +kernel
theorem dL_law_728 : decode mL_law.2.1 728 = .ok (.lconst 1, 1) := by decide +kernel
theorem dL_law_729 : decode mL_law.2.1 729 = .ok (.goto 4, 3) := by decide +kernel
theorem dL_law_732 : decode mL_law.2.1 732 = .ok (.lconst 0, 1) := by decide +kernel
theorem dL_law_733 : decode mL_law.2.1 733 = .ok (.lcmp, 1) := by decide +kernel
theorem dL_law_734 : decode mL_law.2.1 734 = .ok (.ifCond .eq 5, 3) := by decide +kernel
theorem dL_law_737 : decode mL_law.2.1 737 = .ok (.iconst 0, 1) := by decide +kernel
theorem dL_law_738 : decode mL_law.2.1 738 = .ok (.ireturn, 1) := by decide +kernel
theorem dL_law_739 : decode mL_law.2.1 739 = .ok (.goto 190, 3) := by decide +kernel
theorem dL_law_742 : decode mL_law.2.1 742 = .ok (.aload_n 1, 1) := by decide +kernel
theorem dL_law_743 : decode mL_law.2.1 743 = .ok (.invokevirtual 97, 3) := by decide +kernel
theorem dL_law_746 : decode mL_law.2.1 746 = .ok (.aload_n 2, 1) := by decide +kernel
theorem dL_law_747 : decode mL_law.2.1 747 = .ok (.invokevirtual 100, 3) := by decide +kernel
theorem dL_law_750 : decode mL_law.2.1 750 = .ok (.if_icmp .eq 179, 3) := by decide +kernel
theorem dL_law_753 : decode mL_law.2.1 753 = .ok (.iconst 0, 1) := by decide +kernel
theorem dL_law_754 : decode mL_law.2.1 754 = .ok (.ireturn, 1) := by decide +kernel
theorem dL_law_755 : decode mL_law.2.1 755 = .ok (.aload_n 1, 1) := by decide +kernel
theorem dL_law_756 : decode mL_law.2.1 756 = .ok (.aload_n 0, 1) := by decide +kernel
theorem dL_law_757 : decode mL_law.2.1 757 = .ok (.iload 4, 2) := by decide +kernel
theorem dL_law_759 : decode mL_law.2.1 759 = .ok (.iconst 1, 1) := by decide +kernel
theorem dL_law_760 : decode mL_law.2.1 760 = .ok (.iadd, 1) := by decide +kernel
theorem dL_law_761 : decode mL_law.2.1 761 = .ok (.iaload, 1) := by decide +kernel
theorem dL_law_762 : decode mL_law.2.1 762 = .ok (.aload_n 0, 1) := by decide +kernel
theorem dL_law_763 : decode mL_law.2.1 763 = .ok (.iload 4, 2) := by decide +kernel
theorem dL_law_765 : decode mL_law.2.1 765 = .ok (.iconst 2, 1) := by decide +kernel
theorem dL_law_766 : decode mL_law.2.1 766 = .ok (.iadd, 1) := by decide +kernel
theorem dL_law_767 : decode mL_law.2.1 767 = .ok (.iaload, 1) := by decide +kernel
theorem dL_law_768 : decode mL_law.2.1 768 = .ok (.aload_n 3, 1) := by decide +kernel
theorem dL_law_769 : decode mL_law.2.1 769 = .ok (.invokestatic 101, 3) := by decide +kernel
theorem dL_law_772 : decode mL_law.2.1 772 = .ok (.istore 5, 2) := by decide +kernel
theorem dL_law_774 : decode mL_law.2.1 774 = .ok (.aload_n 2, 1) := by decide +kernel
theorem dL_law_775 : decode mL_law.2.1 775 = .ok (.aload_n 0, 1) := by decide +kernel
theorem dL_law_776 : decode mL_law.2.1 776 = .ok (.iload 4, 2) := by decide +kernel
theorem dL_law_778 : decode mL_law.2.1 778 = .ok (.iconst 1, 1) := by decide +kernel
theorem dL_law_779 : decode mL_law.2.1 779 = .ok (.iadd, 1) := by decide +kernel
theorem dL_law_780 : decode mL_law.2.1 780 = .ok (.iaload, 1) := by decide +kernel
theorem dL_law_781 : decode mL_law.2.1 781 = .ok (.aload_n 0, 1) := by decide +kernel
theorem dL_law_782 : decode mL_law.2.1 782 = .ok (.iload 4, 2) := by decide +kernel
theorem dL_law_784 : decode mL_law.2.1 784 = .ok (.iconst 2, 1) := by decide +kernel
theorem dL_law_785 : decode mL_law.2.1 785 = .ok (.iadd, 1) := by decide +kernel
theorem dL_law_786 : decode mL_law.2.1 786 = .ok (.iaload, 1) := by decide +kernel
theorem dL_law_787 : decode mL_law.2.1 787 = .ok (.invokevirtual 103, 3) := by decide +kernel
theorem dL_law_790 : decode mL_law.2.1 790 = .ok (.istore 6, 2) := by decide +kernel
theorem dL_law_792 : decode mL_law.2.1 792 = .ok (.aload_n 2, 1) := by decide +kernel
theorem dL_law_793 : decode mL_law.2.1 793 = .ok (.invokevirtual 63, 3) := by decide +kernel
theorem dL_law_796 : decode mL_law.2.1 796 = .ok (.iload 5, 2) := by decide +kernel
theorem dL_law_798 : decode mL_law.2.1 798 = .ok (.if_icmp .eq 5, 3) := by decide +kernel
theorem dL_law_801 : decode mL_law.2.1 801 = .ok (.iconst 0, 1) := by decide +kernel
theorem dL_law_802 : decode mL_law.2.1 802 = .ok (.ireturn, 1) := by decide +kernel
theorem dL_law_803 : decode mL_law.2.1 803 = .ok (.iload 5, 2) := by decide +kernel
theorem dL_law_805 : decode mL_law.2.1 805 = .ok (.ifCond .ne 15, 3) := by decide +kernel
theorem dL_law_808 : decode mL_law.2.1 808 = .ok (.aload_n 3, 1) := by decide +kernel
theorem dL_law_809 : decode mL_law.2.1 809 = .ok (.iconst 0, 1) := by decide +kernel
theorem dL_law_810 : decode mL_law.2.1 810 = .ok (.laload, 1) := by decide +kernel
theorem dL_law_811 : decode mL_law.2.1 811 = .ok (.iload 6, 2) := by decide +kernel
theorem dL_law_813 : decode mL_law.2.1 813 = .ok (.i2l, 1) := by decide +kernel
theorem dL_law_814 : decode mL_law.2.1 814 = .ok (.lcmp, 1) := by decide +kernel
theorem dL_law_815 : decode mL_law.2.1 815 = .ok (.ifCond .eq 5, 3) := by decide +kernel
theorem dL_law_818 : decode mL_law.2.1 818 = .ok (.iconst 0, 1) := by decide +kernel
theorem dL_law_819 : decode mL_law.2.1 819 = .ok (.ireturn, 1) := by decide +kernel
theorem dL_law_820 : decode mL_law.2.1 820 = .ok (.goto 109, 3) := by decide +kernel
theorem dL_law_823 : decode mL_law.2.1 823 = .ok (.aload_n 1, 1) := by decide +kernel
theorem dL_law_824 : decode mL_law.2.1 824 = .ok (.aload_n 0, 1) := by decide +kernel
theorem dL_law_825 : decode mL_law.2.1 825 = .ok (.iload 4, 2) := by decide +kernel
theorem dL_law_827 : decode mL_law.2.1 827 = .ok (.iconst 1, 1) := by decide +kernel
theorem dL_law_828 : decode mL_law.2.1 828 = .ok (.iadd, 1) := by decide +kernel
theorem dL_law_829 : decode mL_law.2.1 829 = .ok (.iaload, 1) := by decide +kernel
theorem dL_law_830 : decode mL_law.2.1 830 = .ok (.aload_n 3, 1) := by decide +kernel
theorem dL_law_831 : decode mL_law.2.1 831 = .ok (.invokestatic 104, 3) := by decide +kernel
theorem dL_law_834 : decode mL_law.2.1 834 = .ok (.istore 5, 2) := by decide +kernel
theorem dL_law_836 : decode mL_law.2.1 836 = .ok (.aload_n 2, 1) := by decide +kernel
theorem dL_law_837 : decode mL_law.2.1 837 = .ok (.aload_n 0, 1) := by decide +kernel
theorem dL_law_838 : decode mL_law.2.1 838 = .ok (.iload 4, 2) := by decide +kernel
theorem dL_law_840 : decode mL_law.2.1 840 = .ok (.iconst 1, 1) := by decide +kernel
theorem dL_law_841 : decode mL_law.2.1 841 = .ok (.iadd, 1) := by decide +kernel
theorem dL_law_842 : decode mL_law.2.1 842 = .ok (.iaload, 1) := by decide +kernel
theorem dL_law_843 : decode mL_law.2.1 843 = .ok (.invokevirtual 106, 3) := by decide +kernel
theorem dL_law_846 : decode mL_law.2.1 846 = .ok (.istore 6, 2) := by decide +kernel
theorem dL_law_848 : decode mL_law.2.1 848 = .ok (.aload_n 2, 1) := by decide +kernel
theorem dL_law_849 : decode mL_law.2.1 849 = .ok (.invokevirtual 63, 3) := by decide +kernel
theorem dL_law_852 : decode mL_law.2.1 852 = .ok (.iload 5, 2) := by decide +kernel
theorem dL_law_854 : decode mL_law.2.1 854 = .ok (.if_icmp .eq 5, 3) := by decide +kernel
theorem dL_law_857 : decode mL_law.2.1 857 = .ok (.iconst 0, 1) := by decide +kernel
theorem dL_law_858 : decode mL_law.2.1 858 = .ok (.ireturn, 1) := by decide +kernel
theorem dL_law_859 : decode mL_law.2.1 859 = .ok (.iload 5, 2) := by decide +kernel
theorem dL_law_861 : decode mL_law.2.1 861 = .ok (.ifCond .ne 15, 3) := by decide +kernel
theorem dL_law_864 : decode mL_law.2.1 864 = .ok (.aload_n 3, 1) := by decide +kernel
theorem dL_law_865 : decode mL_law.2.1 865 = .ok (.iconst 0, 1) := by decide +kernel
theorem dL_law_866 : decode mL_law.2.1 866 = .ok (.laload, 1) := by decide +kernel
theorem dL_law_867 : decode mL_law.2.1 867 = .ok (.iload 6, 2) := by decide +kernel
theorem dL_law_869 : decode mL_law.2.1 869 = .ok (.i2l, 1) := by decide +kernel
theorem dL_law_870 : decode mL_law.2.1 870 = .ok (.lcmp, 1) := by decide +kernel
theorem dL_law_871 : decode mL_law.2.1 871 = .ok (.ifCond .eq 5, 3) := by decide +kernel
theorem dL_law_874 : decode mL_law.2.1 874 = .ok (.iconst 0, 1) := by decide +kernel
theorem dL_law_875 : decode mL_law.2.1 875 = .ok (.ireturn, 1) := by decide +kernel
theorem dL_law_876 : decode mL_law.2.1 876 = .ok (.goto 53, 3) := by decide +kernel
theorem dL_law_879 : decode mL_law.2.1 879 = .ok (.aload_n 1, 1) := by decide +kernel
theorem dL_law_880 : decode mL_law.2.1 880 = .ok (.aload_n 0, 1) := by decide +kernel
theorem dL_law_881 : decode mL_law.2.1 881 = .ok (.iload 4, 2) := by decide +kernel
theorem dL_law_883 : decode mL_law.2.1 883 = .ok (.iconst 1, 1) := by decide +kernel
theorem dL_law_884 : decode mL_law.2.1 884 = .ok (.iadd, 1) := by decide +kernel
theorem dL_law_885 : decode mL_law.2.1 885 = .ok (.iaload, 1) := by decide +kernel
theorem dL_law_886 : decode mL_law.2.1 886 = .ok (.invokevirtual 107, 3) := by decide +kernel
theorem dL_law_889 : decode mL_law.2.1 889 = .ok (.aload_n 2, 1) := by decide +kernel
theorem dL_law_890 : decode mL_law.2.1 890 = .ok (.aload_n 0, 1) := by decide +kernel
theorem dL_law_891 : decode mL_law.2.1 891 = .ok (.iload 4, 2) := by decide +kernel
theorem dL_law_893 : decode mL_law.2.1 893 = .ok (.iconst 1, 1) := by decide +kernel
theorem dL_law_894 : decode mL_law.2.1 894 = .ok (.iadd, 1) := by decide +kernel
theorem dL_law_895 : decode mL_law.2.1 895 = .ok (.iaload, 1) := by decide +kernel
theorem dL_law_896 : decode mL_law.2.1 896 = .ok (.invokevirtual 110, 3) := by decide +kernel
theorem dL_law_899 : decode mL_law.2.1 899 = .ok (.if_icmp .eq 30, 3) := by decide +kernel
theorem dL_law_902 : decode mL_law.2.1 902 = .ok (.iconst 0, 1) := by decide +kernel
theorem dL_law_903 : decode mL_law.2.1 903 = .ok (.ireturn, 1) := by decide +kernel
theorem dL_law_904 : decode mL_law.2.1 904 = .ok (.aload_n 1, 1) := by decide +kernel
theorem dL_law_905 : decode mL_law.2.1 905 = .ok (.aload_n 0, 1) := by decide +kernel
theorem dL_law_906 : decode mL_law.2.1 906 = .ok (.iload 4, 2) := by decide +kernel
theorem dL_law_908 : decode mL_law.2.1 908 = .ok (.iconst 1, 1) := by decide +kernel
theorem dL_law_909 : decode mL_law.2.1 909 = .ok (.iadd, 1) := by decide +kernel
theorem dL_law_910 : decode mL_law.2.1 910 = .ok (.iaload, 1) := by decide +kernel
theorem dL_law_911 : decode mL_law.2.1 911 = .ok (.invokevirtual 111, 3) := by decide +kernel
theorem dL_law_914 : decode mL_law.2.1 914 = .ok (.aload_n 2, 1) := by decide +kernel
theorem dL_law_915 : decode mL_law.2.1 915 = .ok (.aload_n 0, 1) := by decide +kernel
theorem dL_law_916 : decode mL_law.2.1 916 = .ok (.iload 4, 2) := by decide +kernel
theorem dL_law_918 : decode mL_law.2.1 918 = .ok (.iconst 1, 1) := by decide +kernel
theorem dL_law_919 : decode mL_law.2.1 919 = .ok (.iadd, 1) := by decide +kernel
theorem dL_law_920 : decode mL_law.2.1 920 = .ok (.iaload, 1) := by decide +kernel
theorem dL_law_921 : decode mL_law.2.1 921 = .ok (.invokevirtual 114, 3) := by decide +kernel
theorem dL_law_924 : decode mL_law.2.1 924 = .ok (.if_icmp .eq 5, 3) := by decide +kernel
theorem dL_law_927 : decode mL_law.2.1 927 = .ok (.iconst 0, 1) := by decide +kernel
theorem dL_law_928 : decode mL_law.2.1 928 = .ok (.ireturn, 1) := by decide +kernel
theorem dL_law_929 : decode mL_law.2.1 929 = .ok (.iinc 4 4, 3) := by decide +kernel
theorem dL_law_932 : decode mL_law.2.1 932 = .ok (.goto (-909), 3) := by decide +kernel
theorem dL_law_935 : decode mL_law.2.1 935 = .ok (.iconst 1, 1) := by decide +kernel
theorem dL_law_936 : decode mL_law.2.1 936 = .ok (.ireturn, 1) := by decide +kernel
end
section
/-! rows with the new value named; arguments; names -/
section GE
variable {π : gP} {mi : gM} {pc : Nat} {loc loc' stk : List gV} {h : gH} {mc ms : Nat} {Q : Option (Option gV) → gH → Prop}
theorem e_iadd {a b v : Int} (hd : decode mi.2.1 pc = .ok (.iadd, 1)) (hv : gadd a b = v) (k : G π mi (pc + 1) loc (gI v :: stk) h mc ms Q) : G π mi pc loc (gI b :: gI a :: stk) h mc ms Q := g_iadd hd (by rw [hv]; exact k)
theorem e_isub {a b v : Int} (hd : decode mi.2.1 pc = .ok (.isub, 1)) (hv : gsub a b = v) (k : G π mi (pc + 1) loc (gI v :: stk) h mc ms Q) : G π mi pc loc (gI b :: gI a :: stk) h mc ms Q := g_isub hd (by rw [hv]; exact k)
theorem e_imul {a b v : Int} (hd : decode mi.2.1 pc = .ok (.imul, 1)) (hv : gmul a b = v) (k : G π mi (pc + 1) loc (gI v :: stk) h mc ms Q) : G π mi pc loc (gI b :: gI a :: stk) h mc ms Q := g_imul hd (by rw [hv]; exact k)
theorem e_iand {a b v : Int} (hd : decode mi.2.1 pc = .ok (.iand, 1)) (hv : gand a b = v) (k : G π mi (pc + 1) loc (gI v :: stk) h mc ms Q) : G π mi pc loc (gI b :: gI a :: stk) h mc ms Q := g_iand hd (by rw [hv]; exact k)
theorem e_ior {a b v : Int} (hd : decode mi.2.1 pc = .ok (.ior, 1)) (hv : gor a b = v) (k : G π mi (pc + 1) loc (gI v :: stk) h mc ms Q) : G π mi pc loc (gI b :: gI a :: stk) h mc ms Q := g_ior hd (by rw [hv]; exact k)
theorem e_ixor {a b v : Int} (hd : decode mi.2.1 pc = .ok (.ixor, 1)) (hv : gxor a b = v) (k : G π mi (pc + 1) loc (gI v :: stk) h mc ms Q) : G π mi pc loc (gI b :: gI a :: stk) h mc ms Q := g_ixor hd (by rw [hv]; exact k)
theorem e_ishl {a b v : Int} (hd : decode mi.2.1 pc = .ok (.ishl, 1)) (hv : gshl a b = v) (k : G π mi (pc + 1) loc (gI v :: stk) h mc ms Q) : G π mi pc loc (gI b :: gI a :: stk) h mc ms Q := g_ishl hd (by rw [hv]; exact k)
theorem e_ishr {a b v : Int} (hd : decode mi.2.1 pc = .ok (.ishr, 1)) (hv : gshr a b = v) (k : G π mi (pc + 1) loc (gI v :: stk) h mc ms Q) : G π mi pc loc (gI b :: gI a :: stk) h mc ms Q := g_ishr hd (by rw [hv]; exact k)
theorem e_idiv {a b v : Int} (hd : decode mi.2.1 pc = .ok (.idiv, 1)) (hne : b ≠ 0) (hv : gdiv a b = v) (k : G π mi (pc + 1) loc (gI v :: stk) h mc ms Q) : G π mi pc loc (gI b :: gI a :: stk) h mc ms Q := g_idiv hd hne (by rw [hv]; exact k)
theorem e_irem {a b v : Int} (hd : decode mi.2.1 pc = .ok (.irem, 1)) (hne : b ≠ 0) (hv : grem a b = v) (k : G π mi (pc + 1) loc (gI v :: stk) h mc ms Q) : G π mi pc loc (gI b :: gI a :: stk) h mc ms Q := g_irem hd hne (by rw [hv]; exact k)
theorem e_iinc {i : Nat} {n x v : Int} (hd : decode mi.2.1 pc = .ok (.iinc i n, 3)) (hn : i < mi.2.2.1) (hx : loc[i]? = some (gI x)) (hv : gadd x n = v) (hl : loc.set i (gI v) = loc') (kk : G π mi (pc + 3) loc' stk h mc ms Q) : G π mi pc loc stk h mc ms Q := g_iinc hd hn hx (by rw [hv, hl]; exact kk)
theorem e_istore_n {k : Fin 4} {i : Nat} {x : Int} (hd : decode mi.2.1 pc = .ok (.istore_n k, 1)) (hi : (k : Nat) = i) (hn : i < mi.2.2.1) (hl : loc.set i (gI x) = loc') (kk : G π mi (pc + 1) loc' stk h mc ms Q) : G π mi pc loc (gI x :: stk) h mc ms Q := g_istore_n hd hi hn (by rw [hl]; exact kk)
theorem e_istore {i : Nat} {x : Int} (hd : decode mi.2.1 pc = .ok (.istore i, 2)) (hn : i < mi.2.2.1) (hl : loc.set i (gI x) = loc') (kk : G π mi (pc + 2) loc' stk h mc ms Q) : G π mi pc loc (gI x :: stk) h mc ms Q := g_istore hd hn (by rw [hl]; exact kk)
theorem e_astore_n {k : Fin 4} {i : Nat} {o : Option Nat} (hd : decode mi.2.1 pc = .ok (.astore_n k, 1)) (hi : (k : Nat) = i) (hn : i < mi.2.2.1) (hl : loc.set i (gR o) = loc') (kk : G π mi (pc + 1) loc' stk h mc ms Q) : G π mi pc loc (gR o :: stk) h mc ms Q := g_astore_n hd hi hn (by rw [hl]; exact kk)
theorem e_astore {i : Nat} {o : Option Nat} (hd : decode mi.2.1 pc = .ok (.astore i, 2)) (hn : i < mi.2.2.1) (hl : loc.set i (gR o) = loc') (kk : G π mi (pc + 2) loc' stk h mc ms Q) : G π mi pc loc (gR o :: stk) h mc ms Q := g_astore hd hn (by rw [hl]; exact kk)
theorem g_dupR {o : Option Nat} (hd : decode mi.2.1 pc = .ok (.dup, 1)) (k : G π mi (pc + 1) loc (gR o :: gR o :: stk) h mc ms Q) : G π mi pc loc (gR o :: stk) h mc ms Q := g_dup (Or.inr ⟨o, rfl⟩) hd k
/-- the same heap, the same places -/
theorem g_eq {h' : gH} (e1 : loc = loc') (e2 : h = h') (k : G π mi pc loc' stk h' mc ms Q) : G π mi pc loc stk h mc ms Q := by
  subst e1; subst e2; exact k
def sAbs (x : Int) : Int := if 0 ≤ x then x else gsub 0 x
theorem e_abs {idx : Nat} {a v : Int} (hd : decode mi.2.1 pc = .ok (.invokestatic idx, 3)) (hw : Cond.methodLink mi.1 idx Lib.Math.abs.name ∈ π.2.1 ∧ Cond.static Lib.Math.abs.name ∈ π.2.1 ∧ Cond.initialized "java/lang/Math" ∈ π.2.1 ∧ Cond.code Lib.Math.abs.name Lib.Math.abs.code 1 (some .int) ∈ π.2.1) (hR : 1 ≤ mi.2.2.2.1 ∧ gcs stk + 13 ≤ mi.2.2.2.2.1) (hv : sAbs a = v) (k : G π mi (pc + 3) loc (gI v :: stk) h mc ms Q) : G π mi pc loc (gI a :: stk) h mc ms Q := g_abs hd hw hR (by rw [← hv] at k; exact k)
theorem gAn : ∀ v ∈ ([] : List gV), (∃ x, v = gI x) ∨ ∃ o, v = gR o := fun v hv => nomatch hv
theorem gAi {as : List gV} {x : Int} (h : ∀ v ∈ as, (∃ x, v = gI x) ∨ ∃ o, v = gR o) : ∀ v ∈ (gI x :: as), (∃ x, v = gI x) ∨ ∃ o, v = gR o := fun v hv => (List.mem_cons.mp hv).elim (fun e => Or.inl ⟨x, e⟩) (h v)
theorem gAr {as : List gV} {o : Option Nat} (h : ∀ v ∈ as, (∃ x, v = gI x) ∨ ∃ o, v = gR o) : ∀ v ∈ (gR o :: as), (∃ x, v = gI x) ∨ ∃ o, v = gR o := fun v hv => (List.mem_cons.mp hv).elim (fun e => Or.inr ⟨o, e⟩) (h v)
theorem pnX0 : Jvm.plainName "RopewayDesk$Cabin" = true := by decide +kernel
theorem pnX1 : Jvm.plainName "RopewayDesk$Fleet" = true := by decide +kernel
theorem pnX2 : Jvm.plainName "RopewayDesk$Siding" = true := by decide +kernel
theorem pnX3 : Jvm.plainName "RopewayDesk$Station" = true := by decide +kernel
theorem pnX4 : Jvm.plainName "RopewayDesk$WindBook" = true := by decide +kernel
theorem pnX5 : Jvm.plainName "RopewayDesk" = true := by decide +kernel
theorem pnX6 : Jvm.plainName "RopewayDeskModel" = true := by decide +kernel
theorem pnL : Jvm.plainName "RopewayDeskLaw" = true := by decide +kernel
theorem kc0 (l : Launch) : (gπ l).2.2.1[0]? = some KX0 ∧ 0 ∈ (gπ l).2.2.2.1 := ⟨rfl, List.mem_cons_self⟩
theorem kc3 (l : Launch) : (gπ l).2.2.1[3]? = some KX3 ∧ 3 ∈ (gπ l).2.2.2.1 := ⟨rfl, List.mem_cons_of_mem _ List.mem_cons_self⟩
end GE
end
section
/-! contracts: a cabin -/
def gK1 (x : Int) : Option (Option gV) := some (some (gI x))
set_option maxHeartbeats 1000000 in
theorem cX0_isClamping (l : Launch) {L : Nat} {C M : Nat → Nat → Int} {Z : Nat → Nat → Option Nat} {R : Nat → Option Nat} {n : Nat} (h1 : 4 ≤ n) (h2 : n < 64) : gMi (gπ l) mX0_isClamping yX0_isClamping [gR (some n)] (hq L C M Z R) (if 0 ≤ C n 6 then 1 else 0) (hq L C M Z R) := by
  refine gMet_of pnX0 rfl rfl rfl (Nat.le_of_ble_eq_true rfl) (gAr gAn) ?_
  show G (gπ l) mX0_isClamping 0 [gR (some n)] [] (hq L C M Z R) 0 0 _
  refine g_aload_n dX0_isClamping_0 rfl rfl ?_
  refine c_getI (x := C n 6) dX0_isClamping_1 (fX0_27 l) rfl (T0_cab (by omega) (by omega)) (by omega) rfl ?_
  refine g_if_lt (tgt := 11) dX0_isClamping_4 (by decide) (fun c4 => ?_) (fun c4 => ?_)
  · refine g_iconst (x := 0) dX0_isClamping_11 (by decide) ?_
    exact g_iret dX0_isClamping_12 (Or.inr ⟨rfl, Or.inl rfl⟩) ⟨congrArg gK1 (by (repeat' split) <;> omega), rfl⟩
  · refine g_iconst (x := 1) dX0_isClamping_7 (by decide) ?_
    refine g_goto (tgt := 12) dX0_isClamping_8 (by decide) ?_
    exact g_iret dX0_isClamping_12 (Or.inr ⟨rfl, Or.inr rfl⟩) ⟨congrArg gK1 (by (repeat' split) <;> omega), rfl⟩
set_option maxHeartbeats 1000000 in
theorem cX0_hasReport (l : Launch) {L : Nat} {C M : Nat → Nat → Int} {Z : Nat → Nat → Option Nat} {R : Nat → Option Nat} {n : Nat} (h1 : 4 ≤ n) (h2 : n < 64) : gMi (gπ l) mX0_hasReport yX0_hasReport [gR (some n)] (hq L C M Z R) (if 0 ≤ C n 7 then 1 else 0) (hq L C M Z R) := by
  refine gMet_of pnX0 rfl rfl rfl (Nat.le_of_ble_eq_true rfl) (gAr gAn) ?_
  show G (gπ l) mX0_hasReport 0 [gR (some n)] [] (hq L C M Z R) 0 0 _
  refine g_aload_n dX0_hasReport_0 rfl rfl ?_
  refine c_getI (x := C n 7) dX0_hasReport_1 (fX0_30 l) rfl (T0_cab (by omega) (by omega)) (by omega) rfl ?_
  refine g_if_lt (tgt := 11) dX0_hasReport_4 (by decide) (fun c4 => ?_) (fun c4 => ?_)
  · refine g_iconst (x := 0) dX0_hasReport_11 (by decide) ?_
    exact g_iret dX0_hasReport_12 (Or.inr ⟨rfl, Or.inl rfl⟩) ⟨congrArg gK1 (by (repeat' split) <;> omega), rfl⟩
  · refine g_iconst (x := 1) dX0_hasReport_7 (by decide) ?_
    refine g_goto (tgt := 12) dX0_hasReport_8 (by decide) ?_
    exact g_iret dX0_hasReport_12 (Or.inr ⟨rfl, Or.inr rfl⟩) ⟨congrArg gK1 (by (repeat' split) <;> omega), rfl⟩
def sStand (C : Nat → Nat → Int) (n : Nat) (p : Int) : Nat → Nat → Int := up (up (up (up C n 1 p) n 2 (-1)) n 3 (-1)) n 5 (-1)
set_option maxHeartbeats 1000000 in
theorem cX0_standAt (l : Launch) {L : Nat} {C M : Nat → Nat → Int} {Z : Nat → Nat → Option Nat} {R : Nat → Option Nat} {n : Nat} (h1 : 4 ≤ n) (h2 : n < 64) {p : Int} : gMv (gπ l) mX0_standAt yX0_standAt [gR (some n), gI p] (hq L C M Z R) (hq L (sStand C n p) M Z R) := by
  refine gMet_of pnX0 rfl rfl rfl (Nat.le_of_ble_eq_true rfl) (gAr (gAi gAn)) ?_
  show G (gπ l) mX0_standAt 0 [gR (some n), gI p] [] (hq L C M Z R) 0 0 _
  refine g_aload_n dX0_standAt_0 rfl rfl ?_
  refine g_iload_n dX0_standAt_1 rfl rfl ?_
  refine c_putI dX0_standAt_2 (fX0_9 l) gTX0 ⟨rfl, rfl⟩ rfl (T0_cab (by omega) (by omega)) (by omega) (by omega) ?_
  refine g_aload_n dX0_standAt_5 rfl rfl ?_
  refine g_iconst (x := -1) dX0_standAt_6 (by decide) ?_
  refine c_putI dX0_standAt_7 (fX0_15 l) gTX0 ⟨rfl, rfl⟩ rfl (T0_cab (by omega) (by omega)) (by omega) (by omega) ?_
  refine g_aload_n dX0_standAt_10 rfl rfl ?_
  refine g_iconst (x := -1) dX0_standAt_11 (by decide) ?_
  refine c_putI dX0_standAt_12 (fX0_18 l) gTX0 ⟨rfl, rfl⟩ rfl (T0_cab (by omega) (by omega)) (by omega) (by omega) ?_
  refine g_aload_n dX0_standAt_15 rfl rfl ?_
  refine g_iconst (x := -1) dX0_standAt_16 (by decide) ?_
  refine c_putI dX0_standAt_17 (fX0_24 l) gTX0 ⟨rfl, rfl⟩ rfl (T0_cab (by omega) (by omega)) (by omega) (by omega) ?_
  exact g_vret dX0_standAt_20 rfl ⟨rfl, rfl⟩
set_option maxHeartbeats 1000000 in
theorem cX0_stopClamping (l : Launch) {L : Nat} {C M : Nat → Nat → Int} {Z : Nat → Nat → Option Nat} {R : Nat → Option Nat} {n : Nat} (h1 : 4 ≤ n) (h2 : n < 64) : gMv (gπ l) mX0_stopClamping yX0_stopClamping [gR (some n)] (hq L C M Z R) (hq L (up (up (up C n 6 (-1)) n 7 (-1)) n 8 (-1)) M Z R) := by
  refine gMet_of pnX0 rfl rfl rfl (Nat.le_of_ble_eq_true rfl) (gAr gAn) ?_
  show G (gπ l) mX0_stopClamping 0 [gR (some n)] [] (hq L C M Z R) 0 0 _
  refine g_aload_n dX0_stopClamping_0 rfl rfl ?_
  refine g_iconst (x := -1) dX0_stopClamping_1 (by decide) ?_
  refine c_putI dX0_stopClamping_2 (fX0_27 l) gTX0 ⟨rfl, rfl⟩ rfl (T0_cab (by omega) (by omega)) (by omega) (by omega) ?_
  refine g_aload_n dX0_stopClamping_5 rfl rfl ?_
  refine g_iconst (x := -1) dX0_stopClamping_6 (by decide) ?_
  refine c_putI dX0_stopClamping_7 (fX0_30 l) gTX0 ⟨rfl, rfl⟩ rfl (T0_cab (by omega) (by omega)) (by omega) (by omega) ?_
  refine g_aload_n dX0_stopClamping_10 rfl rfl ?_
  refine g_iconst (x := -1) dX0_stopClamping_11 (by decide) ?_
  refine c_putI dX0_stopClamping_12 (fX0_33 l) gTX0 ⟨rfl, rfl⟩ rfl (T0_cab (by omega) (by omega)) (by omega) (by omega) ?_
  exact g_vret dX0_stopClamping_15 rfl ⟨rfl, rfl⟩
def sDoors (z a : Int) : Int := if z = 5 then (if a < 5 then 0 else 1) else if z = 6 then 1 else if z = 7 then 1 else if z = 8 then (if a < 10 then 1 else 0) else 0
set_option maxHeartbeats 1000000 in
theorem cX0_hasDoorsOpen (l : Launch) {L : Nat} {C M : Nat → Nat → Int} {Z : Nat → Nat → Option Nat} {R : Nat → Option Nat} {n : Nat} (h1 : 4 ≤ n) (h2 : n < 64) : gMi (gπ l) mX0_hasDoorsOpen yX0_hasDoorsOpen [gR (some n)] (hq L C M Z R) (sDoors (C n 3) (C n 5)) (hq L C M Z R) := by
  refine gMet_of pnX0 rfl rfl rfl (Nat.le_of_ble_eq_true rfl) (gAr gAn) ?_
  show G (gπ l) mX0_hasDoorsOpen 0 [gR (some n)] [] (hq L C M Z R) 0 0 _
  refine g_aload_n dX0_hasDoorsOpen_0 rfl rfl ?_
  refine c_getI (x := C n 3) dX0_hasDoorsOpen_1 (fX0_18 l) rfl (T0_cab (by omega) (by omega)) (by omega) rfl ?_
  rcases (by omega : (C n 3 < 5 ∨ 8 < C n 3) ∨ C n 3 = 5 ∨ C n 3 = 6 ∨ C n 3 = 7 ∨ C n 3 = 8) with w4 | w4 | w4 | w4 | w4
  · refine g_tableOut (tgt := 67) dX0_hasDoorsOpen_4 (by omega) (by decide) ?_
    refine g_iconst (x := 0) dX0_hasDoorsOpen_67 (by decide) ?_
    exact g_iret dX0_hasDoorsOpen_68 (Or.inr ⟨rfl, Or.inl rfl⟩) ⟨congrArg gK1 (by unfold sDoors; (repeat' split) <;> omega), rfl⟩
  · refine g_tableIn (tgt := 36) (off := 32) dX0_hasDoorsOpen_4 (by omega) (by omega) (by rw [w4]; rfl) (by decide) ?_
    refine g_aload_n dX0_hasDoorsOpen_36 rfl rfl ?_
    refine c_getI (x := C n 5) dX0_hasDoorsOpen_37 (fX0_24 l) rfl (T0_cab (by omega) (by omega)) (by omega) rfl ?_
    refine g_iconst (x := 5) dX0_hasDoorsOpen_40 (by decide) ?_
    refine g_icmp_lt (tgt := 48) dX0_hasDoorsOpen_41 (by decide) (fun c41 => ?_) (fun c41 => ?_)
    · refine g_iconst (x := 0) dX0_hasDoorsOpen_48 (by decide) ?_
      exact g_iret dX0_hasDoorsOpen_49 (Or.inr ⟨rfl, Or.inl rfl⟩) ⟨congrArg gK1 (by unfold sDoors; (repeat' split) <;> omega), rfl⟩
    · refine g_iconst (x := 1) dX0_hasDoorsOpen_44 (by decide) ?_
      refine g_goto (tgt := 49) dX0_hasDoorsOpen_45 (by decide) ?_
      exact g_iret dX0_hasDoorsOpen_49 (Or.inr ⟨rfl, Or.inr rfl⟩) ⟨congrArg gK1 (by unfold sDoors; (repeat' split) <;> omega), rfl⟩
  · refine g_tableIn (tgt := 50) (off := 46) dX0_hasDoorsOpen_4 (by omega) (by omega) (by rw [w4]; rfl) (by decide) ?_
    refine g_iconst (x := 1) dX0_hasDoorsOpen_50 (by decide) ?_
    exact g_iret dX0_hasDoorsOpen_51 (Or.inr ⟨rfl, Or.inr rfl⟩) ⟨congrArg gK1 (by unfold sDoors; (repeat' split) <;> omega), rfl⟩
  · refine g_tableIn (tgt := 50) (off := 46) dX0_hasDoorsOpen_4 (by omega) (by omega) (by rw [w4]; rfl) (by decide) ?_
    refine g_iconst (x := 1) dX0_hasDoorsOpen_50 (by decide) ?_
    exact g_iret dX0_hasDoorsOpen_51 (Or.inr ⟨rfl, Or.inr rfl⟩) ⟨congrArg gK1 (by unfold sDoors; (repeat' split) <;> omega), rfl⟩
  · refine g_tableIn (tgt := 52) (off := 48) dX0_hasDoorsOpen_4 (by omega) (by omega) (by rw [w4]; rfl) (by decide) ?_
    refine g_aload_n dX0_hasDoorsOpen_52 rfl rfl ?_
    refine c_getI (x := C n 5) dX0_hasDoorsOpen_53 (fX0_24 l) rfl (T0_cab (by omega) (by omega)) (by omega) rfl ?_
    refine g_bipush (x := 10) dX0_hasDoorsOpen_56 (by decide) ?_
    refine g_icmp_ge (tgt := 65) dX0_hasDoorsOpen_58 (by decide) (fun c58 => ?_) (fun c58 => ?_)
    · refine g_iconst (x := 0) dX0_hasDoorsOpen_65 (by decide) ?_
      exact g_iret dX0_hasDoorsOpen_66 (Or.inr ⟨rfl, Or.inl rfl⟩) ⟨congrArg gK1 (by unfold sDoors; (repeat' split) <;> omega), rfl⟩
    · refine g_iconst (x := 1) dX0_hasDoorsOpen_61 (by decide) ?_
      refine g_goto (tgt := 66) dX0_hasDoorsOpen_62 (by decide) ?_
      exact g_iret dX0_hasDoorsOpen_66 (Or.inr ⟨rfl, Or.inr rfl⟩) ⟨congrArg gK1 (by unfold sDoors; (repeat' split) <;> omega), rfl⟩
def sFault (a b : Int) : Int := if a ≤ 4000 then 1 else if b ≤ 4000 then 1 else if gmul 100 (sAbs (gsub a b)) ≤ gmul 3 (max a b) then 0 else 2
set_option maxHeartbeats 1000000 in
theorem cX0_faultOfReport (l : Launch) {L : Nat} {C M : Nat → Nat → Int} {Z : Nat → Nat → Option Nat} {R : Nat → Option Nat} {n : Nat} (h1 : 4 ≤ n) (h2 : n < 64) : gMi (gπ l) mX0_faultOfReport yX0_faultOfReport [gR (some n)] (hq L C M Z R) (sFault (C n 7) (C n 8)) (hq L C M Z R) := by
  refine gMet_of pnX0 rfl rfl rfl (Nat.le_of_ble_eq_true rfl) (gAr gAn) ?_
  show G (gπ l) mX0_faultOfReport 0 [gR (some n), gU] [] (hq L C M Z R) 0 0 _
  refine g_aload_n dX0_faultOfReport_0 rfl rfl ?_
  refine c_getI (x := C n 7) dX0_faultOfReport_1 (fX0_30 l) rfl (T0_cab (by omega) (by omega)) (by omega) rfl ?_
  refine g_sipush (x := 4000) dX0_faultOfReport_4 (by decide) ?_
  refine g_icmp_le (tgt := 20) dX0_faultOfReport_7 (by decide) (fun c7 => ?_) (fun c7 => ?_)
  · refine g_iconst (x := 1) dX0_faultOfReport_20 (by decide) ?_
    exact g_iret dX0_faultOfReport_21 (Or.inl rfl) ⟨congrArg gK1 (by unfold sFault; (repeat' split) <;> omega), rfl⟩
  · refine g_aload_n dX0_faultOfReport_10 rfl rfl ?_
    refine c_getI (x := C n 8) dX0_faultOfReport_11 (fX0_33 l) rfl (T0_cab (by omega) (by omega)) (by omega) rfl ?_
    refine g_sipush (x := 4000) dX0_faultOfReport_14 (by decide) ?_
    refine g_icmp_gt (tgt := 22) dX0_faultOfReport_17 (by decide) (fun c17 => ?_) (fun c17 => ?_)
    · refine g_bipush (x := 100) dX0_faultOfReport_22 (by decide) ?_
      refine g_aload_n dX0_faultOfReport_24 rfl rfl ?_
      refine c_getI (x := C n 7) dX0_faultOfReport_25 (fX0_30 l) rfl (T0_cab (by omega) (by omega)) (by omega) rfl ?_
      refine g_aload_n dX0_faultOfReport_28 rfl rfl ?_
      refine c_getI (x := C n 8) dX0_faultOfReport_29 (fX0_33 l) rfl (T0_cab (by omega) (by omega)) (by omega) rfl ?_
      refine e_isub (v := gsub (C n 7) (C n 8)) dX0_faultOfReport_32 rfl ?_
      refine e_abs (v := sAbs (gsub (C n 7) (C n 8))) dX0_faultOfReport_33 aX0_45 ⟨by decide, Nat.le_of_ble_eq_true rfl⟩ rfl ?_
      refine e_imul (v := gmul 100 (sAbs (gsub (C n 7) (C n 8)))) dX0_faultOfReport_36 rfl ?_
      refine g_iconst (x := 3) dX0_faultOfReport_37 (by decide) ?_
      refine g_aload_n dX0_faultOfReport_38 rfl rfl ?_
      refine c_getI (x := C n 7) dX0_faultOfReport_39 (fX0_30 l) rfl (T0_cab (by omega) (by omega)) (by omega) rfl ?_
      refine g_aload_n dX0_faultOfReport_42 rfl rfl ?_
      refine c_getI (x := C n 8) dX0_faultOfReport_43 (fX0_33 l) rfl (T0_cab (by omega) (by omega)) (by omega) rfl ?_
      refine g_max dX0_faultOfReport_46 aX0_51 ⟨by decide, Nat.le_of_ble_eq_true rfl⟩ ?_
      refine e_imul (v := gmul 3 (max (C n 7) (C n 8))) dX0_faultOfReport_49 rfl ?_
      refine g_icmp_gt (tgt := 57) dX0_faultOfReport_50 (by decide) (fun c50 => ?_) (fun c50 => ?_)
      · refine g_iconst (x := 0) dX0_faultOfReport_57 (by decide) ?_
        refine e_istore_n (loc' := [gR (some n), gI 0]) dX0_faultOfReport_58 rfl (by decide) rfl ?_
        refine g_iload_n dX0_faultOfReport_59 rfl rfl ?_
        refine g_if_eq (tgt := 67) dX0_faultOfReport_60 (by decide) (fun c60 => ?_) (fun c60 => ?_)
        · refine g_iconst (x := 2) dX0_faultOfReport_67 (by decide) ?_
          exact g_iret dX0_faultOfReport_68 (Or.inl rfl) ⟨congrArg gK1 (by unfold sFault; (repeat' split) <;> omega), rfl⟩
        · refine g_iconst (x := 0) dX0_faultOfReport_63 (by decide) ?_
          refine g_goto (tgt := 68) dX0_faultOfReport_64 (by decide) ?_
          exact g_iret dX0_faultOfReport_68 (Or.inl rfl) ⟨congrArg gK1 (by unfold sFault; (repeat' split) <;> omega), rfl⟩
      · refine g_iconst (x := 1) dX0_faultOfReport_53 (by decide) ?_
        refine g_goto (tgt := 58) dX0_faultOfReport_54 (by decide) ?_
        refine e_istore_n (loc' := [gR (some n), gI 1]) dX0_faultOfReport_58 rfl (by decide) rfl ?_
        refine g_iload_n dX0_faultOfReport_59 rfl rfl ?_
        refine g_if_eq (tgt := 67) dX0_faultOfReport_60 (by decide) (fun c60 => ?_) (fun c60 => ?_)
        · refine g_iconst (x := 2) dX0_faultOfReport_67 (by decide) ?_
          exact g_iret dX0_faultOfReport_68 (Or.inl rfl) ⟨congrArg gK1 (by unfold sFault; (repeat' split) <;> omega), rfl⟩
        · refine g_iconst (x := 0) dX0_faultOfReport_63 (by decide) ?_
          refine g_goto (tgt := 68) dX0_faultOfReport_64 (by decide) ?_
          exact g_iret dX0_faultOfReport_68 (Or.inl rfl) ⟨congrArg gK1 (by unfold sFault; (repeat' split) <;> omega), rfl⟩
    · refine g_iconst (x := 1) dX0_faultOfReport_20 (by decide) ?_
      exact g_iret dX0_faultOfReport_21 (Or.inl rfl) ⟨congrArg gK1 (by unfold sFault; (repeat' split) <;> omega), rfl⟩
end
section
/-! contracts: the fleet -/
set_option maxHeartbeats 1000000 in
theorem cX1_hasLeft (l : Launch) {L : Nat} {C M : Nat → Nat → Int} {Z : Nat → Nat → Option Nat} {R : Nat → Option Nat} {n : Nat} (h1 : 4 ≤ n) (h2 : n < 64) {s : Int} : gMi (gπ l) mX1_hasLeft yX1_hasLeft [gR (some n), gI s] (hq L C M Z R) (if C n 1 = 3 then (if C n 2 = s then 1 else 0) else 0) (hq L C M Z R) := by
  refine gMet_of pnX1 rfl rfl rfl (Nat.le_of_ble_eq_true rfl) (gAr (gAi gAn)) ?_
  show G (gπ l) mX1_hasLeft 0 [gR (some n), gI s] [] (hq L C M Z R) 0 0 _
  refine g_aload_n dX1_hasLeft_0 rfl rfl ?_
  refine c_getI (x := C n 1) dX1_hasLeft_1 (fX1_20 l) rfl (T0_cab (by omega) (by omega)) (by omega) rfl ?_
  refine g_iconst (x := 3) dX1_hasLeft_4 (by decide) ?_
  refine g_icmp_ne (tgt := 20) dX1_hasLeft_5 (by decide) (fun c5 => ?_) (fun c5 => ?_)
  · refine g_iconst (x := 0) dX1_hasLeft_20 (by decide) ?_
    exact g_iret dX1_hasLeft_21 (Or.inr ⟨rfl, Or.inl rfl⟩) ⟨congrArg gK1 (by (repeat' split) <;> omega), rfl⟩
  · refine g_aload_n dX1_hasLeft_8 rfl rfl ?_
    refine c_getI (x := C n 2) dX1_hasLeft_9 (fX1_50 l) rfl (T0_cab (by omega) (by omega)) (by omega) rfl ?_
    refine g_iload_n dX1_hasLeft_12 rfl rfl ?_
    refine g_icmp_ne (tgt := 20) dX1_hasLeft_13 (by decide) (fun c13 => ?_) (fun c13 => ?_)
    · refine g_iconst (x := 0) dX1_hasLeft_20 (by decide) ?_
      exact g_iret dX1_hasLeft_21 (Or.inr ⟨rfl, Or.inl rfl⟩) ⟨congrArg gK1 (by (repeat' split) <;> omega), rfl⟩
    · refine g_iconst (x := 1) dX1_hasLeft_16 (by decide) ?_
      refine g_goto (tgt := 21) dX1_hasLeft_17 (by decide) ?_
      exact g_iret dX1_hasLeft_21 (Or.inr ⟨rfl, Or.inr rfl⟩) ⟨congrArg gK1 (by (repeat' split) <;> omega), rfl⟩
set_option maxHeartbeats 1000000 in
theorem cX1_spot (l : Launch) {L : Nat} {C M : Nat → Nat → Int} {Z : Nat → Nat → Option Nat} {R : Nat → Option Nat} {n : Nat} (h1 : 4 ≤ n) (h2 : n < 64) : gMi (gπ l) mX1_spot yX1_spot [gR (some n)] (hq L C M Z R) (gadd (gmul 6000 (C n 2)) (C n 4)) (hq L C M Z R) := by
  refine gMet_of pnX1 rfl rfl rfl (Nat.le_of_ble_eq_true rfl) (gAr gAn) ?_
  show G (gπ l) mX1_spot 0 [gR (some n)] [] (hq L C M Z R) 0 0 _
  refine g_sipush (x := 6000) dX1_spot_0 (by decide) ?_
  refine g_aload_n dX1_spot_3 rfl rfl ?_
  refine c_getI (x := C n 2) dX1_spot_4 (fX1_50 l) rfl (T0_cab (by omega) (by omega)) (by omega) rfl ?_
  refine e_imul (v := gmul 6000 (C n 2)) dX1_spot_7 rfl ?_
  refine g_aload_n dX1_spot_8 rfl rfl ?_
  refine c_getI (x := C n 4) dX1_spot_9 (fX1_27 l) rfl (T0_cab (by omega) (by omega)) (by omega) rfl ?_
  refine e_iadd (v := gadd (gmul 6000 (C n 2)) (C n 4)) dX1_spot_12 rfl ?_
  exact g_iret dX1_spot_13 (Or.inl rfl) ⟨rfl, rfl⟩
set_option maxHeartbeats 1000000 in
theorem cX1_countAt (l : Launch) {L : Nat} {C M : Nat → Nat → Int} {Z : Nat → Nat → Option Nat} {R : Nat → Option Nat} {p : Int} : gMi (gπ l) mX1_countAt yX1_countAt [gR (some 2), gI p] (hq L C M Z R) (cntTo (fun j => decide (C (4 + j) 1 = p)) 60) (hq L C M Z R) := by
  refine gMet_of pnX1 rfl rfl rfl (Nat.le_of_ble_eq_true rfl) (gAr (gAi gAn)) ?_
  show G (gπ l) mX1_countAt 0 [gR (some 2), gI p, gU, gU] [] (hq L C M Z R) 0 0 _
  have loop : ∀ (m k : Nat), k + m = 60 → G (gπ l) mX1_countAt 4 [gR (some 2), gI p, gI (cntTo (fun j => decide (C (4 + j) 1 = p)) k), gI (k : Int)] [] (hq L C M Z R) 0 0 (fun r k => r = some (some (gI (cntTo (fun j => decide (C (4 + j) 1 = p)) 60))) ∧ k = (hq L C M Z R)) := by
    intro m
    induction m with
    | zero =>
      intro k hk 
      refine g_iload_n dX1_countAt_4 rfl rfl ?_
      refine g_bipush (x := 60) dX1_countAt_5 (by decide) ?_
      refine g_icmp_ge (tgt := 32) dX1_countAt_7 (by decide) (fun c7 => ?_) (fun c7 => absurd c7 (by omega))
      refine g_iload_n dX1_countAt_32 rfl rfl ?_
      exact g_iret dX1_countAt_33 (Or.inl rfl) ⟨by rw [show k = 60 by omega], rfl⟩
    | succ m ih =>
      intro k hk 
      refine g_iload_n dX1_countAt_4 rfl rfl ?_
      refine g_bipush (x := 60) dX1_countAt_5 (by decide) ?_
      refine g_icmp_ge (tgt := 32) dX1_countAt_7 (by decide) (fun c7 => absurd c7 (by omega)) (fun c7 => ?_)
      refine g_aload_n dX1_countAt_10 rfl rfl ?_
      refine p_getR (o := some 3) dX1_countAt_11 (fX1_11 l) (by decide) rfl (by omega) rfl ?_
      refine g_iload_n dX1_countAt_14 rfl rfl ?_
      refine p_aald (ci := 0) (len := 60) (o := some (4 + k)) (kc0 l) dX1_countAt_15 rfl (by omega) (by omega) (by omega) (rr_cab (by omega)) ?_
      refine c_getI (x := C (4 + k) 1) dX1_countAt_16 (fX1_20 l) rfl (T0_cab (by omega) (by omega)) (by omega) rfl ?_
      refine g_iload_n dX1_countAt_19 rfl rfl ?_
      refine g_icmp_ne (tgt := 26) dX1_countAt_20 (by decide) (fun c20 => ?_) (fun c20 => ?_)
      · refine e_iinc (v := ((k + 1 : Nat) : Int)) (loc' := [gR (some 2), gI p, gI (cntTo (fun j => decide (C (4 + j) 1 = p)) k), gI (((k + 1 : Nat) : Int))]) dX1_countAt_26 (by decide) rfl (gadd_nat (by omega)) rfl ?_
        refine g_goto (tgt := 4) dX1_countAt_29 (by decide) ?_
        refine g_eq (loc' := [gR (some 2), gI p, gI (cntTo (fun j => decide (C (4 + j) 1 = p)) (k + 1)), gI ((k + 1 : Nat) : Int)]) ?_ rfl (ih (k + 1) (by omega))
        simp [cntTo, c20]
      · refine e_iinc (v := cntTo (fun j => decide (C (4 + j) 1 = p)) k + 1) (loc' := [gR (some 2), gI p, gI (cntTo (fun j => decide (C (4 + j) 1 = p)) k + 1), gI (k : Int)]) dX1_countAt_23 (by decide) rfl (gadd_eq (by have := cntTo_nn (p := (fun j => decide (C (4 + j) 1 = p))) k; omega) (by have := cntTo_nn (p := (fun j => decide (C (4 + j) 1 = p))) k; omega)) rfl ?_
        refine e_iinc (v := ((k + 1 : Nat) : Int)) (loc' := [gR (some 2), gI p, gI (cntTo (fun j => decide (C (4 + j) 1 = p)) k + 1), gI (((k + 1 : Nat) : Int))]) dX1_countAt_26 (by decide) rfl (gadd_nat (by omega)) rfl ?_
        refine g_goto (tgt := 4) dX1_countAt_29 (by decide) ?_
        refine g_eq (loc' := [gR (some 2), gI p, gI (cntTo (fun j => decide (C (4 + j) 1 = p)) (k + 1)), gI ((k + 1 : Nat) : Int)]) ?_ rfl (ih (k + 1) (by omega))
        simp [cntTo, c20]
  refine g_iconst (x := 0) dX1_countAt_0 (by decide) ?_
  refine e_istore_n (loc' := [gR (some 2), gI p, gI 0, gU]) dX1_countAt_1 rfl (by decide) rfl ?_
  refine g_iconst (x := 0) dX1_countAt_2 (by decide) ?_
  refine e_istore_n (loc' := [gR (some 2), gI p, gI 0, gI 0]) dX1_countAt_3 rfl (by decide) rfl ?_
  exact loop 60 0 (by omega)
set_option maxHeartbeats 1000000 in
theorem cX1_tripsOfAll (l : Launch) {L : Nat} {C M : Nat → Nat → Int} {Z : Nat → Nat → Option Nat} {R : Nat → Option Nat}  : gMi (gπ l) mX1_tripsOfAll yX1_tripsOfAll [gR (some 2)] (hq L C M Z R) (sumTo (fun j => C (4 + j) 9) 60) (hq L C M Z R) := by
  refine gMet_of pnX1 rfl rfl rfl (Nat.le_of_ble_eq_true rfl) (gAr gAn) ?_
  show G (gπ l) mX1_tripsOfAll 0 [gR (some 2), gU, gU] [] (hq L C M Z R) 0 0 _
  have loop : ∀ (m k : Nat), k + m = 60 → G (gπ l) mX1_tripsOfAll 4 [gR (some 2), gI (sumTo (fun j => C (4 + j) 9) k), gI (k : Int)] [] (hq L C M Z R) 0 0 (fun r k => r = some (some (gI (sumTo (fun j => C (4 + j) 9) 60))) ∧ k = (hq L C M Z R)) := by
    intro m
    induction m with
    | zero =>
      intro k hk 
      refine g_iload_n dX1_tripsOfAll_4 rfl rfl ?_
      refine g_bipush (x := 60) dX1_tripsOfAll_5 (by decide) ?_
      refine g_icmp_ge (tgt := 28) dX1_tripsOfAll_7 (by decide) (fun c7 => ?_) (fun c7 => absurd c7 (by omega))
      refine g_iload_n dX1_tripsOfAll_28 rfl rfl ?_
      exact g_iret dX1_tripsOfAll_29 (Or.inl rfl) ⟨by rw [show k = 60 by omega], rfl⟩
    | succ m ih =>
      intro k hk 
      refine g_iload_n dX1_tripsOfAll_4 rfl rfl ?_
      refine g_bipush (x := 60) dX1_tripsOfAll_5 (by decide) ?_
      refine g_icmp_ge (tgt := 28) dX1_tripsOfAll_7 (by decide) (fun c7 => absurd c7 (by omega)) (fun c7 => ?_)
      refine g_iload_n dX1_tripsOfAll_10 rfl rfl ?_
      refine g_aload_n dX1_tripsOfAll_11 rfl rfl ?_
      refine p_getR (o := some 3) dX1_tripsOfAll_12 (fX1_11 l) (by decide) rfl (by omega) rfl ?_
      refine g_iload_n dX1_tripsOfAll_15 rfl rfl ?_
      refine p_aald (ci := 0) (len := 60) (o := some (4 + k)) (kc0 l) dX1_tripsOfAll_16 rfl (by omega) (by omega) (by omega) (rr_cab (by omega)) ?_
      refine c_getI (x := C (4 + k) 9) dX1_tripsOfAll_17 (fX1_24 l) rfl (T0_cab (by omega) (by omega)) (by omega) rfl ?_
      refine e_iadd (v := sumTo (fun j => C (4 + j) 9) (k + 1)) dX1_tripsOfAll_20 rfl ?_
      refine e_istore_n (loc' := [gR (some 2), gI (sumTo (fun j => C (4 + j) 9) (k + 1)), gI (k : Int)]) dX1_tripsOfAll_21 rfl (by decide) rfl ?_
      refine e_iinc (v := ((k + 1 : Nat) : Int)) (loc' := [gR (some 2), gI (sumTo (fun j => C (4 + j) 9) (k + 1)), gI (((k + 1 : Nat) : Int))]) dX1_tripsOfAll_22 (by decide) rfl (gadd_nat (by omega)) rfl ?_
      refine g_goto (tgt := 4) dX1_tripsOfAll_25 (by decide) ?_
      exact ih (k + 1) (by omega)
  refine g_iconst (x := 0) dX1_tripsOfAll_0 (by decide) ?_
  refine e_istore_n (loc' := [gR (some 2), gI 0, gU]) dX1_tripsOfAll_1 rfl (by decide) rfl ?_
  refine g_iconst (x := 0) dX1_tripsOfAll_2 (by decide) ?_
  refine e_istore_n (loc' := [gR (some 2), gI 0, gI 0]) dX1_tripsOfAll_3 rfl (by decide) rfl ?_
  exact loop 60 0 (by omega)
set_option maxHeartbeats 1000000 in
theorem cX1_farthest (l : Launch) {L : Nat} {C M : Nat → Nat → Int} {Z : Nat → Nat → Option Nat} {R : Nat → Option Nat}  : gMi (gπ l) mX1_farthest yX1_farthest [gR (some 2)] (hq L C M Z R) (maxTo (fun j => decide (C (4 + j) 1 = 3)) (fun j => C (4 + j) 4) 60) (hq L C M Z R) := by
  refine gMet_of pnX1 rfl rfl rfl (Nat.le_of_ble_eq_true rfl) (gAr gAn) ?_
  show G (gπ l) mX1_farthest 0 [gR (some 2), gU, gU] [] (hq L C M Z R) 0 0 _
  have loop : ∀ (m k : Nat), k + m = 60 → G (gπ l) mX1_farthest 4 [gR (some 2), gI (maxTo (fun j => decide (C (4 + j) 1 = 3)) (fun j => C (4 + j) 4) k), gI (k : Int)] [] (hq L C M Z R) 0 0 (fun r k => r = some (some (gI (maxTo (fun j => decide (C (4 + j) 1 = 3)) (fun j => C (4 + j) 4) 60))) ∧ k = (hq L C M Z R)) := by
    intro m
    induction m with
    | zero =>
      intro k hk 
      refine g_iload_n dX1_farthest_4 rfl rfl ?_
      refine g_bipush (x := 60) dX1_farthest_5 (by decide) ?_
      refine g_icmp_ge (tgt := 43) dX1_farthest_7 (by decide) (fun c7 => ?_) (fun c7 => absurd c7 (by omega))
      refine g_iload_n dX1_farthest_43 rfl rfl ?_
      exact g_iret dX1_farthest_44 (Or.inl rfl) ⟨by rw [show k = 60 by omega], rfl⟩
    | succ m ih =>
      intro k hk 
      refine g_iload_n dX1_farthest_4 rfl rfl ?_
      refine g_bipush (x := 60) dX1_farthest_5 (by decide) ?_
      refine g_icmp_ge (tgt := 43) dX1_farthest_7 (by decide) (fun c7 => absurd c7 (by omega)) (fun c7 => ?_)
      refine g_aload_n dX1_farthest_10 rfl rfl ?_
      refine p_getR (o := some 3) dX1_farthest_11 (fX1_11 l) (by decide) rfl (by omega) rfl ?_
      refine g_iload_n dX1_farthest_14 rfl rfl ?_
      refine p_aald (ci := 0) (len := 60) (o := some (4 + k)) (kc0 l) dX1_farthest_15 rfl (by omega) (by omega) (by omega) (rr_cab (by omega)) ?_
      refine c_getI (x := C (4 + k) 1) dX1_farthest_16 (fX1_20 l) rfl (T0_cab (by omega) (by omega)) (by omega) rfl ?_
      refine g_iconst (x := 3) dX1_farthest_19 (by decide) ?_
      refine g_icmp_ne (tgt := 37) dX1_farthest_20 (by decide) (fun c20 => ?_) (fun c20 => ?_)
      · refine e_iinc (v := ((k + 1 : Nat) : Int)) (loc' := [gR (some 2), gI (maxTo (fun j => decide (C (4 + j) 1 = 3)) (fun j => C (4 + j) 4) k), gI (((k + 1 : Nat) : Int))]) dX1_farthest_37 (by decide) rfl (gadd_nat (by omega)) rfl ?_
        refine g_goto (tgt := 4) dX1_farthest_40 (by decide) ?_
        refine g_eq (loc' := [gR (some 2), gI (maxTo (fun j => decide (C (4 + j) 1 = 3)) (fun j => C (4 + j) 4) (k + 1)), gI ((k + 1 : Nat) : Int)]) ?_ rfl (ih (k + 1) (by omega))
        simp [maxTo, c20]
      · refine g_iload_n dX1_farthest_23 rfl rfl ?_
        refine g_aload_n dX1_farthest_24 rfl rfl ?_
        refine p_getR (o := some 3) dX1_farthest_25 (fX1_11 l) (by decide) rfl (by omega) rfl ?_
        refine g_iload_n dX1_farthest_28 rfl rfl ?_
        refine p_aald (ci := 0) (len := 60) (o := some (4 + k)) (kc0 l) dX1_farthest_29 rfl (by omega) (by omega) (by omega) (rr_cab (by omega)) ?_
        refine c_getI (x := C (4 + k) 4) dX1_farthest_30 (fX1_27 l) rfl (T0_cab (by omega) (by omega)) (by omega) rfl ?_
        refine g_max dX1_farthest_33 aX1_30 ⟨by decide, Nat.le_of_ble_eq_true rfl⟩ ?_
        refine e_istore_n (loc' := [gR (some 2), gI (max (maxTo (fun j => decide (C (4 + j) 1 = 3)) (fun j => C (4 + j) 4) k) (C (4 + k) 4)), gI (k : Int)]) dX1_farthest_36 rfl (by decide) rfl ?_
        refine e_iinc (v := ((k + 1 : Nat) : Int)) (loc' := [gR (some 2), gI (max (maxTo (fun j => decide (C (4 + j) 1 = 3)) (fun j => C (4 + j) 4) k) (C (4 + k) 4)), gI (((k + 1 : Nat) : Int))]) dX1_farthest_37 (by decide) rfl (gadd_nat (by omega)) rfl ?_
        refine g_goto (tgt := 4) dX1_farthest_40 (by decide) ?_
        refine g_eq (loc' := [gR (some 2), gI (maxTo (fun j => decide (C (4 + j) 1 = 3)) (fun j => C (4 + j) 4) (k + 1)), gI ((k + 1 : Nat) : Int)]) ?_ rfl (ih (k + 1) (by omega))
        simp [maxTo, c20]
  refine g_iconst (x := 0) dX1_farthest_0 (by decide) ?_
  refine e_istore_n (loc' := [gR (some 2), gI 0, gU]) dX1_farthest_1 rfl (by decide) rfl ?_
  refine g_iconst (x := 0) dX1_farthest_2 (by decide) ?_
  refine e_istore_n (loc' := [gR (some 2), gI 0, gI 0]) dX1_farthest_3 rfl (by decide) rfl ?_
  exact loop 60 0 (by omega)
def sAdv (C : Nat → Nat → Int) (step : Int) (k : Nat) : Nat → Nat → Int := fun a b => if 4 ≤ a ∧ a < 4 + k ∧ b = 4 ∧ C a 1 = 3 then gadd (C a 4) step else C a b
theorem sAdv_0 {C : Nat → Nat → Int} {step : Int} : sAdv C step 0 = C := by
  funext a b
  unfold sAdv
  rw [if_neg (by omega)]
theorem sAdv_at {C : Nat → Nat → Int} {step : Int} {k : Nat} {b : Nat} : sAdv C step k (4 + k) b = C (4 + k) b := by
  unfold sAdv
  rw [if_neg (by omega)]
theorem sAdv_skip {C : Nat → Nat → Int} {step : Int} {k : Nat} (h : C (4 + k) 1 ≠ 3) : sAdv C step k = sAdv C step (k + 1) := by
  funext a b
  unfold sAdv
  by_cases e : a = 4 + k
  · subst e
    rw [if_neg (by omega), if_neg (fun z => h z.2.2.2)]
  · by_cases c : 4 ≤ a ∧ a < 4 + k ∧ b = 4 ∧ C a 1 = 3
    · rw [if_pos c, if_pos ⟨c.1, by omega, c.2.2⟩]
    · rw [if_neg c, if_neg (fun z => c ⟨z.1, by omega, z.2.2⟩)]
theorem sAdv_put {C : Nat → Nat → Int} {step : Int} {k : Nat} (h : C (4 + k) 1 = 3) : up (sAdv C step k) (4 + k) 4 (gadd (C (4 + k) 4) step) = sAdv C step (k + 1) := by
  funext a b
  unfold up
  by_cases e : a = 4 + k ∧ b = 4
  · obtain ⟨rfl, rfl⟩ := e
    rw [if_pos ⟨rfl, rfl⟩]
    unfold sAdv
    rw [if_pos ⟨by omega, by omega, rfl, h⟩]
  · rw [if_neg e]
    unfold sAdv
    by_cases c : 4 ≤ a ∧ a < 4 + k ∧ b = 4 ∧ C a 1 = 3
    · rw [if_pos c, if_pos ⟨c.1, by omega, c.2.2⟩]
    · rw [if_neg c, if_neg (fun z => c ⟨z.1, by have := z.2.1; have : ¬ (a = 4 + k) := fun q => e ⟨q, z.2.2.1⟩; omega, z.2.2⟩)]
set_option maxHeartbeats 1000000 in
theorem cX1_advance (l : Launch) {L : Nat} {C M : Nat → Nat → Int} {Z : Nat → Nat → Option Nat} {R : Nat → Option Nat} {step : Int} : gMv (gπ l) mX1_advance yX1_advance [gR (some 2), gI step] (hq L C M Z R) (hq L (sAdv C step 60) M Z R) := by
  refine gMet_of pnX1 rfl rfl rfl (Nat.le_of_ble_eq_true rfl) (gAr (gAi gAn)) ?_
  show G (gπ l) mX1_advance 0 [gR (some 2), gI step, gU] [] (hq L C M Z R) 0 0 _
  have loop : ∀ (m k : Nat), k + m = 60 → G (gπ l) mX1_advance 2 [gR (some 2), gI step, gI (k : Int)] [] (hq L (sAdv C step k) M Z R) 0 0 (fun r k => r = some none ∧ k = (hq L (sAdv C step 60) M Z R)) := by
    intro m
    induction m with
    | zero =>
      intro k hk 
      refine g_iload_n dX1_advance_2 rfl rfl ?_
      refine g_bipush (x := 60) dX1_advance_3 (by decide) ?_
      refine g_icmp_ge (tgt := 42) dX1_advance_5 (by decide) (fun c5 => ?_) (fun c5 => absurd c5 (by omega))
      exact g_vret dX1_advance_42 rfl ⟨rfl, by rw [show k = 60 by omega]⟩
    | succ m ih =>
      intro k hk 
      refine g_iload_n dX1_advance_2 rfl rfl ?_
      refine g_bipush (x := 60) dX1_advance_3 (by decide) ?_
      refine g_icmp_ge (tgt := 42) dX1_advance_5 (by decide) (fun c5 => absurd c5 (by omega)) (fun c5 => ?_)
      refine g_aload_n dX1_advance_8 rfl rfl ?_
      refine p_getR (o := some 3) dX1_advance_9 (fX1_11 l) (by decide) rfl (by omega) rfl ?_
      refine g_iload_n dX1_advance_12 rfl rfl ?_
      refine p_aald (ci := 0) (len := 60) (o := some (4 + k)) (kc0 l) dX1_advance_13 rfl (by omega) (by omega) (by omega) (rr_cab (by omega)) ?_
      refine c_getI (x := C (4 + k) 1) dX1_advance_14 (fX1_20 l) rfl (T0_cab (by omega) (by omega)) (by omega) sAdv_at ?_
      refine g_iconst (x := 3) dX1_advance_17 (by decide) ?_
      refine g_icmp_ne (tgt := 36) dX1_advance_18 (by decide) (fun c18 => ?_) (fun c18 => ?_)
      · refine e_iinc (v := ((k + 1 : Nat) : Int)) (loc' := [gR (some 2), gI step, gI (((k + 1 : Nat) : Int))]) dX1_advance_36 (by decide) rfl (gadd_nat (by omega)) rfl ?_
        refine g_goto (tgt := 2) dX1_advance_39 (by decide) ?_
        refine g_eq rfl (by rw [sAdv_skip c18]) (ih (k + 1) (by omega))
      · refine g_aload_n dX1_advance_21 rfl rfl ?_
        refine p_getR (o := some 3) dX1_advance_22 (fX1_11 l) (by decide) rfl (by omega) rfl ?_
        refine g_iload_n dX1_advance_25 rfl rfl ?_
        refine p_aald (ci := 0) (len := 60) (o := some (4 + k)) (kc0 l) dX1_advance_26 rfl (by omega) (by omega) (by omega) (rr_cab (by omega)) ?_
        refine g_dupR dX1_advance_27 ?_
        refine c_getI (x := C (4 + k) 4) dX1_advance_28 (fX1_27 l) rfl (T0_cab (by omega) (by omega)) (by omega) sAdv_at ?_
        refine g_iload_n dX1_advance_31 rfl rfl ?_
        refine e_iadd (v := gadd (C (4 + k) 4) step) dX1_advance_32 rfl ?_
        refine c_putI dX1_advance_33 (fX1_27 l) gTX0 ⟨rfl, rfl⟩ rfl (T0_cab (by omega) (by omega)) (by omega) (by omega) ?_
        refine e_iinc (v := ((k + 1 : Nat) : Int)) (loc' := [gR (some 2), gI step, gI (((k + 1 : Nat) : Int))]) dX1_advance_36 (by decide) rfl (gadd_nat (by omega)) rfl ?_
        refine g_goto (tgt := 2) dX1_advance_39 (by decide) ?_
        refine g_eq rfl (by rw [← sAdv_put c18]) (ih (k + 1) (by omega))
  refine g_iconst (x := 0) dX1_advance_0 (by decide) ?_
  refine e_istore_n (loc' := [gR (some 2), gI step, gI 0]) dX1_advance_1 rfl (by decide) rfl ?_
  exact g_eq rfl (by rw [sAdv_0]) (loop 60 0 (by omega))
set_option maxHeartbeats 1000000 in
theorem cX1_isClear (l : Launch) {L : Nat} {C M : Nat → Nat → Int} {Z : Nat → Nat → Option Nat} {R : Nat → Option Nat} {s d : Int} : gMi (gπ l) mX1_isClear yX1_isClear [gR (some 2), gI s, gI d] (hq L C M Z R) (if anyTo (fun j => decide (C (4 + j) 1 = 3 ∧ C (4 + j) 2 = s ∧ C (4 + j) 4 < d)) 60 = true then 0 else 1) (hq L C M Z R) := by
  refine gMet_of pnX1 rfl rfl rfl (Nat.le_of_ble_eq_true rfl) (gAr (gAi (gAi gAn))) ?_
  show G (gπ l) mX1_isClear 0 [gR (some 2), gI s, gI d, gU] [] (hq L C M Z R) 0 0 _
  have loop : ∀ (m k : Nat), k + m = 60 → anyTo (fun j => decide (C (4 + j) 1 = 3 ∧ C (4 + j) 2 = s ∧ C (4 + j) 4 < d)) k = false → G (gπ l) mX1_isClear 2 [gR (some 2), gI s, gI d, gI (k : Int)] [] (hq L C M Z R) 0 0 (fun r k => r = some (some (gI (if anyTo (fun j => decide (C (4 + j) 1 = 3 ∧ C (4 + j) 2 = s ∧ C (4 + j) 4 < d)) 60 = true then 0 else 1))) ∧ k = (hq L C M Z R)) := by
    intro m
    induction m with
    | zero =>
      intro k hk hno
      refine g_iload_n dX1_isClear_2 rfl rfl ?_
      refine g_bipush (x := 60) dX1_isClear_3 (by decide) ?_
      refine g_icmp_ge (tgt := 42) dX1_isClear_5 (by decide) (fun c5 => ?_) (fun c5 => absurd c5 (by omega))
      refine g_iconst (x := 1) dX1_isClear_42 (by decide) ?_
      exact g_iret dX1_isClear_43 (Or.inr ⟨rfl, Or.inr rfl⟩) ⟨congrArg gK1 (by rw [show k = 60 by omega] at hno; rw [hno]; rfl), rfl⟩
    | succ m ih =>
      intro k hk hno
      refine g_iload_n dX1_isClear_2 rfl rfl ?_
      refine g_bipush (x := 60) dX1_isClear_3 (by decide) ?_
      refine g_icmp_ge (tgt := 42) dX1_isClear_5 (by decide) (fun c5 => absurd c5 (by omega)) (fun c5 => ?_)
      refine g_aload_n dX1_isClear_8 rfl rfl ?_
      refine p_getR (o := some 3) dX1_isClear_9 (fX1_11 l) (by decide) rfl (by omega) rfl ?_
      refine g_iload_n dX1_isClear_12 rfl rfl ?_
      refine p_aald (ci := 0) (len := 60) (o := some (4 + k)) (kc0 l) dX1_isClear_13 rfl (by omega) (by omega) (by omega) (rr_cab (by omega)) ?_
      refine g_iload_n dX1_isClear_14 rfl rfl ?_
      refine g_Si2 dX1_isClear_15 (sX1_isClear_15 l) (Nat.le_of_ble_eq_true rfl) (cX1_hasLeft l (by omega) (by omega)) ?_
      refine g_if_eq (tgt := 36) dX1_isClear_18 (by decide) (fun c18 => ?_) (fun c18 => ?_)
      · refine e_iinc (v := ((k + 1 : Nat) : Int)) (loc' := [gR (some 2), gI s, gI d, gI (((k + 1 : Nat) : Int))]) dX1_isClear_36 (by decide) rfl (gadd_nat (by omega)) rfl ?_
        refine g_goto (tgt := 2) dX1_isClear_39 (by decide) ?_
        refine ih (k + 1) (by omega) ?_
        unfold anyTo
        rw [hno, Bool.false_or]
        refine decide_eq_false (fun z => ?_)
        first | (rw [if_pos z.1, if_pos z.2.1] at c18; omega) | omega
      · refine g_aload_n dX1_isClear_21 rfl rfl ?_
        refine p_getR (o := some 3) dX1_isClear_22 (fX1_11 l) (by decide) rfl (by omega) rfl ?_
        refine g_iload_n dX1_isClear_25 rfl rfl ?_
        refine p_aald (ci := 0) (len := 60) (o := some (4 + k)) (kc0 l) dX1_isClear_26 rfl (by omega) (by omega) (by omega) (rr_cab (by omega)) ?_
        refine c_getI (x := C (4 + k) 4) dX1_isClear_27 (fX1_27 l) rfl (T0_cab (by omega) (by omega)) (by omega) rfl ?_
        refine g_iload_n dX1_isClear_30 rfl rfl ?_
        refine g_icmp_ge (tgt := 36) dX1_isClear_31 (by decide) (fun c31 => ?_) (fun c31 => ?_)
        · refine e_iinc (v := ((k + 1 : Nat) : Int)) (loc' := [gR (some 2), gI s, gI d, gI (((k + 1 : Nat) : Int))]) dX1_isClear_36 (by decide) rfl (gadd_nat (by omega)) rfl ?_
          refine g_goto (tgt := 2) dX1_isClear_39 (by decide) ?_
          refine ih (k + 1) (by omega) ?_
          unfold anyTo
          rw [hno, Bool.false_or]
          refine decide_eq_false (fun z => ?_)
          first | (rw [if_pos z.1, if_pos z.2.1] at c18; omega) | omega
        · refine g_iconst (x := 0) dX1_isClear_34 (by decide) ?_
          exact g_iret dX1_isClear_35 (Or.inr ⟨rfl, Or.inl rfl⟩) ⟨congrArg gK1 (by rw [if_pos ((anyTo_iff 60).mpr ⟨k, by omega, decide_eq_true (by split at c18; (split at c18; exact ⟨‹_›, ‹_›, by omega⟩; omega); omega)⟩)]), rfl⟩
  refine g_iconst (x := 0) dX1_isClear_0 (by decide) ?_
  refine e_istore_n (loc' := [gR (some 2), gI s, gI d, gI 0]) dX1_isClear_1 rfl (by decide) rfl ?_
  exact loop 60 0 (by omega) rfl
set_option maxHeartbeats 1000000 in
theorem cX1_hasNearEnd (l : Launch) {L : Nat} {C M : Nat → Nat → Int} {Z : Nat → Nat → Option Nat} {R : Nat → Option Nat} {s : Int} : gMi (gπ l) mX1_hasNearEnd yX1_hasNearEnd [gR (some 2), gI s] (hq L C M Z R) (if anyTo (fun j => decide (C (4 + j) 1 = 3 ∧ C (4 + j) 2 = s ∧ 5640 ≤ C (4 + j) 4)) 60 = true then 1 else 0) (hq L C M Z R) := by
  refine gMet_of pnX1 rfl rfl rfl (Nat.le_of_ble_eq_true rfl) (gAr (gAi gAn)) ?_
  show G (gπ l) mX1_hasNearEnd 0 [gR (some 2), gI s, gU] [] (hq L C M Z R) 0 0 _
  have loop : ∀ (m k : Nat), k + m = 60 → anyTo (fun j => decide (C (4 + j) 1 = 3 ∧ C (4 + j) 2 = s ∧ 5640 ≤ C (4 + j) 4)) k = false → G (gπ l) mX1_hasNearEnd 2 [gR (some 2), gI s, gI (k : Int)] [] (hq L C M Z R) 0 0 (fun r k => r = some (some (gI (if anyTo (fun j => decide (C (4 + j) 1 = 3 ∧ C (4 + j) 2 = s ∧ 5640 ≤ C (4 + j) 4)) 60 = true then 1 else 0))) ∧ k = (hq L C M Z R)) := by
    intro m
    induction m with
    | zero =>
      intro k hk hno
      refine g_iload_n dX1_hasNearEnd_2 rfl rfl ?_
      refine g_bipush (x := 60) dX1_hasNearEnd_3 (by decide) ?_
      refine g_icmp_ge (tgt := 44) dX1_hasNearEnd_5 (by decide) (fun c5 => ?_) (fun c5 => absurd c5 (by omega))
      refine g_iconst (x := 0) dX1_hasNearEnd_44 (by decide) ?_
      exact g_iret dX1_hasNearEnd_45 (Or.inr ⟨rfl, Or.inl rfl⟩) ⟨congrArg gK1 (by rw [show k = 60 by omega] at hno; rw [hno]; rfl), rfl⟩
    | succ m ih =>
      intro k hk hno
      refine g_iload_n dX1_hasNearEnd_2 rfl rfl ?_
      refine g_bipush (x := 60) dX1_hasNearEnd_3 (by decide) ?_
      refine g_icmp_ge (tgt := 44) dX1_hasNearEnd_5 (by decide) (fun c5 => absurd c5 (by omega)) (fun c5 => ?_)
      refine g_aload_n dX1_hasNearEnd_8 rfl rfl ?_
      refine p_getR (o := some 3) dX1_hasNearEnd_9 (fX1_11 l) (by decide) rfl (by omega) rfl ?_
      refine g_iload_n dX1_hasNearEnd_12 rfl rfl ?_
      refine p_aald (ci := 0) (len := 60) (o := some (4 + k)) (kc0 l) dX1_hasNearEnd_13 rfl (by omega) (by omega) (by omega) (rr_cab (by omega)) ?_
      refine g_iload_n dX1_hasNearEnd_14 rfl rfl ?_
      refine g_Si2 dX1_hasNearEnd_15 (sX1_hasNearEnd_15 l) (Nat.le_of_ble_eq_true rfl) (cX1_hasLeft l (by omega) (by omega)) ?_
      refine g_if_eq (tgt := 38) dX1_hasNearEnd_18 (by decide) (fun c18 => ?_) (fun c18 => ?_)
      · refine e_iinc (v := ((k + 1 : Nat) : Int)) (loc' := [gR (some 2), gI s, gI (((k + 1 : Nat) : Int))]) dX1_hasNearEnd_38 (by decide) rfl (gadd_nat (by omega)) rfl ?_
        refine g_goto (tgt := 2) dX1_hasNearEnd_41 (by decide) ?_
        refine ih (k + 1) (by omega) ?_
        unfold anyTo
        rw [hno, Bool.false_or]
        refine decide_eq_false (fun z => ?_)
        first | (rw [if_pos z.1, if_pos z.2.1] at c18; omega) | omega
      · refine g_aload_n dX1_hasNearEnd_21 rfl rfl ?_
        refine p_getR (o := some 3) dX1_hasNearEnd_22 (fX1_11 l) (by decide) rfl (by omega) rfl ?_
        refine g_iload_n dX1_hasNearEnd_25 rfl rfl ?_
        refine p_aald (ci := 0) (len := 60) (o := some (4 + k)) (kc0 l) dX1_hasNearEnd_26 rfl (by omega) (by omega) (by omega) (rr_cab (by omega)) ?_
        refine c_getI (x := C (4 + k) 4) dX1_hasNearEnd_27 (fX1_27 l) rfl (T0_cab (by omega) (by omega)) (by omega) rfl ?_
        refine g_sipush (x := 5640) dX1_hasNearEnd_30 (by decide) ?_
        refine g_icmp_lt (tgt := 38) dX1_hasNearEnd_33 (by decide) (fun c33 => ?_) (fun c33 => ?_)
        · refine e_iinc (v := ((k + 1 : Nat) : Int)) (loc' := [gR (some 2), gI s, gI (((k + 1 : Nat) : Int))]) dX1_hasNearEnd_38 (by decide) rfl (gadd_nat (by omega)) rfl ?_
          refine g_goto (tgt := 2) dX1_hasNearEnd_41 (by decide) ?_
          refine ih (k + 1) (by omega) ?_
          unfold anyTo
          rw [hno, Bool.false_or]
          refine decide_eq_false (fun z => ?_)
          first | (rw [if_pos z.1, if_pos z.2.1] at c18; omega) | omega
        · refine g_iconst (x := 1) dX1_hasNearEnd_36 (by decide) ?_
          exact g_iret dX1_hasNearEnd_37 (Or.inr ⟨rfl, Or.inr rfl⟩) ⟨congrArg gK1 (by rw [if_pos ((anyTo_iff 60).mpr ⟨k, by omega, decide_eq_true (by split at c18; (split at c18; exact ⟨‹_›, ‹_›, by omega⟩; omega); omega)⟩)]), rfl⟩
  refine g_iconst (x := 0) dX1_hasNearEnd_0 (by decide) ?_
  refine e_istore_n (loc' := [gR (some 2), gI s, gI 0]) dX1_hasNearEnd_1 rfl (by decide) rfl ?_
  exact loop 60 0 (by omega) rfl
end
section
/-! contracts: siding and station -/
theorem gMi_to {π : gP} {mj : gM} {y : MethodName} {as : List gV} {h h' : gH} {v : Int} (v' : Int) (hM : gMi π mj y as h v h') (e : v = v') : gMi π mj y as h v' h' := by
  subst e; exact hM
theorem gMr_to {π : gP} {mj : gM} {y : MethodName} {as : List gV} {h h' : gH} {v : Option Nat} (v' : Option Nat) (hM : gMr π mj y as h v h') (e : v = v') : gMr π mj y as h v' h' := by
  subst e; exact hM
theorem gMv_to {π : gP} {mj : gM} {y : MethodName} {as : List gV} {h h' k : gH} (hM : gMv π mj y as h h') (e : h' = k) : gMv π mj y as h k := by
  subst e; exact hM
set_option maxHeartbeats 1000000 in
theorem cX2_hasRoom (l : Launch) {L : Nat} {C M : Nat → Nat → Int} {Z : Nat → Nat → Option Nat} {R : Nat → Option Nat}  : gMi (gπ l) mX2_hasRoom yX2_hasRoom [gR (some 65)] (hq L C M Z R) (if C 65 1 < 20 then 1 else 0) (hq L C M Z R) := by
  refine gMet_of pnX2 rfl rfl rfl (Nat.le_of_ble_eq_true rfl) (gAr gAn) ?_
  show G (gπ l) mX2_hasRoom 0 [gR (some 65)] [] (hq L C M Z R) 0 0 _
  refine g_aload_n dX2_hasRoom_0 rfl rfl ?_
  refine c_getI (x := C 65 1) dX2_hasRoom_1 (fX2_17 l) rfl rfl (by omega) rfl ?_
  refine g_bipush (x := 20) dX2_hasRoom_4 (by decide) ?_
  refine g_icmp_ge (tgt := 13) dX2_hasRoom_6 (by decide) (fun c6 => ?_) (fun c6 => ?_)
  · refine g_iconst (x := 0) dX2_hasRoom_13 (by decide) ?_
    exact g_iret dX2_hasRoom_14 (Or.inr ⟨rfl, Or.inl rfl⟩) ⟨congrArg gK1 (by (repeat' split) <;> omega), rfl⟩
  · refine g_iconst (x := 1) dX2_hasRoom_9 (by decide) ?_
    refine g_goto (tgt := 14) dX2_hasRoom_10 (by decide) ?_
    exact g_iret dX2_hasRoom_14 (Or.inr ⟨rfl, Or.inr rfl⟩) ⟨congrArg gK1 (by (repeat' split) <;> omega), rfl⟩
set_option maxHeartbeats 1000000 in
theorem cX2_cabinAt (l : Launch) {L : Nat} {C M : Nat → Nat → Int} {Z : Nat → Nat → Option Nat} {R : Nat → Option Nat} {sz : Nat} (hsz : C 65 1 = (sz : Int)) (h20 : sz ≤ 20) {p : Int} : gMr (gπ l) mX2_cabinAt yX2_cabinAt [gR (some 65), gI p] (hq L C M Z R) (if 0 ≤ p ∧ p < (sz : Int) then R p.toNat else none) (hq L C M Z R) := by
  refine gMet_of pnX2 rfl rfl rfl (Nat.le_of_ble_eq_true rfl) (gAr (gAi gAn)) ?_
  show G (gπ l) mX2_cabinAt 0 [gR (some 65), gI p] [] (hq L C M Z R) 0 0 _
  refine g_iload_n dX2_cabinAt_0 rfl rfl ?_
  refine g_if_lt (tgt := 12) dX2_cabinAt_1 (by decide) (fun c1 => ?_) (fun c1 => ?_)
  · refine g_null dX2_cabinAt_12 ?_
    refine g_goto (tgt := 22) dX2_cabinAt_13 (by decide) ?_
    exact g_aret dX2_cabinAt_22 rfl ⟨by rw [if_neg (by omega)], rfl⟩
  · refine g_iload_n dX2_cabinAt_4 rfl rfl ?_
    refine g_aload_n dX2_cabinAt_5 rfl rfl ?_
    refine c_getI (x := (sz : Int)) dX2_cabinAt_6 (fX2_17 l) rfl rfl (by omega) hsz ?_
    refine g_icmp_lt (tgt := 16) dX2_cabinAt_9 (by decide) (fun c9 => ?_) (fun c9 => ?_)
    · refine g_aload_n dX2_cabinAt_16 rfl rfl ?_
      refine p_getR (o := some 66) dX2_cabinAt_17 (fX2_11 l) (by decide) rfl (by omega) rfl ?_
      refine g_iload_n dX2_cabinAt_20 rfl rfl ?_
      refine p_aald (ci := 0) (len := 20) (o := R (p).toNat) (kc0 l) dX2_cabinAt_21 rfl (by omega) (by omega) (by omega) rfl ?_
      exact g_aret dX2_cabinAt_22 rfl ⟨by rw [if_pos ⟨by omega, by omega⟩], rfl⟩
    · refine g_null dX2_cabinAt_12 ?_
      refine g_goto (tgt := 22) dX2_cabinAt_13 (by decide) ?_
      exact g_aret dX2_cabinAt_22 rfl ⟨by rw [if_neg (by omega)], rfl⟩
set_option maxHeartbeats 1000000 in
theorem cX2_append (l : Launch) {L : Nat} {C M : Nat → Nat → Int} {Z : Nat → Nat → Option Nat} {R : Nat → Option Nat} {n : Nat} (h1 : 4 ≤ n) (h2 : n < 64) {sz : Nat} (hsz : C 65 1 = (sz : Int)) (h20 : sz < 20) : gMv (gπ l) mX2_append yX2_append [gR (some 65), gR (some n)] (hq L C M Z R) (hq L (up (sStand C n 1) 65 1 ((sz + 1 : Nat) : Int)) M Z (up1 R sz (some n))) := by
  refine gMet_of pnX2 rfl rfl rfl (Nat.le_of_ble_eq_true rfl) (gAr (gAr gAn)) ?_
  show G (gπ l) mX2_append 0 [gR (some 65), gR (some n)] [] (hq L C M Z R) 0 0 _
  refine g_aload_n dX2_append_0 rfl rfl ?_
  refine g_Vi0 dX2_append_1 (sX2_append_1 l) rfl (by show 65 < 87; omega) (Nat.le_of_ble_eq_true rfl) (gMi_to 1 (cX2_hasRoom l) (by rw [if_pos (by omega)])) ?_
  refine g_if_eq (tgt := 32) dX2_append_4 (by decide) (fun c4 => absurd c4 (by omega)) (fun c4 => ?_)
  refine g_aload_n dX2_append_7 rfl rfl ?_
  refine g_iconst (x := 1) dX2_append_8 (by decide) ?_
  refine g_Vv1 dX2_append_9 (sX2_append_9 l) (T0_cab (by omega) (by omega)) (by show n < 87; omega) (Nat.le_of_ble_eq_true rfl) (cX0_standAt l h1 h2) ?_
  refine g_aload_n dX2_append_12 rfl rfl ?_
  refine p_getR (o := some 66) dX2_append_13 (fX2_11 l) (by decide) rfl (by omega) rfl ?_
  refine g_aload_n dX2_append_16 rfl rfl ?_
  refine c_getI (x := (sz : Int)) dX2_append_17 (fX2_17 l) rfl rfl (by omega) (by unfold sStand; rw [up_cell (by omega), up_cell (by omega), up_cell (by omega), up_cell (by omega)]; exact hsz) ?_
  refine g_aload_n dX2_append_20 rfl rfl ?_
  refine p_aastR (kc0 l) dX2_append_21 (by omega) (by omega) (fun v hv => by cases hv; omega) ?_
  refine g_aload_n dX2_append_22 rfl rfl ?_
  refine g_dupR dX2_append_23 ?_
  refine c_getI (x := (sz : Int)) dX2_append_24 (fX2_17 l) rfl rfl (by omega) (by unfold sStand; rw [up_cell (by omega), up_cell (by omega), up_cell (by omega), up_cell (by omega)]; exact hsz) ?_
  refine g_iconst (x := 1) dX2_append_27 (by decide) ?_
  refine e_iadd (v := ((sz + 1 : Nat) : Int)) dX2_append_28 (gadd_nat (by omega)) ?_
  refine c_putI dX2_append_29 (fX2_17 l) gTX2 ⟨rfl, rfl⟩ rfl rfl (by omega) (by omega) ?_
  exact g_vret dX2_append_32 rfl ⟨rfl, rfl⟩
set_option maxHeartbeats 1000000 in
theorem cX2_placeOf (l : Launch) {L : Nat} {C M : Nat → Nat → Int} {Z : Nat → Nat → Option Nat} {R : Nat → Option Nat} {n p sz : Nat} (hsz : C 65 1 = (sz : Int)) (h20 : sz ≤ 20) (hp : p < sz) (hR : R p = some n) (hno : ∀ j, j < p → R j ≠ some n) : gMi (gπ l) mX2_placeOf yX2_placeOf [gR (some 65), gR (some n)] (hq L C M Z R) ((p : Int)) (hq L C M Z R) := by
  refine gMet_of pnX2 rfl rfl rfl (Nat.le_of_ble_eq_true rfl) (gAr (gAr gAn)) ?_
  show G (gπ l) mX2_placeOf 0 [gR (some 65), gR (some n), gU] [] (hq L C M Z R) 0 0 _
  have loop : ∀ (m k : Nat), k + m = p → G (gπ l) mX2_placeOf 2 [gR (some 65), gR (some n), gI (k : Int)] [] (hq L C M Z R) 0 0 (fun r k => r = some (some (gI ((p : Int)))) ∧ k = (hq L C M Z R)) := by
    intro m
    induction m with
    | zero =>
      intro k hk 
      refine g_iload_n dX2_placeOf_2 rfl rfl ?_
      refine g_aload_n dX2_placeOf_3 rfl rfl ?_
      refine c_getI (x := (sz : Int)) dX2_placeOf_4 (fX2_17 l) rfl rfl (by omega) hsz ?_
      refine g_icmp_ge (tgt := 28) dX2_placeOf_7 (by decide) (fun c7 => absurd c7 (by omega)) (fun c7 => ?_)
      refine g_aload_n dX2_placeOf_10 rfl rfl ?_
      refine p_getR (o := some 66) dX2_placeOf_11 (fX2_11 l) (by decide) rfl (by omega) rfl ?_
      refine g_iload_n dX2_placeOf_14 rfl rfl ?_
      refine p_aald (ci := 0) (len := 20) (o := R k) (kc0 l) dX2_placeOf_15 rfl (by omega) (by omega) (by omega) rfl ?_
      refine g_aload_n dX2_placeOf_16 rfl rfl ?_
      refine g_acmp_ne (tgt := 22) dX2_placeOf_17 (by decide) (fun c17 => absurd (by rw [show k = p by omega]; exact hR) c17) (fun _ => ?_)
      refine g_iload_n dX2_placeOf_20 rfl rfl ?_
      exact g_iret dX2_placeOf_21 (Or.inl rfl) ⟨by rw [show k = p by omega], rfl⟩
    | succ m ih =>
      intro k hk 
      refine g_iload_n dX2_placeOf_2 rfl rfl ?_
      refine g_aload_n dX2_placeOf_3 rfl rfl ?_
      refine c_getI (x := (sz : Int)) dX2_placeOf_4 (fX2_17 l) rfl rfl (by omega) hsz ?_
      refine g_icmp_ge (tgt := 28) dX2_placeOf_7 (by decide) (fun c7 => absurd c7 (by omega)) (fun c7 => ?_)
      refine g_aload_n dX2_placeOf_10 rfl rfl ?_
      refine p_getR (o := some 66) dX2_placeOf_11 (fX2_11 l) (by decide) rfl (by omega) rfl ?_
      refine g_iload_n dX2_placeOf_14 rfl rfl ?_
      refine p_aald (ci := 0) (len := 20) (o := R k) (kc0 l) dX2_placeOf_15 rfl (by omega) (by omega) (by omega) rfl ?_
      refine g_aload_n dX2_placeOf_16 rfl rfl ?_
      refine g_acmp_ne (tgt := 22) dX2_placeOf_17 (by decide) (fun _ => ?_) (fun c17 => absurd c17 (hno k (by omega)))
      refine e_iinc (v := ((k + 1 : Nat) : Int)) (loc' := [gR (some 65), gR (some n), gI (((k + 1 : Nat) : Int))]) dX2_placeOf_22 (by decide) rfl (gadd_nat (by omega)) rfl ?_
      refine g_goto (tgt := 2) dX2_placeOf_25 (by decide) ?_
      exact ih (k + 1) (by omega)
  refine g_iconst (x := 0) dX2_placeOf_0 (by decide) ?_
  refine e_istore_n (loc' := [gR (some 65), gR (some n), gI 0]) dX2_placeOf_1 rfl (by decide) rfl ?_
  exact loop p 0 (by omega)
def sRem (R : Nat → Option Nat) (p k : Nat) : Nat → Option Nat := fun j => if p ≤ j ∧ j + 1 < k then R (j + 1) else R j
theorem sRem_0 {R : Nat → Option Nat} {p : Nat} : sRem R p (p + 1) = R := by
  funext j
  unfold sRem
  rw [if_neg (by omega)]
theorem sRem_at {R : Nat → Option Nat} {p k : Nat} : sRem R p k k = R k := by
  unfold sRem
  rw [if_neg (by omega)]
theorem sRem_put {R : Nat → Option Nat} {p k : Nat} (h : p < k) : up1 (sRem R p k) (k - 1) (R k) = sRem R p (k + 1) := by
  funext j
  unfold up1 sRem
  by_cases e : j = k - 1
  · subst e
    rw [if_pos rfl, if_pos (by omega), show k - 1 + 1 = k by omega]
  · rw [if_neg e]
    by_cases c : p ≤ j ∧ j + 1 < k
    · rw [if_pos c, if_pos (by omega)]
    · rw [if_neg c, if_neg (by omega)]
set_option maxHeartbeats 1000000 in
theorem cX2_remove (l : Launch) {L : Nat} {C M : Nat → Nat → Int} {Z : Nat → Nat → Option Nat} {R : Nat → Option Nat} {n p sz : Nat} (hsz : C 65 1 = (sz : Int)) (h20 : sz ≤ 20) (hp : p < sz) (hR : R p = some n) (hno : ∀ j, j < p → R j ≠ some n) (hRb : ∀ j v, R j = some v → 4 ≤ v ∧ v < 64) : gMv (gπ l) mX2_remove yX2_remove [gR (some 65), gR (some n)] (hq L C M Z R) (hq L (up C 65 1 ((sz - 1 : Nat) : Int)) M Z (up1 (sRem R p sz) (sz - 1) none)) := by
  refine gMet_of pnX2 rfl rfl rfl (Nat.le_of_ble_eq_true rfl) (gAr (gAr gAn)) ?_
  show G (gπ l) mX2_remove 0 [gR (some 65), gR (some n), gU, gU] [] (hq L C M Z R) 0 0 _
  have loop : ∀ (m k : Nat), k + m = sz → p < k → G (gπ l) mX2_remove 15 [gR (some 65), gR (some n), gI (p : Int), gI (k : Int)] [] (hq L C M Z (sRem R p k)) 0 0 (fun r k => r = some none ∧ k = (hq L (up C 65 1 ((sz - 1 : Nat) : Int)) M Z (up1 (sRem R p sz) (sz - 1) none))) := by
    intro m
    induction m with
    | zero =>
      intro k hk hpk
      refine g_iload_n dX2_remove_15 rfl rfl ?_
      refine g_aload_n dX2_remove_16 rfl rfl ?_
      refine c_getI (x := (sz : Int)) dX2_remove_17 (fX2_17 l) rfl rfl (by omega) hsz ?_
      refine g_icmp_ge (tgt := 43) dX2_remove_20 (by decide) (fun c20 => ?_) (fun c20 => absurd c20 (by omega))
      refine g_aload_n dX2_remove_43 rfl rfl ?_
      refine g_dupR dX2_remove_44 ?_
      refine c_getI (x := (sz : Int)) dX2_remove_45 (fX2_17 l) rfl rfl (by omega) hsz ?_
      refine g_iconst (x := 1) dX2_remove_48 (by decide) ?_
      refine e_isub (v := ((sz - 1 : Nat) : Int)) dX2_remove_49 (by rw [gsub_eq (by omega) (by omega)]; omega) ?_
      refine c_putI dX2_remove_50 (fX2_17 l) gTX2 ⟨rfl, rfl⟩ rfl rfl (by omega) (by omega) ?_
      refine g_aload_n dX2_remove_53 rfl rfl ?_
      refine p_getR (o := some 66) dX2_remove_54 (fX2_11 l) (by decide) rfl (by omega) rfl ?_
      refine g_aload_n dX2_remove_57 rfl rfl ?_
      refine c_getI (x := ((sz - 1 : Nat) : Int)) dX2_remove_58 (fX2_17 l) rfl rfl (by omega) up_same ?_
      refine g_null dX2_remove_61 ?_
      refine p_aastR (kc0 l) dX2_remove_62 (by omega) (by omega) (fun v hv => nomatch hv) ?_
      exact g_vret dX2_remove_63 rfl ⟨rfl, by rw [show k = sz by omega]; rfl⟩
    | succ m ih =>
      intro k hk hpk
      refine g_iload_n dX2_remove_15 rfl rfl ?_
      refine g_aload_n dX2_remove_16 rfl rfl ?_
      refine c_getI (x := (sz : Int)) dX2_remove_17 (fX2_17 l) rfl rfl (by omega) hsz ?_
      refine g_icmp_ge (tgt := 43) dX2_remove_20 (by decide) (fun c20 => absurd c20 (by omega)) (fun c20 => ?_)
      refine g_aload_n dX2_remove_23 rfl rfl ?_
      refine p_getR (o := some 66) dX2_remove_24 (fX2_11 l) (by decide) rfl (by omega) rfl ?_
      refine g_iload_n dX2_remove_27 rfl rfl ?_
      refine g_iconst (x := 1) dX2_remove_28 (by decide) ?_
      refine e_isub (v := ((k - 1 : Nat) : Int)) dX2_remove_29 (by rw [gsub_eq (by omega) (by omega)]; omega) ?_
      refine g_aload_n dX2_remove_30 rfl rfl ?_
      refine p_getR (o := some 66) dX2_remove_31 (fX2_11 l) (by decide) rfl (by omega) rfl ?_
      refine g_iload_n dX2_remove_34 rfl rfl ?_
      refine p_aald (ci := 0) (len := 20) (o := R k) (kc0 l) dX2_remove_35 rfl (by omega) (by omega) (by omega) sRem_at ?_
      refine p_aastR (kc0 l) dX2_remove_36 (by omega) (by omega) (fun v hv => hRb _ _ hv) ?_
      refine e_iinc (v := ((k + 1 : Nat) : Int)) (loc' := [gR (some 65), gR (some n), gI (p : Int), gI (((k + 1 : Nat) : Int))]) dX2_remove_37 (by decide) rfl (gadd_nat (by omega)) rfl ?_
      refine g_goto (tgt := 15) dX2_remove_40 (by decide) ?_
      refine g_eq rfl (by rw [← sRem_put hpk]; rfl) (ih (k + 1) (by omega) (by omega))
  refine g_aload_n dX2_remove_0 rfl rfl ?_
  refine g_aload_n dX2_remove_1 rfl rfl ?_
  refine g_Vi1 dX2_remove_2 (sX2_remove_2 l) rfl (by show 65 < 87; omega) (Nat.le_of_ble_eq_true rfl) (cX2_placeOf l hsz h20 hp hR hno) ?_
  refine e_istore_n (loc' := [gR (some 65), gR (some n), gI ((p : Int)), gU]) dX2_remove_5 rfl (by decide) rfl ?_
  refine g_iload_n dX2_remove_6 rfl rfl ?_
  refine g_if_ge (tgt := 11) dX2_remove_7 (by decide) (fun c7 => ?_) (fun c7 => absurd c7 (by omega))
  refine g_iload_n dX2_remove_11 rfl rfl ?_
  refine g_iconst (x := 1) dX2_remove_12 (by decide) ?_
  refine e_iadd (v := ((p + 1 : Nat) : Int)) dX2_remove_13 (gadd_nat (by omega)) ?_
  refine e_istore_n (loc' := [gR (some 65), gR (some n), gI ((p : Int)), gI (((p + 1 : Nat) : Int))]) dX2_remove_14 rfl (by decide) rfl ?_
  exact g_eq rfl (by rw [sRem_0]) (loop (sz - (p + 1)) (p + 1) (by omega) (by omega))
def sAdm (C : Nat → Nat → Int) (n s : Nat) (z : Int) : Nat → Nat → Int := up (up (up (sStand C n 2) n 2 (s : Int)) n 3 z) n 5 0
set_option maxHeartbeats 1000000 in
theorem cX3_admit (l : Launch) {L : Nat} {C M : Nat → Nat → Int} {Z : Nat → Nat → Option Nat} {R : Nat → Option Nat} {s : Nat} (hs : s < 2) (hnum : C (70 + 2 * s) 0 = (s : Int)) {n : Nat} (h1 : 4 ≤ n) (h2 : n < 64) {z : Nat} (hz : z < 13) : gMv (gπ l) mX3_admit yX3_admit [gR (some (70 + 2 * s)), gR (some n), gI (z : Int)] (hq L C M Z R) (hq L (sAdm C n s (z : Int)) M (up Z s z (some n)) R) := by
  refine gMet_of pnX3 rfl rfl rfl (Nat.le_of_ble_eq_true rfl) (gAr (gAr (gAi gAn))) ?_
  show G (gπ l) mX3_admit 0 [gR (some (70 + 2 * s)), gR (some n), gI (z : Int)] [] (hq L C M Z R) 0 0 _
  refine g_aload_n dX3_admit_0 rfl rfl ?_
  refine g_iconst (x := 2) dX3_admit_1 (by decide) ?_
  refine g_Vv1 dX3_admit_2 (sX3_admit_2 l) (T0_cab (by omega) (by omega)) (by show n < 87; omega) (Nat.le_of_ble_eq_true rfl) (cX0_standAt l h1 h2) ?_
  refine g_aload_n dX3_admit_5 rfl rfl ?_
  refine g_aload_n dX3_admit_6 rfl rfl ?_
  refine c_getI (x := (s : Int)) dX3_admit_7 (fX3_17 l) rfl (T0_st (by omega)) (by omega) (by unfold sStand; rw [up_cell (by omega), up_cell (by omega), up_cell (by omega), up_cell (by omega)]; exact hnum) ?_
  refine c_putI dX3_admit_10 (fX3_25 l) gTX0 ⟨rfl, rfl⟩ rfl (T0_cab (by omega) (by omega)) (by omega) (by omega) ?_
  refine g_aload_n dX3_admit_13 rfl rfl ?_
  refine g_iload_n dX3_admit_14 rfl rfl ?_
  refine c_putI dX3_admit_15 (fX3_28 l) gTX0 ⟨rfl, rfl⟩ rfl (T0_cab (by omega) (by omega)) (by omega) (by omega) ?_
  refine g_aload_n dX3_admit_18 rfl rfl ?_
  refine g_iconst (x := 0) dX3_admit_19 (by decide) ?_
  refine c_putI dX3_admit_20 (fX3_31 l) gTX0 ⟨rfl, rfl⟩ rfl (T0_cab (by omega) (by omega)) (by omega) (by omega) ?_
  refine g_aload_n dX3_admit_23 rfl rfl ?_
  refine p_getR (o := some (71 + 2 * s)) dX3_admit_24 (fX3_11 l) (by decide) (T0_st (by omega)) (by omega) (rr_zs (by omega)) ?_
  refine g_iload_n dX3_admit_27 rfl rfl ?_
  refine g_aload_n dX3_admit_28 rfl rfl ?_
  refine p_aastZ (s := s) (kc0 l) dX3_admit_29 (by omega) (by omega) (by omega) (fun v hv => by cases hv; omega) ?_
  exact g_vret dX3_admit_30 rfl ⟨rfl, rfl⟩
set_option maxHeartbeats 1000000 in
theorem cX3_goOn_stay (l : Launch) {L : Nat} {C M : Nat → Nat → Int} {Z : Nat → Nat → Option Nat} {R : Nat → Option Nat} {s : Nat} (hs : s < 2) (hnum : C (70 + 2 * s) 0 = (s : Int)) {n : Nat} (h1 : 4 ≤ n) (h2 : n < 64) {z : Nat} (hz : z < 12) (hzn : Z s z = some n) (hst : C n 5 < 15 ∨ ∃ q, Z s (z + 1) = some q) : gMv (gπ l) mX3_goOn yX3_goOn [gR (some (70 + 2 * s)), gI (z : Int)] (hq L C M Z R) (hq L C M Z R) := by
  refine gMet_of pnX3 rfl rfl rfl (Nat.le_of_ble_eq_true rfl) (gAr (gAi gAn)) ?_
  show G (gπ l) mX3_goOn 0 [gR (some (70 + 2 * s)), gI (z : Int), gU] [] (hq L C M Z R) 0 0 _
  refine g_aload_n dX3_goOn_0 rfl rfl ?_
  refine p_getR (o := some (71 + 2 * s)) dX3_goOn_1 (fX3_11 l) (by decide) (T0_st (by omega)) (by omega) (rr_zs (by omega)) ?_
  refine g_iload_n dX3_goOn_4 rfl rfl ?_
  refine p_aald (ci := 0) (len := 13) (o := some n) (kc0 l) dX3_goOn_5 (T0_zones (by omega)) (by omega) (by omega) (by omega) (by rw [rr_zone (by omega)]; exact hzn) ?_
  refine e_astore_n (loc' := [gR (some (70 + 2 * s)), gI (z : Int), gR (some n)]) dX3_goOn_6 rfl (by decide) rfl ?_
  refine g_aload_n dX3_goOn_7 rfl rfl ?_
  refine g_ifnull (tgt := 46) dX3_goOn_8 (by decide) (fun z9 => absurd (z9.symm.trans rfl) (by simp)) (fun _ _ => ?_)
  refine g_aload_n dX3_goOn_11 rfl rfl ?_
  refine c_getI (x := C n 5) dX3_goOn_12 (fX3_31 l) rfl (T0_cab (by omega) (by omega)) (by omega) rfl ?_
  refine g_bipush (x := 15) dX3_goOn_15 (by decide) ?_
  refine g_icmp_lt (tgt := 46) dX3_goOn_17 (by decide) (fun c17 => ?_) (fun c17 => ?_)
  · exact g_vret dX3_goOn_46 rfl ⟨rfl, rfl⟩
  · refine g_aload_n dX3_goOn_20 rfl rfl ?_
    refine p_getR (o := some (71 + 2 * s)) dX3_goOn_21 (fX3_11 l) (by decide) (T0_st (by omega)) (by omega) (rr_zs (by omega)) ?_
    refine g_iload_n dX3_goOn_24 rfl rfl ?_
    refine g_iconst (x := 1) dX3_goOn_25 (by decide) ?_
    refine e_iadd (v := ((z + 1 : Nat) : Int)) dX3_goOn_26 (gadd_nat (by omega)) ?_
    refine p_aald (ci := 0) (len := 13) (o := Z s (z + 1)) (kc0 l) dX3_goOn_27 (T0_zones (by omega)) (by omega) (by omega) (by omega) (rr_zone (by omega)) ?_
    refine g_ifnonnull (tgt := 46) dX3_goOn_28 (by decide) (fun n28 c28 => ?_) (fun c28 => ?_)
    · exact g_vret dX3_goOn_46 rfl ⟨rfl, rfl⟩
    · exact absurd hst (by rintro (z9 | ⟨q, z9⟩); omega; rw [c28] at z9; cases z9)
set_option maxHeartbeats 1000000 in
theorem cX3_goOn_go (l : Launch) {L : Nat} {C M : Nat → Nat → Int} {Z : Nat → Nat → Option Nat} {R : Nat → Option Nat} {s : Nat} (hs : s < 2) (hnum : C (70 + 2 * s) 0 = (s : Int)) {n : Nat} (h1 : 4 ≤ n) (h2 : n < 64) {z : Nat} (hz : z < 12) (hzn : Z s z = some n) (hage : 15 ≤ C n 5) (hnx : Z s (z + 1) = none) : gMv (gπ l) mX3_goOn yX3_goOn [gR (some (70 + 2 * s)), gI (z : Int)] (hq L C M Z R) (hq L (sAdm C n s ((z + 1 : Nat) : Int)) M (up (up Z s z none) s (z + 1) (some n)) R) := by
  refine gMet_of pnX3 rfl rfl rfl (Nat.le_of_ble_eq_true rfl) (gAr (gAi gAn)) ?_
  show G (gπ l) mX3_goOn 0 [gR (some (70 + 2 * s)), gI (z : Int), gU] [] (hq L C M Z R) 0 0 _
  refine g_aload_n dX3_goOn_0 rfl rfl ?_
  refine p_getR (o := some (71 + 2 * s)) dX3_goOn_1 (fX3_11 l) (by decide) (T0_st (by omega)) (by omega) (rr_zs (by omega)) ?_
  refine g_iload_n dX3_goOn_4 rfl rfl ?_
  refine p_aald (ci := 0) (len := 13) (o := some n) (kc0 l) dX3_goOn_5 (T0_zones (by omega)) (by omega) (by omega) (by omega) (by rw [rr_zone (by omega)]; exact hzn) ?_
  refine e_astore_n (loc' := [gR (some (70 + 2 * s)), gI (z : Int), gR (some n)]) dX3_goOn_6 rfl (by decide) rfl ?_
  refine g_aload_n dX3_goOn_7 rfl rfl ?_
  refine g_ifnull (tgt := 46) dX3_goOn_8 (by decide) (fun z9 => absurd (z9.symm.trans rfl) (by simp)) (fun _ _ => ?_)
  refine g_aload_n dX3_goOn_11 rfl rfl ?_
  refine c_getI (x := C n 5) dX3_goOn_12 (fX3_31 l) rfl (T0_cab (by omega) (by omega)) (by omega) rfl ?_
  refine g_bipush (x := 15) dX3_goOn_15 (by decide) ?_
  refine g_icmp_lt (tgt := 46) dX3_goOn_17 (by decide) (fun c17 => absurd c17 (by omega)) (fun c17 => ?_)
  refine g_aload_n dX3_goOn_20 rfl rfl ?_
  refine p_getR (o := some (71 + 2 * s)) dX3_goOn_21 (fX3_11 l) (by decide) (T0_st (by omega)) (by omega) (rr_zs (by omega)) ?_
  refine g_iload_n dX3_goOn_24 rfl rfl ?_
  refine g_iconst (x := 1) dX3_goOn_25 (by decide) ?_
  refine e_iadd (v := ((z + 1 : Nat) : Int)) dX3_goOn_26 (gadd_nat (by omega)) ?_
  refine p_aald (ci := 0) (len := 13) (o := Z s (z + 1)) (kc0 l) dX3_goOn_27 (T0_zones (by omega)) (by omega) (by omega) (by omega) (rr_zone (by omega)) ?_
  refine g_ifnonnull (tgt := 46) dX3_goOn_28 (by decide) (fun n9 z9 => absurd (z9.symm.trans hnx) (by simp)) (fun _ => ?_)
  refine g_aload_n dX3_goOn_31 rfl rfl ?_
  refine p_getR (o := some (71 + 2 * s)) dX3_goOn_32 (fX3_11 l) (by decide) (T0_st (by omega)) (by omega) (rr_zs (by omega)) ?_
  refine g_iload_n dX3_goOn_35 rfl rfl ?_
  refine g_null dX3_goOn_36 ?_
  refine p_aastZ (s := s) (kc0 l) dX3_goOn_37 (by omega) (by omega) (by omega) (fun v hv => nomatch hv) ?_
  refine g_aload_n dX3_goOn_38 rfl rfl ?_
  refine g_aload_n dX3_goOn_39 rfl rfl ?_
  refine g_iload_n dX3_goOn_40 rfl rfl ?_
  refine g_iconst (x := 1) dX3_goOn_41 (by decide) ?_
  refine e_iadd (v := ((z + 1 : Nat) : Int)) dX3_goOn_42 (gadd_nat (by omega)) ?_
  refine g_Vv2 dX3_goOn_43 (sX3_goOn_43 l) (T0_st (by omega)) (by show 70 + 2 * s < 87; omega) (Nat.le_of_ble_eq_true rfl) (cX3_admit l hs hnum h1 h2 (by omega)) ?_
  exact g_vret dX3_goOn_46 rfl ⟨rfl, rfl⟩
set_option maxHeartbeats 1000000 in
theorem cX3_isEmptyUpTo (l : Launch) {L : Nat} {C M : Nat → Nat → Int} {Z : Nat → Nat → Option Nat} {R : Nat → Option Nat} {s : Nat} (hs : s < 2) : gMi (gπ l) mX3_isEmptyUpTo yX3_isEmptyUpTo [gR (some (70 + 2 * s)), gI 5] (hq L C M Z R) (if anyTo (fun j => decide (Z s (j + 1) ≠ none)) 5 = true then 0 else 1) (hq L C M Z R) := by
  refine gMet_of pnX3 rfl rfl rfl (Nat.le_of_ble_eq_true rfl) (gAr (gAi gAn)) ?_
  show G (gπ l) mX3_isEmptyUpTo 0 [gR (some (70 + 2 * s)), gI 5, gU] [] (hq L C M Z R) 0 0 _
  have loop : ∀ (m k : Nat), k + m = 5 → anyTo (fun j => decide (Z s (j + 1) ≠ none)) k = false → G (gπ l) mX3_isEmptyUpTo 2 [gR (some (70 + 2 * s)), gI 5, gI ((k + 1 : Nat) : Int)] [] (hq L C M Z R) 0 0 (fun r k => r = some (some (gI (if anyTo (fun j => decide (Z s (j + 1) ≠ none)) 5 = true then 0 else 1))) ∧ k = (hq L C M Z R)) := by
    intro m
    induction m with
    | zero =>
      intro k hk hno
      refine g_iload_n dX3_isEmptyUpTo_2 rfl rfl ?_
      refine g_iload_n dX3_isEmptyUpTo_3 rfl rfl ?_
      refine g_icmp_gt (tgt := 24) dX3_isEmptyUpTo_4 (by decide) (fun c4 => ?_) (fun c4 => absurd c4 (by omega))
      refine g_iconst (x := 1) dX3_isEmptyUpTo_24 (by decide) ?_
      exact g_iret dX3_isEmptyUpTo_25 (Or.inr ⟨rfl, Or.inr rfl⟩) ⟨congrArg gK1 (by rw [show k = 5 by omega] at hno; rw [hno]; rfl), rfl⟩
    | succ m ih =>
      intro k hk hno
      refine g_iload_n dX3_isEmptyUpTo_2 rfl rfl ?_
      refine g_iload_n dX3_isEmptyUpTo_3 rfl rfl ?_
      refine g_icmp_gt (tgt := 24) dX3_isEmptyUpTo_4 (by decide) (fun c4 => absurd c4 (by omega)) (fun c4 => ?_)
      refine g_aload_n dX3_isEmptyUpTo_7 rfl rfl ?_
      refine p_getR (o := some (71 + 2 * s)) dX3_isEmptyUpTo_8 (fX3_11 l) (by decide) (T0_st (by omega)) (by omega) (rr_zs (by omega)) ?_
      refine g_iload_n dX3_isEmptyUpTo_11 rfl rfl ?_
      refine p_aald (ci := 0) (len := 13) (o := Z s (k + 1)) (kc0 l) dX3_isEmptyUpTo_12 (T0_zones (by omega)) (by omega) (by omega) (by omega) (rr_zone (by omega)) ?_
      refine g_ifnull (tgt := 18) dX3_isEmptyUpTo_13 (by decide) (fun c13 => ?_) (fun n13 c13 => ?_)
      · refine e_iinc (v := ((k + 1 + 1 : Nat) : Int)) (loc' := [gR (some (70 + 2 * s)), gI 5, gI (((k + 1 + 1 : Nat) : Int))]) dX3_isEmptyUpTo_18 (by decide) rfl (gadd_nat (by omega)) rfl ?_
        refine g_goto (tgt := 2) dX3_isEmptyUpTo_21 (by decide) ?_
        refine ih (k + 1) (by omega) ?_
        unfold anyTo
        rw [hno, Bool.false_or, c13]
        rfl
      · refine g_iconst (x := 0) dX3_isEmptyUpTo_16 (by decide) ?_
        exact g_iret dX3_isEmptyUpTo_17 (Or.inr ⟨rfl, Or.inl rfl⟩) ⟨congrArg gK1 (by rw [if_pos ((anyTo_iff 5).mpr ⟨k, by omega, decide_eq_true (by rw [c13]; simp)⟩)]), rfl⟩
  refine g_iconst (x := 1) dX3_isEmptyUpTo_0 (by decide) ?_
  refine e_istore_n (loc' := [gR (some (70 + 2 * s)), gI 5, gI 1]) dX3_isEmptyUpTo_1 rfl (by decide) rfl ?_
  exact loop 5 0 (by omega) rfl
set_option maxHeartbeats 1000000 in
theorem cX3_count (l : Launch) {L : Nat} {C M : Nat → Nat → Int} {Z : Nat → Nat → Option Nat} {R : Nat → Option Nat} {s : Nat} (hs : s < 2) : gMi (gπ l) mX3_count yX3_count [gR (some (70 + 2 * s))] (hq L C M Z R) (cntTo (fun j => decide (Z s (j + 1) ≠ none)) 12) (hq L C M Z R) := by
  refine gMet_of pnX3 rfl rfl rfl (Nat.le_of_ble_eq_true rfl) (gAr gAn) ?_
  show G (gπ l) mX3_count 0 [gR (some (70 + 2 * s)), gU, gU] [] (hq L C M Z R) 0 0 _
  have loop : ∀ (m k : Nat), k + m = 12 → G (gπ l) mX3_count 4 [gR (some (70 + 2 * s)), gI (cntTo (fun j => decide (Z s (j + 1) ≠ none)) k), gI ((k + 1 : Nat) : Int)] [] (hq L C M Z R) 0 0 (fun r k => r = some (some (gI (cntTo (fun j => decide (Z s (j + 1) ≠ none)) 12))) ∧ k = (hq L C M Z R)) := by
    intro m
    induction m with
    | zero =>
      intro k hk 
      refine g_iload_n dX3_count_4 rfl rfl ?_
      refine g_bipush (x := 12) dX3_count_5 (by decide) ?_
      refine g_icmp_gt (tgt := 28) dX3_count_7 (by decide) (fun c7 => ?_) (fun c7 => absurd c7 (by omega))
      refine g_iload_n dX3_count_28 rfl rfl ?_
      exact g_iret dX3_count_29 (Or.inl rfl) ⟨by rw [show k = 12 by omega], rfl⟩
    | succ m ih =>
      intro k hk 
      refine g_iload_n dX3_count_4 rfl rfl ?_
      refine g_bipush (x := 12) dX3_count_5 (by decide) ?_
      refine g_icmp_gt (tgt := 28) dX3_count_7 (by decide) (fun c7 => absurd c7 (by omega)) (fun c7 => ?_)
      refine g_aload_n dX3_count_10 rfl rfl ?_
      refine p_getR (o := some (71 + 2 * s)) dX3_count_11 (fX3_11 l) (by decide) (T0_st (by omega)) (by omega) (rr_zs (by omega)) ?_
      refine g_iload_n dX3_count_14 rfl rfl ?_
      refine p_aald (ci := 0) (len := 13) (o := Z s (k + 1)) (kc0 l) dX3_count_15 (T0_zones (by omega)) (by omega) (by omega) (by omega) (rr_zone (by omega)) ?_
      refine g_ifnull (tgt := 22) dX3_count_16 (by decide) (fun c16 => ?_) (fun n16 c16 => ?_)
      · refine e_iinc (v := ((k + 1 + 1 : Nat) : Int)) (loc' := [gR (some (70 + 2 * s)), gI (cntTo (fun j => decide (Z s (j + 1) ≠ none)) k), gI (((k + 1 + 1 : Nat) : Int))]) dX3_count_22 (by decide) rfl (gadd_nat (by omega)) rfl ?_
        refine g_goto (tgt := 4) dX3_count_25 (by decide) ?_
        refine g_eq (loc' := [gR (some (70 + 2 * s)), gI (cntTo (fun j => decide (Z s (j + 1) ≠ none)) (k + 1)), gI ((k + 1 + 1 : Nat) : Int)]) ?_ rfl (ih (k + 1) (by omega))
        simp [cntTo, c16]
      · refine e_iinc (v := cntTo (fun j => decide (Z s (j + 1) ≠ none)) k + 1) (loc' := [gR (some (70 + 2 * s)), gI (cntTo (fun j => decide (Z s (j + 1) ≠ none)) k + 1), gI ((k + 1 : Nat) : Int)]) dX3_count_19 (by decide) rfl (gadd_eq (by have := cntTo_nn (p := (fun j => decide (Z s (j + 1) ≠ none))) k; omega) (by have := cntTo_nn (p := (fun j => decide (Z s (j + 1) ≠ none))) k; omega)) rfl ?_
        refine e_iinc (v := ((k + 1 + 1 : Nat) : Int)) (loc' := [gR (some (70 + 2 * s)), gI (cntTo (fun j => decide (Z s (j + 1) ≠ none)) k + 1), gI (((k + 1 + 1 : Nat) : Int))]) dX3_count_22 (by decide) rfl (gadd_nat (by omega)) rfl ?_
        refine g_goto (tgt := 4) dX3_count_25 (by decide) ?_
        refine g_eq (loc' := [gR (some (70 + 2 * s)), gI (cntTo (fun j => decide (Z s (j + 1) ≠ none)) (k + 1)), gI ((k + 1 + 1 : Nat) : Int)]) ?_ rfl (ih (k + 1) (by omega))
        simp [cntTo, c16]
  refine g_iconst (x := 0) dX3_count_0 (by decide) ?_
  refine e_istore_n (loc' := [gR (some (70 + 2 * s)), gI 0, gU]) dX3_count_1 rfl (by decide) rfl ?_
  refine g_iconst (x := 1) dX3_count_2 (by decide) ?_
  refine e_istore_n (loc' := [gR (some (70 + 2 * s)), gI 0, gI 1]) dX3_count_3 rfl (by decide) rfl ?_
  exact loop 12 0 (by omega)
end
section
/-! contracts: the wind book; the way ahead -/
def sIns (C : Nat → Nat → Int) (v : Int) : Nat → Nat → Nat → Int
  | 0 => up C 69 0 v
  | a + 1 => if v < C 69 a then sIns (up C 69 (a + 1) (C 69 a)) v a else up C 69 (a + 1) v
set_option maxHeartbeats 1000000 in
theorem cX4_sortIn (l : Launch) {L : Nat} {C M : Nat → Nat → Int} {Z : Nat → Nat → Option Nat} {R : Nat → Option Nat} {v : Int} {t : Nat} (ht : t ≤ 4) : gMv (gπ l) mX4_sortIn yX4_sortIn [gR (some 67), gI v, gI (t : Int)] (hq L C M Z R) (hq L (sIns C v t) M Z R) := by
  refine gMet_of pnX4 rfl rfl rfl (Nat.le_of_ble_eq_true rfl) (gAr (gAi (gAi gAn))) ?_
  show G (gπ l) mX4_sortIn 0 [gR (some 67), gI v, gI (t : Int), gU] [] (hq L C M Z R) 0 0 _
  have loop : ∀ (a : Nat) (C : Nat → Nat → Int), a ≤ 4 → G (gπ l) mX4_sortIn 2 [gR (some 67), gI v, gI (t : Int), gI (a : Int)] [] (hq L C M Z R) 0 0 (fun r k => r = some none ∧ k = hq L (sIns C v a) M Z R) := by
    intro a
    induction a with
    | zero =>
      intro C ha
      refine g_iload_n dX4_sortIn_2 rfl rfl ?_
      refine g_if_le (tgt := 38) dX4_sortIn_3 (by decide) (fun c3 => ?_) (fun c3 => absurd c3 (by omega))
      refine g_aload_n dX4_sortIn_38 rfl rfl ?_
      refine p_getR (o := some 69) dX4_sortIn_39 (fX4_13 l) (by decide) rfl (by omega) rfl ?_
      refine g_iload_n dX4_sortIn_42 rfl rfl ?_
      refine g_iload_n dX4_sortIn_43 rfl rfl ?_
      refine c_iast (len := 5) dX4_sortIn_44 rfl (by omega) (by omega) (by omega) (by omega) ?_
      exact g_vret dX4_sortIn_45 rfl ⟨rfl, rfl⟩
    | succ a ih =>
      intro C ha
      refine g_iload_n dX4_sortIn_2 rfl rfl ?_
      refine g_if_le (tgt := 38) dX4_sortIn_3 (by decide) (fun c3 => absurd c3 (by omega)) (fun c3 => ?_)
      refine g_aload_n dX4_sortIn_6 rfl rfl ?_
      refine p_getR (o := some 69) dX4_sortIn_7 (fX4_13 l) (by decide) rfl (by omega) rfl ?_
      refine g_iload_n dX4_sortIn_10 rfl rfl ?_
      refine g_iconst (x := 1) dX4_sortIn_11 (by decide) ?_
      refine e_isub (v := (a : Int)) dX4_sortIn_12 (by rw [gsub_eq (by omega) (by omega)]; omega) ?_
      refine c_iald (len := 5) (x := C 69 a) dX4_sortIn_13 rfl (by omega) (by omega) (by omega) rfl ?_
      refine g_iload_n dX4_sortIn_14 rfl rfl ?_
      refine g_icmp_le (tgt := 38) dX4_sortIn_15 (by decide) (fun c15 => ?_) (fun c15 => ?_)
      · refine g_aload_n dX4_sortIn_38 rfl rfl ?_
        refine p_getR (o := some 69) dX4_sortIn_39 (fX4_13 l) (by decide) rfl (by omega) rfl ?_
        refine g_iload_n dX4_sortIn_42 rfl rfl ?_
        refine g_iload_n dX4_sortIn_43 rfl rfl ?_
        refine c_iast (len := 5) dX4_sortIn_44 rfl (by omega) (by omega) (by omega) (by omega) ?_
        exact g_vret dX4_sortIn_45 rfl ⟨rfl, by rw [sIns, if_neg (by omega)]; rfl⟩
      · refine g_aload_n dX4_sortIn_18 rfl rfl ?_
        refine p_getR (o := some 69) dX4_sortIn_19 (fX4_13 l) (by decide) rfl (by omega) rfl ?_
        refine g_iload_n dX4_sortIn_22 rfl rfl ?_
        refine g_aload_n dX4_sortIn_23 rfl rfl ?_
        refine p_getR (o := some 69) dX4_sortIn_24 (fX4_13 l) (by decide) rfl (by omega) rfl ?_
        refine g_iload_n dX4_sortIn_27 rfl rfl ?_
        refine g_iconst (x := 1) dX4_sortIn_28 (by decide) ?_
        refine e_isub (v := (a : Int)) dX4_sortIn_29 (by rw [gsub_eq (by omega) (by omega)]; omega) ?_
        refine c_iald (len := 5) (x := C 69 a) dX4_sortIn_30 rfl (by omega) (by omega) (by omega) rfl ?_
        refine c_iast (len := 5) dX4_sortIn_31 rfl (by omega) (by omega) (by omega) (by omega) ?_
        refine e_iinc (v := (a : Int)) (loc' := [gR (some 67), gI v, gI (t : Int), gI ((a : Int))]) dX4_sortIn_32 (by decide) rfl (by rw [gadd_eq (by omega) (by omega)]; omega) rfl ?_
        refine g_goto (tgt := 2) dX4_sortIn_35 (by decide) ?_
        rw [show sIns C v (a + 1) = sIns (up C 69 (a + 1) (C 69 a)) v a from by rw [sIns, if_pos c15]]
        exact ih (up C 69 (a + 1) (C 69 a)) (by omega)
  refine g_iload_n dX4_sortIn_0 rfl rfl ?_
  refine e_istore_n (loc' := [gR (some 67), gI v, gI (t : Int), gI (t : Int)]) dX4_sortIn_1 rfl (by decide) rfl ?_
  exact loop t C ht
theorem sIns_ne {v : Int} {a b : Nat} (h : a ≠ 69) : ∀ (t : Nat) (C : Nat → Nat → Int), sIns C v t a b = C a b
  | 0, C => by rw [sIns, up_cell h]
  | t + 1, C => by
    rw [sIns]
    split
    · rw [sIns_ne h t, up_cell h]
    · rw [up_cell h]
def sSort (C : Nat → Nat → Int) : Nat → Nat → Nat → Int
  | 0 => C
  | k + 1 => sIns (sSort C k) (sSort C k 68 k) k
theorem sSort_ne {C : Nat → Nat → Int} {a b : Nat} (h : a ≠ 69) : ∀ k, sSort C k a b = C a b
  | 0 => rfl
  | k + 1 => by rw [sSort, sIns_ne h, sSort_ne h k]
set_option maxHeartbeats 1000000 in
theorem lX4_report (l : Launch) {L : Nat} {C M : Nat → Nat → Int} {Z : Nat → Nat → Option Nat} {R : Nat → Option Nat} {n : Nat} (hn : C 67 2 = (n : Int)) (h5 : n ≤ 5) {v : Int} : ∀ (m k : Nat), k + m = n → G (gπ l) mX4_report 55 [gR (some 67), gI v, gI (k : Int)] [] (hq L (sSort C k) M Z R) 0 0 (fun r k => r = some none ∧ k = (hq L (up (sSort C n) 67 4 (sSort C n 69 (n / 2))) M Z R)) := by
  intro m
  induction m with
  | zero =>
    intro k hk
    obtain rfl : k = n := by omega
    refine g_iload_n dX4_report_55 rfl rfl ?_
    refine g_aload_n dX4_report_56 rfl rfl ?_
    refine c_getI (x := (k : Int)) dX4_report_57 (fX4_16 l) rfl rfl (by omega) (by rw [sSort_ne (by omega)]; exact hn) ?_
    refine g_icmp_ge (tgt := 80) dX4_report_60 (by decide) (fun c60 => ?_) (fun c60 => absurd c60 (by omega))
    refine g_aload_n dX4_report_80 rfl rfl ?_
    refine g_aload_n dX4_report_81 rfl rfl ?_
    refine p_getR (o := some 69) dX4_report_82 (fX4_13 l) (by decide) rfl (by omega) rfl ?_
    refine g_aload_n dX4_report_85 rfl rfl ?_
    refine c_getI (x := (k : Int)) dX4_report_86 (fX4_16 l) rfl rfl (by omega) (by rw [sSort_ne (by omega)]; exact hn) ?_
    refine g_iconst (x := 2) dX4_report_89 (by decide) ?_
    refine e_idiv (v := ((k / 2 : Nat) : Int)) dX4_report_90 (by decide) (by rw [gdiv_eq (by omega) (by omega) (by omega) (by omega)]; omega) ?_
    refine c_iald (len := 5) (x := (sSort C k) 69 (k / 2)) dX4_report_91 rfl (by omega) (by omega) (by omega) rfl ?_
    refine c_putI dX4_report_92 (fX4_23 l) gTX4 ⟨rfl, rfl⟩ rfl rfl (by omega) (by omega) ?_
    exact g_vret dX4_report_95 rfl ⟨rfl, rfl⟩
  | succ m ih =>
    intro k hk
    refine g_iload_n dX4_report_55 rfl rfl ?_
    refine g_aload_n dX4_report_56 rfl rfl ?_
    refine c_getI (x := (n : Int)) dX4_report_57 (fX4_16 l) rfl rfl (by omega) (by rw [sSort_ne (by omega)]; exact hn) ?_
    refine g_icmp_ge (tgt := 80) dX4_report_60 (by decide) (fun c60 => absurd c60 (by omega)) (fun c60 => ?_)
    refine g_aload_n dX4_report_63 rfl rfl ?_
    refine g_aload_n dX4_report_64 rfl rfl ?_
    refine p_getR (o := some 68) dX4_report_65 (fX4_9 l) (by decide) rfl (by omega) rfl ?_
    refine g_iload_n dX4_report_68 rfl rfl ?_
    refine c_iald (len := 5) (x := sSort C k 68 k) dX4_report_69 rfl (by omega) (by omega) (by omega) rfl ?_
    refine g_iload_n dX4_report_70 rfl rfl ?_
    refine g_Vv2 dX4_report_71 (sX4_report_71 l) rfl (by show 67 < 87; omega) (Nat.le_of_ble_eq_true rfl) (cX4_sortIn l (by omega)) ?_
    refine e_iinc (v := ((k + 1 : Nat) : Int)) (loc' := [gR (some 67), gI v, gI (((k + 1 : Nat) : Int))]) dX4_report_74 (by decide) rfl (gadd_nat (by omega)) rfl ?_
    refine g_goto (tgt := 55) dX4_report_77 (by decide) ?_
    exact ih (k + 1) (by omega)
set_option maxHeartbeats 1000000 in
theorem cX4_report_a (l : Launch) {L : Nat} {C M : Nat → Nat → Int} {Z : Nat → Nat → Option Nat} {R : Nat → Option Nat} {kp od : Nat} (hk : C 67 2 = (kp : Int)) (ho : C 67 3 = (od : Int)) {v : Int} (hk5 : kp < 5) : gMv (gπ l) mX4_report yX4_report [gR (some 67), gI v] (hq L C M Z R) (hq L (up (sSort (up (up C 68 kp v) 67 2 ((kp + 1 : Nat) : Int)) (kp + 1)) 67 4 (sSort (up (up C 68 kp v) 67 2 ((kp + 1 : Nat) : Int)) (kp + 1) 69 ((kp + 1) / 2))) M Z R) := by
  refine gMet_of pnX4 rfl rfl rfl (Nat.le_of_ble_eq_true rfl) (gAr (gAi gAn)) ?_
  show G (gπ l) mX4_report 0 [gR (some 67), gI v, gU] [] (hq L C M Z R) 0 0 _
  refine g_aload_n dX4_report_0 rfl rfl ?_
  refine c_getI (x := (kp : Int)) dX4_report_1 (fX4_16 l) rfl rfl (by omega) hk ?_
  refine g_iconst (x := 5) dX4_report_4 (by decide) ?_
  refine g_icmp_ge (tgt := 31) dX4_report_5 (by decide) (fun c5 => absurd c5 (by omega)) (fun c5 => ?_)
  refine g_aload_n dX4_report_8 rfl rfl ?_
  refine p_getR (o := some 68) dX4_report_9 (fX4_9 l) (by decide) rfl (by omega) rfl ?_
  refine g_aload_n dX4_report_12 rfl rfl ?_
  refine c_getI (x := (kp : Int)) dX4_report_13 (fX4_16 l) rfl rfl (by omega) hk ?_
  refine g_iload_n dX4_report_16 rfl rfl ?_
  refine c_iast (len := 5) dX4_report_17 rfl (by omega) (by omega) (by omega) (by omega) ?_
  refine g_aload_n dX4_report_18 rfl rfl ?_
  refine g_dupR dX4_report_19 ?_
  refine c_getI (x := (kp : Int)) dX4_report_20 (fX4_16 l) rfl rfl (by omega) (by rw [up_cell (by omega)]; exact hk) ?_
  refine g_iconst (x := 1) dX4_report_23 (by decide) ?_
  refine e_iadd (v := ((kp + 1 : Nat) : Int)) dX4_report_24 (gadd_nat (by omega)) ?_
  refine c_putI dX4_report_25 (fX4_16 l) gTX4 ⟨rfl, rfl⟩ rfl rfl (by omega) (by omega) ?_
  refine g_goto (tgt := 53) dX4_report_28 (by decide) ?_
  refine g_iconst (x := 0) dX4_report_53 (by decide) ?_
  refine e_istore_n (loc' := [gR (some 67), gI v, gI 0]) dX4_report_54 rfl (by decide) rfl ?_
  exact lX4_report l (C := up (up C 68 kp v) 67 2 ((kp + 1 : Nat) : Int)) (n := kp + 1) up_same (by omega) (kp + 1) 0 (by omega)
set_option maxHeartbeats 1000000 in
theorem cX4_report_b (l : Launch) {L : Nat} {C M : Nat → Nat → Int} {Z : Nat → Nat → Option Nat} {R : Nat → Option Nat} {kp od : Nat} (hk : C 67 2 = (kp : Int)) (ho : C 67 3 = (od : Int)) {v : Int} (hk5 : kp = 5) (ho5 : od < 5) : gMv (gπ l) mX4_report yX4_report [gR (some 67), gI v] (hq L C M Z R) (hq L (up (sSort (up (up C 68 od v) 67 3 (((od + 1) % 5 : Nat) : Int)) 5) 67 4 (sSort (up (up C 68 od v) 67 3 (((od + 1) % 5 : Nat) : Int)) 5 69 (5 / 2))) M Z R) := by
  refine gMet_of pnX4 rfl rfl rfl (Nat.le_of_ble_eq_true rfl) (gAr (gAi gAn)) ?_
  show G (gπ l) mX4_report 0 [gR (some 67), gI v, gU] [] (hq L C M Z R) 0 0 _
  refine g_aload_n dX4_report_0 rfl rfl ?_
  refine c_getI (x := (kp : Int)) dX4_report_1 (fX4_16 l) rfl rfl (by omega) hk ?_
  refine g_iconst (x := 5) dX4_report_4 (by decide) ?_
  refine g_icmp_ge (tgt := 31) dX4_report_5 (by decide) (fun c5 => ?_) (fun c5 => absurd c5 (by omega))
  refine g_aload_n dX4_report_31 rfl rfl ?_
  refine p_getR (o := some 68) dX4_report_32 (fX4_9 l) (by decide) rfl (by omega) rfl ?_
  refine g_aload_n dX4_report_35 rfl rfl ?_
  refine c_getI (x := (od : Int)) dX4_report_36 (fX4_20 l) rfl rfl (by omega) ho ?_
  refine g_iload_n dX4_report_39 rfl rfl ?_
  refine c_iast (len := 5) dX4_report_40 rfl (by omega) (by omega) (by omega) (by omega) ?_
  refine g_aload_n dX4_report_41 rfl rfl ?_
  refine g_aload_n dX4_report_42 rfl rfl ?_
  refine c_getI (x := (od : Int)) dX4_report_43 (fX4_20 l) rfl rfl (by omega) (by rw [up_cell (by omega)]; exact ho) ?_
  refine g_iconst (x := 1) dX4_report_46 (by decide) ?_
  refine e_iadd (v := ((od + 1 : Nat) : Int)) dX4_report_47 (gadd_nat (by omega)) ?_
  refine g_iconst (x := 5) dX4_report_48 (by decide) ?_
  refine e_irem (v := (((od + 1) % 5 : Nat) : Int)) dX4_report_49 (by decide) (by rw [grem_eq (by omega) (by omega) (by omega) (by omega)]; omega) ?_
  refine c_putI dX4_report_50 (fX4_20 l) gTX4 ⟨rfl, rfl⟩ rfl rfl (by omega) (by omega) ?_
  refine g_iconst (x := 0) dX4_report_53 (by decide) ?_
  refine e_istore_n (loc' := [gR (some 67), gI v, gI 0]) dX4_report_54 rfl (by decide) rfl ?_
  exact lX4_report l (C := up (up C 68 od v) 67 3 (((od + 1) % 5 : Nat) : Int)) (n := 5) (by rw [up_slot (by omega), up_cell (by omega), hk, hk5]) (by omega) 5 0 (by omega)
theorem vx_ofF {l : Launch} {y : MethodName} {ws ws' : List Cond} {rm : Room} {Pc : Array Value → State → Prop} {Qc : Array Value → State → Outcome → State → Prop} {XC : String → State → State → Prop} {mc ms : Nat} {free : Addr → Prop} {cc : ByteArray} {maxL : Nat} {ret : Option FieldType}
    (hy : plainFor y = true) (hw : ws = Cond.code y cc maxL ret :: ws')
    (body : ∀ p e s m args below meth c s₁, BodyLoose p l y (headSpec ws rm) cc maxL ret e s m args below meth c s₁ → c.maxLocals = maxL → (∀ x ∈ c.exceptionTable.toList, False) → Pc args s →
      W p l e (headSpec ws rm).room s m args below meth c s.heap [] 0 0 (vx_MQ below Qc XC args s mc ms free) (entryFrame m args maxL)) : vx_Met l y ws rm Pc Qc XC mc ms free := by
  refine MetFree.of_bodySF (code := cc) (maxLocals := maxL) (ret := ret) hy ?_ ?_
  · intro args s m h hn
    obtain ⟨meth, c, h1, h2, h3, h4, h5, h6, -, -⟩ := Cond.code_spec hn (atoms_spec (ws := ws) h _ (by rw [hw]; exact List.mem_cons_self))
    exact ⟨meth, c, h1, h2, h3, h4, h5, h6⟩
  · intro p e s m args below meth c s₁ B hml hP _
    have hh0 : s₁.heap = s.heap := by rw [B.state]; rfl
    have ht : ∀ x ∈ c.exceptionTable.toList, False := by
      obtain ⟨meth9, c9, h1, h2, -, -, -, -, h7, -⟩ := Cond.code_spec B.named (atoms_spec (ws := ws) B.pre _ (by rw [hw]; exact List.mem_cons_self))
      cases Option.some.inj (h1.symm.trans B.method)
      cases Option.some.inj (h2.symm.trans (Stand.of_body B).code)
      intro x hx
      rw [Array.isEmpty_iff.mp h7] at hx
      cases hx
    obtain ⟨t, a1, o, b1, b2, b3⟩ := body p e s m args below meth c s₁ B hml ht hP s₁ hh0 (Stand.of_body B)
    exact ⟨t, o, a1, b1, b2, b3⟩
theorem gMet_ofF {π : gP} {mi : gM} {h : gH} {mc ms : Nat} {Q : Option (Option gV) → gH → Prop} {y : MethodName} {as : List gV} (hy : plainFor y = true) (hc : y.cls = mi.1) (hnm : y.name = mi.2.2.2.2.2.1) (hh : mi.2.2.2.2.2.2.2 = []) (hlen : as.length ≤ mi.2.2.1) (has : ∀ v ∈ as, (∃ x, v = gI x) ∨ ∃ o, v = gR o)
    (k : G π mi 0 (as ++ List.replicate (mi.2.2.1 - as.length) gU) [] h mc ms Q) : gMet π mi y as h mc ms Q := by
  intro hst Γ
  have hcw : gcw mi y = Cond.code y mi.2.1 mi.2.2.1 mi.2.2.2.2.2.2.1 := by unfold gcw; rw [hh]
  refine vx_ofF (cc := mi.2.1) (maxL := mi.2.2.1) (ret := mi.2.2.2.2.2.2.1) hy (by rw [hcw]) ?_
  intro p e s m args below meth c s₁ B hml htab hP
  obtain ⟨vs, rfl, hs, hK, hZ, hH⟩ := hP
  obtain ⟨a1, a2, a3⟩ := g_args 0 hs has
  have hts := atoms_spec (ws := gcw mi y :: π.2.1) B.pre
  have hC : gC π Γ mi p (headSpec (gcw mi y :: π.2.1) { frames := mi.2.2.2.1, cells := mc, slots := ms, locals := mi.2.2.2.2.1 }).room s m vs.toArray meth c :=
    ⟨B.exec, B.bytes, hml, by rw [← hc]; exact findClass_of_methodNamed B.named, fun w hw => hts w (List.mem_cons_of_mem _ hw), B.notSynchronized, Nat.le_refl _, Nat.le_refl _, by rw [← hnm]; exact (name_of_methodNamed B.named B.method).1, B.returns, by
      rw [hh]
      cases ht : c.exceptionTable.toList with
      | nil => rfl
      | cons z zs => exact (htab z (by rw [ht]; exact List.mem_cons_self)).elim, hK, hZ, hst⟩
  rw [lg_entry_eq]
  refine k Γ p e _ s m vs.toArray below meth c _ s.heap [] 0 0 _ [] hC (gEnd_of hC) hH ?_ trivial va_S.rf (by show 0 + mc ≤ mc; omega) (by show 0 + ms ≤ ms; omega)
  refine ⟨lv_args 0 vs, lv_entry vs (by omega), fun j x hj => ?_, fun j o hj => ?_⟩
  · have h9 := a1 j x (g_pad hj (by intro z; cases z))
    rwa [Nat.zero_add] at h9
  · have h9 := a2 j o (g_pad hj (by intro z; cases z))
    rwa [Nat.zero_add] at h9
theorem grem_small {a b : Int} (h0 : 0 < b) (hb : b < 2147483648) (h1 : -b < a) (h2 : a < b) : grem a b = a := by
  have ea := g32 (x := a) (by omega) (by omega)
  have eb := g32 (x := b) (by omega) hb
  have hd : (Int32.ofInt a / Int32.ofInt b).toInt = 0 := by
    rw [Int32.toInt_div_of_ne_right _ _ (fun z => by rw [z] at eb; have h9 : (-1 : Int32).toInt = -1 := rfl; omega), ea, eb]
    by_cases c : 0 ≤ a
    · exact Int.tdiv_eq_zero_of_lt c h2
    · have e : a = -(-a) := by omega
      rw [e, Int.neg_tdiv, Int.tdiv_eq_zero_of_lt (by omega) (by omega)]
      rfl
  have hz : Int32.ofInt a / Int32.ofInt b = 0 := Int32.toInt_inj.mp (hd.trans rfl)
  unfold grem
  rw [hz, Int32.zero_mul, Int32.sub_zero]
  exact ea
theorem gxor_neg {a b : Int} (hb0 : 0 ≤ b) (hb : b < 2147483648) (ha1 : -2147483648 ≤ a) (ha2 : a < 2147483648) : gxor a b < 0 ↔ a < 0 := by
  unfold gxor
  have e1 : (Int32.ofInt a).toInt = a := g32 ha1 ha2
  have e2 : (Int32.ofInt b).toInt = b := g32 (by omega) hb
  generalize Int32.ofInt a = x at *
  generalize Int32.ofInt b = y at *
  have h : (x ^^^ y).toBitVec.msb = (x.toBitVec.msb ^^ y.toBitVec.msb) := by rw [Int32.toBitVec_xor, BitVec.msb_xor]
  rw [BitVec.msb_eq_toInt, BitVec.msb_eq_toInt, BitVec.msb_eq_toInt] at h
  have hx : x.toBitVec.toInt = a := e1
  have hy : y.toBitVec.toInt = b := e2
  rw [hx, hy] at h
  show (x ^^^ y).toBitVec.toInt < 0 ↔ a < 0
  rw [show decide (b < 0) = false from decide_eq_false (by omega), Bool.xor_false] at h
  exact decide_eq_decide.mp h
def sFm (x : Int) : Int := if x < 0 then x + 12000 else x
set_option maxHeartbeats 1000000 in
theorem cJ_floorMod (l : Launch) {L : Nat} {C M : Nat → Nat → Int} {Z : Nat → Nat → Option Nat} {R : Nat → Option Nat} {x : Int} (h1 : -12000 < x) (h2 : x < 12000) : gMi (gπ l) mJ_floorMod yJ_floorMod [gI x, gI 12000] (hq L C M Z R) (sFm x) (hq L C M Z R) := by
  refine gMet_ofF (by decide +kernel) rfl rfl rfl (Nat.le_of_ble_eq_true rfl) (gAi (gAi gAn)) ?_
  show G (gπ l) mJ_floorMod 0 [gI x, gI 12000, gU] [] (hq L C M Z R) 0 0 _
  refine g_iload_n dJ_floorMod_0 rfl rfl ?_
  refine g_iload_n dJ_floorMod_1 rfl rfl ?_
  refine e_irem (v := x) dJ_floorMod_2 (by decide) (grem_small (by omega) (by omega) h1 h2) ?_
  refine e_istore_n (loc' := [gI x, gI 12000, gI (x)]) dJ_floorMod_3 rfl (by decide) rfl ?_
  refine g_iload_n dJ_floorMod_4 rfl rfl ?_
  refine g_iload_n dJ_floorMod_5 rfl rfl ?_
  refine e_ixor (v := gxor x 12000) dJ_floorMod_6 rfl ?_
  refine g_if_ge (tgt := 18) dJ_floorMod_7 (by decide) (fun c7 => ?_) (fun c7 => ?_)
  · refine g_iload_n dJ_floorMod_18 rfl rfl ?_
    exact g_iret dJ_floorMod_19 (Or.inl rfl) ⟨congrArg gK1 (by unfold sFm; have q := gxor_neg (a := x) (b := 12000) (by omega) (by omega) (by omega) (by omega); first | (rw [if_neg (by omega)]; done) | (rw [if_neg (fun z => by have := q.mpr z; omega)])), rfl⟩
  · refine g_iload_n dJ_floorMod_10 rfl rfl ?_
    refine g_if_eq (tgt := 18) dJ_floorMod_11 (by decide) (fun c11 => ?_) (fun c11 => ?_)
    · refine g_iload_n dJ_floorMod_18 rfl rfl ?_
      exact g_iret dJ_floorMod_19 (Or.inl rfl) ⟨congrArg gK1 (by unfold sFm; have q := gxor_neg (a := x) (b := 12000) (by omega) (by omega) (by omega) (by omega); first | (rw [if_neg (by omega)]; done) | (rw [if_neg (fun z => by have := q.mpr z; omega)])), rfl⟩
    · refine g_iload_n dJ_floorMod_14 rfl rfl ?_
      refine g_iload_n dJ_floorMod_15 rfl rfl ?_
      refine e_iadd (v := x + 12000) dJ_floorMod_16 (gadd_eq (by omega) (by omega)) ?_
      exact g_iret dJ_floorMod_17 (Or.inl rfl) ⟨congrArg gK1 (by unfold sFm; rw [if_pos ((gxor_neg (by omega) (by omega) (by omega) (by omega)).mp c7)]), rfl⟩
def sSpot (C : Nat → Nat → Int) (n : Nat) : Int := gadd (gmul 6000 (C n 2)) (C n 4)
def sWay (C : Nat → Nat → Int) (n : Nat) : Nat → Int
  | 0 => 12000
  | k + 1 => if 4 + k ≠ n ∧ C (4 + k) 1 = 3 then min (sWay C n k) (sFm (gsub (sSpot C (4 + k)) (sSpot C n))) else sWay C n k
set_option maxHeartbeats 1000000 in
theorem cX1_wayAhead (l : Launch) {L : Nat} {C M : Nat → Nat → Int} {Z : Nat → Nat → Option Nat} {R : Nat → Option Nat} {n : Nat} (h1 : 4 ≤ n) (h2 : n < 64) (hsp : ∀ j, j < 60 → C (4 + j) 1 = 3 → -12000 < gsub (sSpot C (4 + j)) (sSpot C n) ∧ gsub (sSpot C (4 + j)) (sSpot C n) < 12000) : gMi (gπ l) mX1_wayAhead yX1_wayAhead [gR (some 2), gR (some n)] (hq L C M Z R) (sWay C n 60) (hq L C M Z R) := by
  refine gMet_of pnX1 rfl rfl rfl (Nat.le_of_ble_eq_true rfl) (gAr (gAr gAn)) ?_
  show G (gπ l) mX1_wayAhead 0 [gR (some 2), gR (some n), gU, gU, gU] [] (hq L C M Z R) 0 0 _
  have loop : ∀ (m k : Nat), k + m = 60 → ∀ e9 : gV, G (gπ l) mX1_wayAhead 6 [gR (some 2), gR (some n), gI (sWay C n k), gI (k : Int), e9] [] (hq L C M Z R) 0 0 (fun r k => r = some (some (gI (sWay C n 60))) ∧ k = (hq L C M Z R)) := by
    intro m
    induction m with
    | zero =>
      intro k hk e9
      refine g_iload_n dX1_wayAhead_6 rfl rfl ?_
      refine g_bipush (x := 60) dX1_wayAhead_7 (by decide) ?_
      refine g_icmp_ge (tgt := 62) dX1_wayAhead_9 (by decide) (fun c9 => ?_) (fun c9 => absurd c9 (by omega))
      refine g_iload_n dX1_wayAhead_62 rfl rfl ?_
      exact g_iret dX1_wayAhead_63 (Or.inl rfl) ⟨by rw [show k = 60 by omega], rfl⟩
    | succ m ih =>
      intro k hk e9
      refine g_iload_n dX1_wayAhead_6 rfl rfl ?_
      refine g_bipush (x := 60) dX1_wayAhead_7 (by decide) ?_
      refine g_icmp_ge (tgt := 62) dX1_wayAhead_9 (by decide) (fun c9 => absurd c9 (by omega)) (fun c9 => ?_)
      refine g_aload_n dX1_wayAhead_12 rfl rfl ?_
      refine p_getR (o := some 3) dX1_wayAhead_13 (fX1_11 l) (by decide) rfl (by omega) rfl ?_
      refine g_iload_n dX1_wayAhead_16 rfl rfl ?_
      refine p_aald (ci := 0) (len := 60) (o := some (4 + k)) (kc0 l) dX1_wayAhead_17 rfl (by omega) (by omega) (by omega) (rr_cab (by omega)) ?_
      refine e_astore (loc' := [gR (some 2), gR (some n), gI (sWay C n k), gI (k : Int), gR (some (4 + k))]) dX1_wayAhead_18 (by decide) rfl ?_
      refine g_aload dX1_wayAhead_20 rfl ?_
      refine g_aload_n dX1_wayAhead_22 rfl rfl ?_
      refine g_acmp_eq (tgt := 56) dX1_wayAhead_23 (by decide) (fun c23 => ?_) (fun c23 => ?_)
      · refine e_iinc (v := ((k + 1 : Nat) : Int)) (loc' := [gR (some 2), gR (some n), gI (sWay C n k), gI (((k + 1 : Nat) : Int)), gR (some (4 + k))]) dX1_wayAhead_56 (by decide) rfl (gadd_nat (by omega)) rfl ?_
        refine g_goto (tgt := 6) dX1_wayAhead_59 (by decide) ?_
        refine g_eq (loc' := [gR (some 2), gR (some n), gI (sWay C n (k + 1)), gI ((k + 1 : Nat) : Int), gR (some (4 + k))]) ?_ rfl (ih (k + 1) (by omega) _)
        first | simp [sWay, c32] | simp [sWay, Option.some.inj c23]
      · refine g_aload dX1_wayAhead_26 rfl ?_
        refine c_getI (x := C (4 + k) 1) dX1_wayAhead_28 (fX1_20 l) rfl (T0_cab (by omega) (by omega)) (by omega) rfl ?_
        refine g_iconst (x := 3) dX1_wayAhead_31 (by decide) ?_
        refine g_icmp_ne (tgt := 56) dX1_wayAhead_32 (by decide) (fun c32 => ?_) (fun c32 => ?_)
        · refine e_iinc (v := ((k + 1 : Nat) : Int)) (loc' := [gR (some 2), gR (some n), gI (sWay C n k), gI (((k + 1 : Nat) : Int)), gR (some (4 + k))]) dX1_wayAhead_56 (by decide) rfl (gadd_nat (by omega)) rfl ?_
          refine g_goto (tgt := 6) dX1_wayAhead_59 (by decide) ?_
          refine g_eq (loc' := [gR (some 2), gR (some n), gI (sWay C n (k + 1)), gI ((k + 1 : Nat) : Int), gR (some (4 + k))]) ?_ rfl (ih (k + 1) (by omega) _)
          first | simp [sWay, c32] | simp [sWay, Option.some.inj c23]
        · refine g_iload_n dX1_wayAhead_35 rfl rfl ?_
          refine g_aload dX1_wayAhead_36 rfl ?_
          refine g_Si1 dX1_wayAhead_38 (sX1_wayAhead_38 l) (Nat.le_of_ble_eq_true rfl) (cX1_spot l (by omega) (by omega)) ?_
          refine g_aload_n dX1_wayAhead_41 rfl rfl ?_
          refine g_Si1 dX1_wayAhead_42 (sX1_wayAhead_42 l) (Nat.le_of_ble_eq_true rfl) (cX1_spot l h1 h2) ?_
          refine e_isub (v := gsub (sSpot C (4 + k)) (sSpot C n)) dX1_wayAhead_45 rfl ?_
          refine g_sipush (x := 12000) dX1_wayAhead_46 (by decide) ?_
          refine g_Si2 dX1_wayAhead_49 (sX1_wayAhead_49 l) (Nat.le_of_ble_eq_true rfl) (cJ_floorMod l (hsp k (by omega) c32).1 (hsp k (by omega) c32).2) ?_
          refine g_min dX1_wayAhead_52 aX1_47 ⟨by decide, Nat.le_of_ble_eq_true rfl⟩ ?_
          refine e_istore_n (loc' := [gR (some 2), gR (some n), gI (min (sWay C n k) (sFm (gsub (sSpot C (4 + k)) (sSpot C n)))), gI (k : Int), gR (some (4 + k))]) dX1_wayAhead_55 rfl (by decide) rfl ?_
          refine e_iinc (v := ((k + 1 : Nat) : Int)) (loc' := [gR (some 2), gR (some n), gI (min (sWay C n k) (sFm (gsub (sSpot C (4 + k)) (sSpot C n)))), gI (((k + 1 : Nat) : Int)), gR (some (4 + k))]) dX1_wayAhead_56 (by decide) rfl (gadd_nat (by omega)) rfl ?_
          refine g_goto (tgt := 6) dX1_wayAhead_59 (by decide) ?_
          refine g_eq (loc' := [gR (some 2), gR (some n), gI (sWay C n (k + 1)), gI ((k + 1 : Nat) : Int), gR (some (4 + k))]) ?_ rfl (ih (k + 1) (by omega) _)
          simp [sWay, c32, show 4 + k ≠ n from fun e => c23 (by rw [e])]
  refine g_sipush (x := 12000) dX1_wayAhead_0 (by decide) ?_
  refine e_istore_n (loc' := [gR (some 2), gR (some n), gI 12000, gU, gU]) dX1_wayAhead_3 rfl (by decide) rfl ?_
  refine g_iconst (x := 0) dX1_wayAhead_4 (by decide) ?_
  refine e_istore_n (loc' := [gR (some 2), gR (some n), gI 12000, gI 0, gU]) dX1_wayAhead_5 rfl (by decide) rfl ?_
  exact loop 60 0 (by omega) gU
end
section
/-! the desk's state and its steps, as functions -/
section DESK
abbrev sT : Type := (Nat → Nat → Int) × (Nat → Nat → Option Nat) × (Nat → Option Nat)
abbrev hS (L : Nat) (S : sT) (M : Nat → Nat → Int) : gH := hq L S.1 M S.2.1 S.2.2
def oLock (C : Nat → Nat → Int) (k : Int) : Nat → Nat → Int := up C 1 4 (gor (C 1 4) (gshl 1 k))
def oStop (C : Nat → Nat → Int) (n : Nat) : Nat → Nat → Int := up (up (up C n 6 (-1)) n 7 (-1)) n 8 (-1)
def oAppend (S : sT) (n : Nat) : sT := (up (sStand S.1 n 1) 65 1 (S.1 65 1 + 1), S.2.1, up1 S.2.2 (S.1 65 1).toNat (some n))
def oLeave (S : sT) (s n : Nat) : sT := (up (up (up (sStand (oStop S.1 n) n 3) n 2 (s : Int)) n 4 0) n 9 (gadd (S.1 n 9) 1), up S.2.1 s 12 none, S.2.2)
def oFail (S : sT) (s n : Nat) (f : Int) : sT := if S.1 65 1 < 20 then oAppend (oLock (oStop (up S.1 n 10 f) n) 0, up S.2.1 s 12 none, S.2.2) n else (up (oLock (oLock (oStop (up S.1 n 10 f) n) 0) 1) n 5 0, S.2.1, S.2.2)
def oClamp (S : sT) (s n : Nat) : sT :=
  if 0 ≤ S.1 n 7 then (if sFault (S.1 n 7) (S.1 n 8) = 0 then oLeave (up S.1 n 6 (gadd (S.1 n 6) 1), S.2) s n else oFail (up S.1 n 6 (gadd (S.1 n 6) 1), S.2) s n (sFault (S.1 n 7) (S.1 n 8)))
  else if gadd (S.1 n 6) 1 < 40 then (up S.1 n 6 (gadd (S.1 n 6) 1), S.2) else oFail (up S.1 n 6 (gadd (S.1 n 6) 1), S.2) s n 3
/-- how far the next must be -/
def oSpc (S : sT) (s : Nat) : Int := if cntTo (fun j => decide (S.2.1 s (j + 1) ≠ none)) 12 < 6 then max (gdiv 12000 (max (S.1 1 5) 1)) 90 else 90
def oNear (C : Nat → Nat → Int) (s d : Int) : Bool := anyTo (fun j => decide (C (4 + j) 1 = 3 ∧ C (4 + j) 2 = s ∧ C (4 + j) 4 < d)) 60
/-- a zone's work at a tick -/
def oZone (S : sT) (s z : Nat) : sT := match S.2.1 s z with
  | none => S
  | some n =>
    if z < 12 then (if 15 ≤ gadd (S.1 n 5) 1 ∧ S.2.1 s (z + 1) = none then (sAdm (up S.1 n 5 (gadd (S.1 n 5) 1)) n s ((z + 1 : Nat) : Int), up (up S.2.1 s z none) s (z + 1) (some n), S.2.2) else (up S.1 n 5 (gadd (S.1 n 5) 1), S.2))
    else if 0 ≤ S.1 n 6 then oClamp (up S.1 n 5 (gadd (S.1 n 5) 1), S.2) s n
    else if 15 ≤ gadd (S.1 n 5) 1 ∧ S.1 1 4 = 0 ∧ oNear S.1 (s : Int) (oSpc S s) = false then (up (up S.1 n 5 (gadd (S.1 n 5) 1)) n 6 0, S.2)
    else (up S.1 n 5 (gadd (S.1 n 5) 1), S.2)
/-- zones z, z - 1 .. 1 -/
def oZones (S : sT) (s : Nat) : Nat → sT
  | 0 => S
  | z + 1 => oZones (oZone S s (z + 1)) s z
def oHeld (S : sT) : Bool := (decide (S.2.1 0 1 ≠ none) && anyTo (fun j => decide (S.1 (4 + j) 1 = 3 ∧ S.1 (4 + j) 2 = 1 ∧ 5640 ≤ S.1 (4 + j) 4)) 60) || (decide (S.2.1 1 1 ≠ none) && anyTo (fun j => decide (S.1 (4 + j) 1 = 3 ∧ S.1 (4 + j) 2 = 0 ∧ 5640 ≤ S.1 (4 + j) 4)) 60)
def oTarget (S : sT) : Int := if S.1 1 4 ≠ 0 then 0 else if oHeld S = true then 0 else if S.1 67 4 ≤ 180 then S.1 1 6 else min (S.1 1 6) 2
def oSpeed (v t : Int) : Int := if v < t then gadd v 1 else if t < v then gsub v 1 else v
def oEnd (S : sT) : sT := (up (up S.1 1 7 (oSpeed (S.1 1 7) (oTarget S))) 1 8 (gadd (S.1 1 8) 1), S.2)
def oWind (S : sT) : sT := if S.1 67 4 ≤ 250 then S else (oLock S.1 2, S.2)
def oTick (S : sT) : sT := oEnd (oZones (oZones (oWind S) 0 12) 1 12)
def oTicks (S : sT) : Nat → sT
  | 0 => S
  | k + 1 => oTicks (oTick S) k
/-- the cabin k, let go at the end of the rope -/
def oGo1 (S : sT) (k : Nat) : sT := if S.1 (4 + k) 1 = 3 ∧ 5700 ≤ S.1 (4 + k) 4 ∧ S.2.1 (1 - (S.1 (4 + k) 2).toNat) 1 = none then (sAdm S.1 (4 + k) (1 - (S.1 (4 + k) 2).toNat) 1, up S.2.1 (1 - (S.1 (4 + k) 2).toNat) 1 (some (4 + k)), S.2.2) else S
def oGoFrom (S : sT) (k : Nat) : Nat → sT
  | 0 => S
  | m + 1 => oGoFrom (oGo1 S k) (k + 1) m
def oGo (S : sT) : sT := oGoFrom S 0 60
def oFar (C : Nat → Nat → Int) : Int := maxTo (fun j => decide (C (4 + j) 1 = 3)) (fun j => C (4 + j) 4) 60
/-- well formed -/
def Wf (S : sT) : Prop := (∀ s, s < 2 → S.1 (70 + 2 * s) 0 = (s : Int)) ∧ (∀ a b n, S.2.1 a b = some n → 4 ≤ n ∧ n < 64) ∧ (∀ j n, S.2.2 j = some n → 4 ≤ n ∧ n < 64) ∧ (0 ≤ S.1 65 1 ∧ S.1 65 1 ≤ 20) ∧ ∀ c, c < 60 → S.1 (4 + c) 1 = 3 → S.1 (4 + c) 2 = 0 ∨ S.1 (4 + c) 2 = 1
theorem Wf.toC {S : sT} {C : Nat → Nat → Int} (h : Wf S) (h1 : ∀ s, s < 2 → C (70 + 2 * s) 0 = S.1 (70 + 2 * s) 0) (h2 : C 65 1 = S.1 65 1) (h3 : ∀ c, c < 60 → C (4 + c) 1 = 3 → C (4 + c) 2 = 0 ∨ C (4 + c) 2 = 1) : Wf (C, S.2) :=
  ⟨fun s hs => (h1 s hs).trans (h.1 s hs), h.2.1, h.2.2.1, by show 0 ≤ C 65 1 ∧ C 65 1 ≤ 20; rw [h2]; exact h.2.2.2.1, h3⟩
/-- a cabin's field that is neither place nor station -/
theorem Wf.cab {S : sT} (h : Wf S) {n k : Nat} {x : Int} (h1 : 4 ≤ n) (h2 : n < 64) (hk : k ≠ 1 ∧ k ≠ 2) : Wf (up S.1 n k x, S.2) := by
  refine h.toC (fun s hs => up_cell (by omega)) (up_cell (by omega)) (fun c hc hp => ?_)
  rw [up_slot (by omega)] at hp
  rw [up_slot (by omega)]
  exact h.2.2.2.2 c hc hp
/-- a field of the desk -/
theorem Wf.desk {S : sT} (h : Wf S) {k : Nat} {x : Int} : Wf (up S.1 1 k x, S.2) := by
  refine h.toC (fun s hs => up_cell (by omega)) (up_cell (by omega)) (fun c hc hp => ?_)
  rw [up_cell (by omega)] at hp
  rw [up_cell (by omega)]
  exact h.2.2.2.2 c hc hp
theorem Wf.lock {S : sT} (h : Wf S) {k : Int} : Wf (oLock S.1 k, S.2) := h.desk
theorem Wf.setZ {S : sT} (h : Wf S) {s z : Nat} {o : Option Nat} (ho : ∀ n, o = some n → 4 ≤ n ∧ n < 64) : Wf (S.1, up S.2.1 s z o, S.2.2) := by
  refine ⟨h.1, fun a b n hn => ?_, h.2.2⟩
  have hn : up S.2.1 s z o a b = some n := hn
  unfold up at hn
  split at hn
  · exact ho n hn
  · exact h.2.1 a b n hn
/-- a cabin stands at a place other than the rope -/
theorem Wf.stand {S : sT} (h : Wf S) {n : Nat} {p : Int} (h1 : 4 ≤ n) (h2 : n < 64) (hp : p ≠ 3) : Wf (sStand S.1 n p, S.2) := by
  unfold sStand
  refine h.toC (fun s hs => ?_) ?_ (fun c hc hq => ?_)
  · rw [up_cell (by omega), up_cell (by omega), up_cell (by omega), up_cell (by omega)]
  · rw [up_cell (by omega), up_cell (by omega), up_cell (by omega), up_cell (by omega)]
  · rw [up_slot (by omega), up_slot (by omega), up_slot (by omega)] at hq
    by_cases e : 4 + c = n
    · rw [e, up_same] at hq
      exact absurd hq hp
    · rw [up_cell e] at hq
      rw [up_cell e, up_cell e, up_cell e, up_cell e]
      exact h.2.2.2.2 c hc hq
theorem Wf.adm {S : sT} (h : Wf S) {n s : Nat} {z : Int} (h1 : 4 ≤ n) (h2 : n < 64) : Wf (sAdm S.1 n s z, S.2) := by
  unfold sAdm
  have w := h.stand (n := n) (p := 2) h1 h2 (by decide)
  refine w.toC (fun q hq => ?_) ?_ (fun c hc hq => ?_)
  · rw [up_cell (by omega), up_cell (by omega), up_cell (by omega)]
  · rw [up_cell (by omega), up_cell (by omega), up_cell (by omega)]
  · rw [up_slot (by omega), up_slot (by omega), up_slot (by omega)] at hq
    by_cases e : 4 + c = n
    · rw [e] at hq
      unfold sStand at hq
      rw [up_slot (by omega), up_slot (by omega), up_slot (by omega), up_same] at hq
      exact absurd hq (by decide)
    · rw [up_cell e, up_cell e, up_cell e]
      exact w.2.2.2.2 c hc hq
theorem Wf.stop {S : sT} (h : Wf S) {n : Nat} (h1 : 4 ≤ n) (h2 : n < 64) : Wf (oStop S.1 n, S.2) := ((h.cab (k := 6) h1 h2 (by omega)).cab (k := 7) h1 h2 (by omega)).cab (k := 8) h1 h2 (by omega)
theorem Wf.append {S : sT} (h : Wf S) {n : Nat} (h1 : 4 ≤ n) (h2 : n < 64) (h3 : S.1 65 1 < 20) : Wf (oAppend S n) := by
  have w := h.stand (n := n) (p := 1) h1 h2 (by decide)
  unfold oAppend
  refine ⟨fun s hs => ?_, w.2.1, fun j q hq => ?_, ?_, fun c hc hq => ?_⟩
  · show up (sStand S.1 n 1) 65 1 (S.1 65 1 + 1) (70 + 2 * s) 0 = _
    rw [up_cell (by omega)]
    exact w.1 s hs
  · have hq : up1 S.2.2 (S.1 65 1).toNat (some n) j = some q := hq
    unfold up1 at hq
    split at hq
    · cases hq; exact ⟨h1, h2⟩
    · exact h.2.2.1 j q hq
  · show 0 ≤ up (sStand S.1 n 1) 65 1 (S.1 65 1 + 1) 65 1 ∧ up (sStand S.1 n 1) 65 1 (S.1 65 1 + 1) 65 1 ≤ 20
    rw [up_same]
    have := h.2.2.2.1
    omega
  · have hq : up (sStand S.1 n 1) 65 1 (S.1 65 1 + 1) (4 + c) 1 = 3 := hq
    show up (sStand S.1 n 1) 65 1 (S.1 65 1 + 1) (4 + c) 2 = 0 ∨ up (sStand S.1 n 1) 65 1 (S.1 65 1 + 1) (4 + c) 2 = 1
    rw [up_cell (by omega)] at hq ⊢
    exact w.2.2.2.2 c hc hq
theorem Wf.leave {S : sT} (h : Wf S) {s n : Nat} (hs : s < 2) (h1 : 4 ≤ n) (h2 : n < 64) : Wf (oLeave S s n) := by
  have w0 := (h.stop h1 h2).setZ (s := s) (z := 12) (o := none) (fun _ z => nomatch z)
  unfold oLeave
  refine w0.toC (fun q hq => ?_) ?_ (fun c hc hq => ?_)
  · unfold sStand
    rw [up_cell (by omega), up_cell (by omega), up_cell (by omega), up_cell (by omega), up_cell (by omega), up_cell (by omega), up_cell (by omega)]
  · unfold sStand
    rw [up_cell (by omega), up_cell (by omega), up_cell (by omega), up_cell (by omega), up_cell (by omega), up_cell (by omega), up_cell (by omega)]
  · rw [up_slot (by omega), up_slot (by omega)]
    by_cases e : 4 + c = n
    · rw [e, up_same]
      omega
    · rw [up_cell e]
      unfold sStand at hq ⊢
      rw [up_cell e, up_cell e, up_cell e, up_cell e, up_cell e, up_cell e, up_cell e] at hq
      rw [up_cell e, up_cell e, up_cell e, up_cell e]
      exact w0.2.2.2.2 c hc hq
theorem Wf.fail {S : sT} (h : Wf S) {s n : Nat} {f : Int} (h1 : 4 ≤ n) (h2 : n < 64) : Wf (oFail S s n f) := by
  have w := ((h.cab (k := 10) (x := f) h1 h2 (by omega)).stop h1 h2).lock (k := 0)
  unfold oFail
  split
  · rename_i c
    refine (w.setZ (s := s) (z := 12) (o := none) (fun _ z => nomatch z)).append h1 h2 ?_
    show oLock (oStop (up S.1 n 10 f) n) 0 65 1 < 20
    unfold oLock oStop
    rw [up_cell (by omega), up_cell (by omega), up_cell (by omega), up_cell (by omega), up_cell (by omega)]
    exact c
  · exact (w.lock (k := 1)).cab (k := 5) h1 h2 (by omega)
theorem Wf.clamp {S : sT} (h : Wf S) {s n : Nat} (hs : s < 2) (h1 : 4 ≤ n) (h2 : n < 64) : Wf (oClamp S s n) := by
  have w := h.cab (n := n) (k := 6) (x := gadd (S.1 n 6) 1) h1 h2 (by omega)
  unfold oClamp
  split
  · split
    · exact w.leave hs h1 h2
    · exact w.fail h1 h2
  · split
    · exact w
    · exact w.fail h1 h2
theorem Wf.zone {S : sT} (h : Wf S) {s z : Nat} (hs : s < 2) : Wf (oZone S s z) := by
  unfold oZone
  split
  · exact h
  · rename_i n hn
    obtain ⟨h1, h2⟩ := h.2.1 s z n hn
    have w := h.cab (n := n) (k := 5) (x := gadd (S.1 n 5) 1) h1 h2 (by omega)
    split
    · split
      · exact (((w.adm h1 h2).setZ (s := s) (z := z) (o := none) (fun _ q => nomatch q))).setZ (fun q hq => by cases hq; exact ⟨h1, h2⟩)
      · exact w
    · split
      · exact w.clamp hs h1 h2
      · split
        · exact w.cab h1 h2 (by omega)
        · exact w
theorem Wf.zones {s : Nat} (hs : s < 2) : ∀ (z : Nat) {S : sT}, Wf S → Wf (oZones S s z)
  | 0, _, h => h
  | z + 1, _, h => Wf.zones hs z (h.zone hs)
theorem Wf.wind {S : sT} (h : Wf S) : Wf (oWind S) := by
  unfold oWind
  split
  · exact h
  · exact h.lock
theorem Wf.tick {S : sT} (h : Wf S) : Wf (oTick S) := by
  have w := Wf.zones (s := 1) (by omega) 12 (Wf.zones (s := 0) (by omega) 12 h.wind)
  unfold oTick oEnd
  exact w.desk.desk
theorem Wf.go1 {S : sT} (h : Wf S) {k : Nat} (hk : k < 60) : Wf (oGo1 S k) := by
  unfold oGo1
  split
  · exact (h.adm (by omega) (by omega)).setZ (fun q hq => by cases hq; omega)
  · exact h
theorem Wf.goFrom : ∀ (m k : Nat) {S : sT}, k + m ≤ 60 → Wf S → Wf (oGoFrom S k m)
  | 0, _, _, _, h => h
  | m + 1, k, _, hk, h => Wf.goFrom m (k + 1) (by omega) (h.go1 (by omega))
theorem Wf.go {S : sT} (h : Wf S) : Wf (oGo S) := Wf.goFrom 60 0 (by omega) h
theorem Wf.adv {S : sT} (h : Wf S) {step : Int} {k : Nat} : Wf (sAdv S.1 step k, S.2) := by
  refine h.toC (fun s hs => ?_) ?_ (fun c hc hp => ?_)
  · unfold sAdv; rw [if_neg (by omega)]
  · unfold sAdv; rw [if_neg (by omega)]
  · unfold sAdv at hp ⊢
    rw [if_neg (by omega)] at hp ⊢
    exact h.2.2.2.2 c hc hp
end DESK
end
section
/-! contracts: the desk, first half -/
abbrev gNm : List String := ["java/lang/RuntimeException", "java/lang/Exception"]
set_option maxRecDepth 100000 in
theorem wthr0 : (vx_atS "RopewayDesk" 62 gIAE gNm).all (fun w => decide (w ∈ gWS) || decide (w ∈ gNG)) = true := by decide +kernel
theorem wthr (l : Launch) : Cond.classLink "RopewayDesk" 58 gIAE ∈ (gπ l).2.1 ∧ Cond.initialized gIAE ∈ (gπ l).2.1 ∧ (∀ w ∈ vx_atS "RopewayDesk" 62 gIAE gNm, w ∈ (gπ l).2.1 ∨ w ∈ gNG) ∧ (gπ l).2.1.all goodWord = true := by
  refine ⟨gW_t 210 (by decide +kernel) rfl, gW_t 11 (by decide +kernel) rfl, fun w hw => ?_, gWS_good⟩
  have h := List.all_eq_true.mp wthr0 w hw
  rw [Bool.or_eq_true, decide_eq_true_eq, decide_eq_true_eq] at h
  exact h
theorem fthr : Bundle.fit gIAE = true ∧ ∀ n ∈ gNm, Bundle.fit n = true := by decide +kernel
section
variable {L : Nat} {S : sT} {M : Nat → Nat → Int}
theorem cX0_stop (l : Launch) {n : Nat} (h1 : 4 ≤ n) (h2 : n < 64) {C : Nat → Nat → Int} {Z : Nat → Nat → Option Nat} {R : Nat → Option Nat} : gMv (gπ l) mX0_stopClamping yX0_stopClamping [gR (some n)] (hq L C M Z R) (hq L (oStop C n) M Z R) := cX0_stopClamping l h1 h2
theorem cX2_append2 (l : Launch) {n : Nat} (h1 : 4 ≤ n) (h2 : n < 64) (h0 : 0 ≤ S.1 65 1) (h20 : S.1 65 1 < 20) : gMv (gπ l) mX2_append yX2_append [gR (some 65), gR (some n)] (hS L S M) (hS L (oAppend S n) M) := by
  refine gMv_to (cX2_append l h1 h2 (sz := (S.1 65 1).toNat) (by omega) (by omega)) ?_
  unfold oAppend
  rw [show (((S.1 65 1).toNat + 1 : Nat) : Int) = S.1 65 1 + 1 by omega]
end
set_option maxHeartbeats 1000000 in
theorem cX5_checkStation (l : Launch) {L : Nat} {S : sT} {M : Nat → Nat → Int} {s : Int} (h1 : 0 ≤ s) (h2 : s < 2) : gMv (gπ l) mX5_checkStation yX5_checkStation [gI s] (hS L S M) (hS L S M) := by
  refine gMet_of pnX5 rfl rfl rfl (Nat.le_of_ble_eq_true rfl) (gAi gAn) ?_
  show G (gπ l) mX5_checkStation 0 [gI s] [] (hS L S M) 0 0 _
  refine g_iload_n dX5_checkStation_0 rfl rfl ?_
  refine g_if_lt (tgt := 9) dX5_checkStation_1 (by decide) (fun c1 => absurd c1 (by omega)) (fun c1 => ?_)
  refine g_iload_n dX5_checkStation_4 rfl rfl ?_
  refine g_iconst (x := 2) dX5_checkStation_5 (by decide) ?_
  refine g_icmp_lt (tgt := 19) dX5_checkStation_6 (by decide) (fun c6 => ?_) (fun c6 => absurd c6 (by omega))
  exact g_vret dX5_checkStation_19 rfl ⟨rfl, rfl⟩
set_option maxHeartbeats 1000000 in
theorem cX5_checkStation_x (l : Launch) {L : Nat} {S : sT} {M : Nat → Nat → Int} {s : Int} (h1 : ¬ (0 ≤ s ∧ s < 2)) : gMx (gπ l) mX5_checkStation yX5_checkStation [gI s] (hS L S M) (hS L S M) := by
  refine gMet_of pnX5 rfl rfl rfl (Nat.le_of_ble_eq_true rfl) (gAi gAn) ?_
  show G (gπ l) mX5_checkStation 0 [gI s] [] (hS L S M) 1 6 _
  refine g_iload_n dX5_checkStation_0 rfl rfl ?_
  refine g_if_lt (tgt := 9) dX5_checkStation_1 (by decide) (fun c1 => ?_) (fun c1 => ?_)
  · exact g_throw (mc := 0) (ms := 0) (names := gNm) (text := "no such station") dX5_checkStation_9 dX5_checkStation_12 dX5_checkStation_13 dX5_checkStation_15 dX5_checkStation_18 (wthr l) fthr (List.mem_of_getElem? (i := 2) rfl) rfl ⟨by decide, Nat.le_of_ble_eq_true rfl⟩ ⟨rfl, rfl⟩
  · refine g_iload_n dX5_checkStation_4 rfl rfl ?_
    refine g_iconst (x := 2) dX5_checkStation_5 (by decide) ?_
    refine g_icmp_lt (tgt := 19) dX5_checkStation_6 (by decide) (fun c6 => absurd c6 (by omega)) (fun c6 => ?_)
    exact g_throw (mc := 0) (ms := 0) (names := gNm) (text := "no such station") dX5_checkStation_9 dX5_checkStation_12 dX5_checkStation_13 dX5_checkStation_15 dX5_checkStation_18 (wthr l) fthr (List.mem_of_getElem? (i := 2) rfl) rfl ⟨by decide, Nat.le_of_ble_eq_true rfl⟩ ⟨rfl, rfl⟩
set_option maxHeartbeats 1000000 in
theorem cX5_checkCabin (l : Launch) {L : Nat} {S : sT} {M : Nat → Nat → Int} {s : Int} (h1 : 0 ≤ s) (h2 : s < 60) : gMv (gπ l) mX5_checkCabin yX5_checkCabin [gI s] (hS L S M) (hS L S M) := by
  refine gMet_of pnX5 rfl rfl rfl (Nat.le_of_ble_eq_true rfl) (gAi gAn) ?_
  show G (gπ l) mX5_checkCabin 0 [gI s] [] (hS L S M) 0 0 _
  refine g_iload_n dX5_checkCabin_0 rfl rfl ?_
  refine g_if_lt (tgt := 10) dX5_checkCabin_1 (by decide) (fun c1 => absurd c1 (by omega)) (fun c1 => ?_)
  refine g_iload_n dX5_checkCabin_4 rfl rfl ?_
  refine g_bipush (x := 60) dX5_checkCabin_5 (by decide) ?_
  refine g_icmp_lt (tgt := 20) dX5_checkCabin_7 (by decide) (fun c7 => ?_) (fun c7 => absurd c7 (by omega))
  exact g_vret dX5_checkCabin_20 rfl ⟨rfl, rfl⟩
set_option maxHeartbeats 1000000 in
theorem cX5_checkCabin_x (l : Launch) {L : Nat} {S : sT} {M : Nat → Nat → Int} {s : Int} (h1 : ¬ (0 ≤ s ∧ s < 60)) : gMx (gπ l) mX5_checkCabin yX5_checkCabin [gI s] (hS L S M) (hS L S M) := by
  refine gMet_of pnX5 rfl rfl rfl (Nat.le_of_ble_eq_true rfl) (gAi gAn) ?_
  show G (gπ l) mX5_checkCabin 0 [gI s] [] (hS L S M) 1 6 _
  refine g_iload_n dX5_checkCabin_0 rfl rfl ?_
  refine g_if_lt (tgt := 10) dX5_checkCabin_1 (by decide) (fun c1 => ?_) (fun c1 => ?_)
  · exact g_throw (mc := 0) (ms := 0) (names := gNm) (text := "no such cabin") dX5_checkCabin_10 dX5_checkCabin_13 dX5_checkCabin_14 dX5_checkCabin_16 dX5_checkCabin_19 (wthr l) fthr (List.mem_of_getElem? (i := 6) rfl) rfl ⟨by decide, Nat.le_of_ble_eq_true rfl⟩ ⟨rfl, rfl⟩
  · refine g_iload_n dX5_checkCabin_4 rfl rfl ?_
    refine g_bipush (x := 60) dX5_checkCabin_5 (by decide) ?_
    refine g_icmp_lt (tgt := 20) dX5_checkCabin_7 (by decide) (fun c7 => absurd c7 (by omega)) (fun c7 => ?_)
    exact g_throw (mc := 0) (ms := 0) (names := gNm) (text := "no such cabin") dX5_checkCabin_10 dX5_checkCabin_13 dX5_checkCabin_14 dX5_checkCabin_16 dX5_checkCabin_19 (wthr l) fthr (List.mem_of_getElem? (i := 6) rfl) rfl ⟨by decide, Nat.le_of_ble_eq_true rfl⟩ ⟨rfl, rfl⟩
set_option maxHeartbeats 1000000 in
theorem cX5_lock (l : Launch) {L : Nat} {S : sT} {M : Nat → Nat → Int} {k : Int} : gMv (gπ l) mX5_lock yX5_lock [gR (some 1), gI k] (hS L S M) (hS L ((oLock S.1 k, S.2)) M) := by
  refine gMet_of pnX5 rfl rfl rfl (Nat.le_of_ble_eq_true rfl) (gAr (gAi gAn)) ?_
  show G (gπ l) mX5_lock 0 [gR (some 1), gI k] [] (hS L S M) 0 0 _
  refine g_aload_n dX5_lock_0 rfl rfl ?_
  refine g_dupR dX5_lock_1 ?_
  refine c_getI (x := (S.1) 1 4) dX5_lock_2 (fX5_36 l) rfl rfl (by omega) rfl ?_
  refine g_iconst (x := 1) dX5_lock_5 (by decide) ?_
  refine g_iload_n dX5_lock_6 rfl rfl ?_
  refine e_ishl (v := gshl 1 k) dX5_lock_7 rfl ?_
  refine e_ior (v := gor ((S.1) 1 4) (gshl 1 k)) dX5_lock_8 rfl ?_
  refine c_putI dX5_lock_9 (fX5_36 l) gTX5 ⟨rfl, rfl⟩ rfl rfl (by omega) (by omega) ?_
  exact g_vret dX5_lock_12 rfl ⟨rfl, rfl⟩
def oCause (S : sT) (k : Int) : Int := if k = 1 then (if S.1 65 1 < 20 then 0 else 1) else if k = 2 then (if S.1 67 4 ≤ 250 then 0 else 1) else if k = 3 then (if oFar S.1 < 5700 then 0 else 1) else 0
set_option maxHeartbeats 1000000 in
theorem cX5_hasCauseStill (l : Launch) {L : Nat} {S : sT} {M : Nat → Nat → Int} {k : Int} : gMi (gπ l) mX5_hasCauseStill yX5_hasCauseStill [gR (some 1), gI k] (hS L S M) (oCause S k) (hS L S M) := by
  refine gMet_of pnX5 rfl rfl rfl (Nat.le_of_ble_eq_true rfl) (gAr (gAi gAn)) ?_
  show G (gπ l) mX5_hasCauseStill 0 [gR (some 1), gI k] [] (hS L S M) 0 0 _
  refine g_iload_n dX5_hasCauseStill_0 rfl rfl ?_
  rcases (by omega : (k < 1 ∨ 3 < k) ∨ k = 1 ∨ k = 2 ∨ k = 3) with w1 | w1 | w1 | w1
  · refine g_tableOut (tgt := 82) dX5_hasCauseStill_1 (by omega) (by decide) ?_
    refine g_iconst (x := 0) dX5_hasCauseStill_82 (by decide) ?_
    exact g_iret dX5_hasCauseStill_83 (Or.inr ⟨rfl, Or.inl rfl⟩) ⟨congrArg gK1 (by unfold oCause; (repeat' split) <;> omega), rfl⟩
  · refine g_tableIn (tgt := 28) (off := 27) dX5_hasCauseStill_1 (by omega) (by omega) (by rw [w1]; rfl) (by decide) ?_
    refine g_aload_n dX5_hasCauseStill_28 rfl rfl ?_
    refine p_getR (o := some 65) dX5_hasCauseStill_29 (fX5_25 l) (by decide) rfl (by omega) rfl ?_
    refine g_Vi0 dX5_hasCauseStill_32 (sX5_hasCauseStill_32 l) rfl (by show 65 < 87; omega) (Nat.le_of_ble_eq_true rfl) (cX2_hasRoom l) ?_
    refine g_if_ne (tgt := 42) dX5_hasCauseStill_35 (by decide) (fun c35 => ?_) (fun c35 => ?_)
    · refine g_iconst (x := 0) dX5_hasCauseStill_42 (by decide) ?_
      exact g_iret dX5_hasCauseStill_43 (Or.inr ⟨rfl, Or.inl rfl⟩) ⟨congrArg gK1 (by unfold oCause; (repeat' split) <;> omega), rfl⟩
    · refine g_iconst (x := 1) dX5_hasCauseStill_38 (by decide) ?_
      refine g_goto (tgt := 43) dX5_hasCauseStill_39 (by decide) ?_
      exact g_iret dX5_hasCauseStill_43 (Or.inr ⟨rfl, Or.inr rfl⟩) ⟨congrArg gK1 (by unfold oCause; (repeat' split) <;> omega), rfl⟩
  · refine g_tableIn (tgt := 44) (off := 43) dX5_hasCauseStill_1 (by omega) (by omega) (by rw [w1]; rfl) (by decide) ?_
    refine g_aload_n dX5_hasCauseStill_44 rfl rfl ?_
    refine p_getR (o := some 67) dX5_hasCauseStill_45 (fX5_32 l) (by decide) rfl (by omega) rfl ?_
    refine c_getI (x := (S.1) 67 4) dX5_hasCauseStill_48 (fX5_177 l) rfl rfl (by omega) rfl ?_
    refine g_sipush (x := 250) dX5_hasCauseStill_51 (by decide) ?_
    refine g_icmp_le (tgt := 61) dX5_hasCauseStill_54 (by decide) (fun c54 => ?_) (fun c54 => ?_)
    · refine g_iconst (x := 0) dX5_hasCauseStill_61 (by decide) ?_
      exact g_iret dX5_hasCauseStill_62 (Or.inr ⟨rfl, Or.inl rfl⟩) ⟨congrArg gK1 (by unfold oCause; (repeat' split) <;> omega), rfl⟩
    · refine g_iconst (x := 1) dX5_hasCauseStill_57 (by decide) ?_
      refine g_goto (tgt := 62) dX5_hasCauseStill_58 (by decide) ?_
      exact g_iret dX5_hasCauseStill_62 (Or.inr ⟨rfl, Or.inr rfl⟩) ⟨congrArg gK1 (by unfold oCause; (repeat' split) <;> omega), rfl⟩
  · refine g_tableIn (tgt := 63) (off := 62) dX5_hasCauseStill_1 (by omega) (by omega) (by rw [w1]; rfl) (by decide) ?_
    refine g_aload_n dX5_hasCauseStill_63 rfl rfl ?_
    refine p_getR (o := some 2) dX5_hasCauseStill_64 (fX5_10 l) (by decide) rfl (by omega) rfl ?_
    refine g_Vi0 dX5_hasCauseStill_67 (sX5_hasCauseStill_67 l) rfl (by show 2 < 87; omega) (Nat.le_of_ble_eq_true rfl) (gMi_to (oFar S.1) (cX1_farthest l) rfl) ?_
    refine g_sipush (x := 5700) dX5_hasCauseStill_70 (by decide) ?_
    refine g_icmp_lt (tgt := 80) dX5_hasCauseStill_73 (by decide) (fun c73 => ?_) (fun c73 => ?_)
    · refine g_iconst (x := 0) dX5_hasCauseStill_80 (by decide) ?_
      exact g_iret dX5_hasCauseStill_81 (Or.inr ⟨rfl, Or.inl rfl⟩) ⟨congrArg gK1 (by unfold oCause; (repeat' split) <;> omega), rfl⟩
    · refine g_iconst (x := 1) dX5_hasCauseStill_76 (by decide) ?_
      refine g_goto (tgt := 81) dX5_hasCauseStill_77 (by decide) ?_
      exact g_iret dX5_hasCauseStill_81 (Or.inr ⟨rfl, Or.inr rfl⟩) ⟨congrArg gK1 (by unfold oCause; (repeat' split) <;> omega), rfl⟩
set_option maxHeartbeats 1000000 in
theorem cX5_spotOf_1 (l : Launch) {L : Nat} {S : sT} {M : Nat → Nat → Int} {n : Nat} (h1 : 4 ≤ n) (h2 : n < 64) {p sz : Nat} (hpl : S.1 n 1 = 1) (hsz : S.1 65 1 = (sz : Int)) (h20 : sz ≤ 20) (hp : p < sz) (hR : S.2.2 p = some n) (hno : ∀ j, j < p → S.2.2 j ≠ some n) : gMi (gπ l) mX5_spotOf yX5_spotOf [gR (some 1), gR (some n)] (hS L S M) ((p : Int)) (hS L S M) := by
  refine gMet_of pnX5 rfl rfl rfl (Nat.le_of_ble_eq_true rfl) (gAr (gAr gAn)) ?_
  show G (gπ l) mX5_spotOf 0 [gR (some 1), gR (some n)] [] (hS L S M) 0 0 _
  refine g_aload_n dX5_spotOf_0 rfl rfl ?_
  refine c_getI (x := 1) dX5_spotOf_1 (fX5_111 l) rfl (T0_cab (by omega) (by omega)) (by omega) hpl ?_
  refine g_tableIn (tgt := 32) (off := 28) dX5_spotOf_4 (by omega) (by omega) rfl (by decide) ?_
  refine g_aload_n dX5_spotOf_32 rfl rfl ?_
  refine p_getR (o := some 65) dX5_spotOf_33 (fX5_25 l) (by decide) rfl (by omega) rfl ?_
  refine g_aload_n dX5_spotOf_36 rfl rfl ?_
  refine g_Vi1 dX5_spotOf_37 (sX5_spotOf_37 l) rfl (by show 65 < 87; omega) (Nat.le_of_ble_eq_true rfl) (cX2_placeOf l hsz h20 hp hR hno) ?_
  exact g_iret dX5_spotOf_40 (Or.inl rfl) ⟨rfl, rfl⟩
set_option maxHeartbeats 1000000 in
theorem cX5_spotOf_2 (l : Launch) {L : Nat} {S : sT} {M : Nat → Nat → Int} {n : Nat} (h1 : 4 ≤ n) (h2 : n < 64) (hpl : S.1 n 1 = 2) : gMi (gπ l) mX5_spotOf yX5_spotOf [gR (some 1), gR (some n)] (hS L S M) (S.1 n 3) (hS L S M) := by
  refine gMet_of pnX5 rfl rfl rfl (Nat.le_of_ble_eq_true rfl) (gAr (gAr gAn)) ?_
  show G (gπ l) mX5_spotOf 0 [gR (some 1), gR (some n)] [] (hS L S M) 0 0 _
  refine g_aload_n dX5_spotOf_0 rfl rfl ?_
  refine c_getI (x := 2) dX5_spotOf_1 (fX5_111 l) rfl (T0_cab (by omega) (by omega)) (by omega) hpl ?_
  refine g_tableIn (tgt := 41) (off := 37) dX5_spotOf_4 (by omega) (by omega) rfl (by decide) ?_
  refine g_aload_n dX5_spotOf_41 rfl rfl ?_
  refine c_getI (x := (S.1) n 3) dX5_spotOf_42 (fX5_138 l) rfl (T0_cab (by omega) (by omega)) (by omega) rfl ?_
  exact g_iret dX5_spotOf_45 (Or.inl rfl) ⟨rfl, rfl⟩
set_option maxHeartbeats 1000000 in
theorem cX5_spotOf_3 (l : Launch) {L : Nat} {S : sT} {M : Nat → Nat → Int} {n : Nat} (h1 : 4 ≤ n) (h2 : n < 64) (hpl : S.1 n 1 = 3) : gMi (gπ l) mX5_spotOf yX5_spotOf [gR (some 1), gR (some n)] (hS L S M) (S.1 n 4) (hS L S M) := by
  refine gMet_of pnX5 rfl rfl rfl (Nat.le_of_ble_eq_true rfl) (gAr (gAr gAn)) ?_
  show G (gπ l) mX5_spotOf 0 [gR (some 1), gR (some n)] [] (hS L S M) 0 0 _
  refine g_aload_n dX5_spotOf_0 rfl rfl ?_
  refine c_getI (x := 3) dX5_spotOf_1 (fX5_111 l) rfl (T0_cab (by omega) (by omega)) (by omega) hpl ?_
  refine g_tableIn (tgt := 46) (off := 42) dX5_spotOf_4 (by omega) (by omega) rfl (by decide) ?_
  refine g_aload_n dX5_spotOf_46 rfl rfl ?_
  refine c_getI (x := (S.1) n 4) dX5_spotOf_47 (fX5_197 l) rfl (T0_cab (by omega) (by omega)) (by omega) rfl ?_
  exact g_iret dX5_spotOf_50 (Or.inl rfl) ⟨rfl, rfl⟩
set_option maxHeartbeats 1000000 in
theorem cX5_spotOf_0 (l : Launch) {L : Nat} {S : sT} {M : Nat → Nat → Int} {n : Nat} (h1 : 4 ≤ n) (h2 : n < 64) (hpl : S.1 n 1 = 0) : gMi (gπ l) mX5_spotOf yX5_spotOf [gR (some 1), gR (some n)] (hS L S M) (-1) (hS L S M) := by
  refine gMet_of pnX5 rfl rfl rfl (Nat.le_of_ble_eq_true rfl) (gAr (gAr gAn)) ?_
  show G (gπ l) mX5_spotOf 0 [gR (some 1), gR (some n)] [] (hS L S M) 0 0 _
  refine g_aload_n dX5_spotOf_0 rfl rfl ?_
  refine c_getI (x := 0) dX5_spotOf_1 (fX5_111 l) rfl (T0_cab (by omega) (by omega)) (by omega) hpl ?_
  refine g_tableOut (tgt := 51) dX5_spotOf_4 (by omega) (by decide) ?_
  refine g_iconst (x := -1) dX5_spotOf_51 (by decide) ?_
  exact g_iret dX5_spotOf_52 (Or.inl rfl) ⟨rfl, rfl⟩
set_option maxHeartbeats 1000000 in
theorem cX5_letGo (l : Launch) {L : Nat} {S : sT} {M : Nat → Nat → Int} (hw : Wf S) : gMv (gπ l) mX5_letGo yX5_letGo [gR (some 1)] (hS L S M) (hS L (oGo S) M) := by
  refine gMet_of pnX5 rfl rfl rfl (Nat.le_of_ble_eq_true rfl) (gAr gAn) ?_
  show G (gπ l) mX5_letGo 0 [gR (some 1), gU, gU, gU] [] (hS L S M) 0 0 _
  have loop : ∀ (m k : Nat) (S : sT), k + m = 60 → Wf S → ∀ e2 e3 : gV, G (gπ l) mX5_letGo 2 [gR (some 1), gI (k : Int), e2, e3] [] (hS L S M) 0 0 (fun r k9 => r = some none ∧ k9 = hS L (oGoFrom S k m) M) := by
    intro m
    induction m with
    | zero =>
      intro k S hk hw e2 e3
      refine g_iload_n dX5_letGo_2 rfl rfl ?_
      refine g_bipush (x := 60) dX5_letGo_3 (by decide) ?_
      refine g_icmp_ge (tgt := 69) dX5_letGo_5 (by decide) (fun c5 => ?_) (fun c5 => absurd c5 (by omega))
      exact g_vret dX5_letGo_69 rfl ⟨rfl, rfl⟩
    | succ m ih =>
      intro k S hk hw e2 e3
      refine g_iload_n dX5_letGo_2 rfl rfl ?_
      refine g_bipush (x := 60) dX5_letGo_3 (by decide) ?_
      refine g_icmp_ge (tgt := 69) dX5_letGo_5 (by decide) (fun c5 => absurd c5 (by omega)) (fun c5 => ?_)
      refine g_aload_n dX5_letGo_8 rfl rfl ?_
      refine p_getR (o := some 2) dX5_letGo_9 (fX5_10 l) (by decide) rfl (by omega) rfl ?_
      refine p_getR (o := some 3) dX5_letGo_12 (fX5_108 l) (by decide) rfl (by omega) rfl ?_
      refine g_iload_n dX5_letGo_15 rfl rfl ?_
      refine p_aald (ci := 0) (len := 60) (o := some (4 + k)) (kc0 l) dX5_letGo_16 rfl (by omega) (by omega) (by omega) (rr_cab (by omega)) ?_
      refine e_astore_n (loc' := [gR (some 1), gI (k : Int), gR (some (4 + k)), e3]) dX5_letGo_17 rfl (by decide) rfl ?_
      refine g_aload_n dX5_letGo_18 rfl rfl ?_
      refine c_getI (x := (S.1) (4 + k) 1) dX5_letGo_19 (fX5_111 l) rfl (T0_cab (by omega) (by omega)) (by omega) rfl ?_
      refine g_iconst (x := 3) dX5_letGo_22 (by decide) ?_
      refine g_icmp_ne (tgt := 63) dX5_letGo_23 (by decide) (fun c23 => ?_) (fun c23 => ?_)
      · refine e_iinc (v := ((k + 1 : Nat) : Int)) (loc' := [gR (some 1), gI (((k + 1 : Nat) : Int)), gR (some (4 + k)), e3]) dX5_letGo_63 (by decide) rfl (gadd_nat (by omega)) rfl ?_
        refine g_goto (tgt := 2) dX5_letGo_66 (by decide) ?_
        have e : oGo1 S k = S := by unfold oGo1; rw [if_neg (by rintro ⟨a1, a2, a3⟩; first | omega | (rw [a3] at c54; cases c54))]
        have h9 := ih (k + 1) S (by omega) hw
        rw [show oGoFrom S k (m + 1) = oGoFrom (oGo1 S k) (k + 1) m from rfl, e]
        exact h9 _ _
      · refine g_aload_n dX5_letGo_26 rfl rfl ?_
        refine c_getI (x := (S.1) (4 + k) 4) dX5_letGo_27 (fX5_197 l) rfl (T0_cab (by omega) (by omega)) (by omega) rfl ?_
        refine g_sipush (x := 5700) dX5_letGo_30 (by decide) ?_
        refine g_icmp_lt (tgt := 63) dX5_letGo_33 (by decide) (fun c33 => ?_) (fun c33 => ?_)
        · refine e_iinc (v := ((k + 1 : Nat) : Int)) (loc' := [gR (some 1), gI (((k + 1 : Nat) : Int)), gR (some (4 + k)), e3]) dX5_letGo_63 (by decide) rfl (gadd_nat (by omega)) rfl ?_
          refine g_goto (tgt := 2) dX5_letGo_66 (by decide) ?_
          have e : oGo1 S k = S := by unfold oGo1; rw [if_neg (by rintro ⟨a1, a2, a3⟩; first | omega | (rw [a3] at c54; cases c54))]
          have h9 := ih (k + 1) S (by omega) hw
          rw [show oGoFrom S k (m + 1) = oGoFrom (oGo1 S k) (k + 1) m from rfl, e]
          exact h9 _ _
        · have hst := hw.2.2.2.2 k (by omega) c23
          refine g_aload_n dX5_letGo_36 rfl rfl ?_
          refine p_getR (o := some 64) dX5_letGo_37 (fX5_18 l) (by decide) rfl (by omega) rfl ?_
          refine g_iconst (x := 1) dX5_letGo_40 (by decide) ?_
          refine g_aload_n dX5_letGo_41 rfl rfl ?_
          refine c_getI (x := (S.1) (4 + k) 2) dX5_letGo_42 (fX5_135 l) rfl (T0_cab (by omega) (by omega)) (by omega) rfl ?_
          refine e_isub (v := ((1 - (S.1 (4 + k) 2).toNat : Nat) : Int)) dX5_letGo_45 (by rw [gsub_eq (by omega) (by omega)]; omega) ?_
          refine p_aald (ci := 3) (len := 2) (o := some (70 + 2 * (1 - (S.1 (4 + k) 2).toNat))) (kc3 l) dX5_letGo_46 rfl (by omega) (by omega) (by omega) (rr_st (by omega)) ?_
          refine e_astore_n (loc' := [gR (some 1), gI (k : Int), gR (some (4 + k)), gR (some (70 + 2 * (1 - (S.1 (4 + k) 2).toNat)))]) dX5_letGo_47 rfl (by decide) rfl ?_
          refine g_aload_n dX5_letGo_48 rfl rfl ?_
          refine p_getR (o := some (71 + 2 * (1 - (S.1 (4 + k) 2).toNat))) dX5_letGo_49 (fX5_82 l) (by decide) (T0_st (by omega)) (by omega) (rr_zs (by omega)) ?_
          refine g_iconst (x := 1) dX5_letGo_52 (by decide) ?_
          refine p_aald (ci := 0) (len := 13) (o := (S.2.1) (1 - (S.1 (4 + k) 2).toNat) 1) (kc0 l) dX5_letGo_53 (T0_zones (by omega)) (by omega) (by omega) (by omega) (rr_zone (by omega)) ?_
          refine g_ifnonnull (tgt := 63) dX5_letGo_54 (by decide) (fun n54 c54 => ?_) (fun c54 => ?_)
          · refine e_iinc (v := ((k + 1 : Nat) : Int)) (loc' := [gR (some 1), gI (((k + 1 : Nat) : Int)), gR (some (4 + k)), gR (some (70 + 2 * (1 - (S.1 (4 + k) 2).toNat)))]) dX5_letGo_63 (by decide) rfl (gadd_nat (by omega)) rfl ?_
            refine g_goto (tgt := 2) dX5_letGo_66 (by decide) ?_
            have e : oGo1 S k = S := by unfold oGo1; rw [if_neg (by rintro ⟨a1, a2, a3⟩; first | omega | (rw [a3] at c54; cases c54))]
            have h9 := ih (k + 1) S (by omega) hw
            rw [show oGoFrom S k (m + 1) = oGoFrom (oGo1 S k) (k + 1) m from rfl, e]
            exact h9 _ _
          · refine g_aload_n dX5_letGo_57 rfl rfl ?_
            refine g_aload_n dX5_letGo_58 rfl rfl ?_
            refine g_iconst (x := 1) dX5_letGo_59 (by decide) ?_
            refine g_Vv2 dX5_letGo_60 (sX5_letGo_60 l) (T0_st (by omega)) (by show 70 + 2 * (1 - (S.1 (4 + k) 2).toNat) < 87; omega) (Nat.le_of_ble_eq_true rfl) (cX3_admit l (s := (1 - (S.1 (4 + k) 2).toNat)) (z := 1) (by omega) (hw.1 _ (by omega)) (by omega) (by omega) (by omega)) ?_
            refine e_iinc (v := ((k + 1 : Nat) : Int)) (loc' := [gR (some 1), gI (((k + 1 : Nat) : Int)), gR (some (4 + k)), gR (some (70 + 2 * (1 - (S.1 (4 + k) 2).toNat)))]) dX5_letGo_63 (by decide) rfl (gadd_nat (by omega)) rfl ?_
            refine g_goto (tgt := 2) dX5_letGo_66 (by decide) ?_
            have e : oGo1 S k = (sAdm S.1 (4 + k) (1 - (S.1 (4 + k) 2).toNat) 1, up S.2.1 (1 - (S.1 (4 + k) 2).toNat) 1 (some (4 + k)), S.2.2) := by unfold oGo1; rw [if_pos ⟨c23, c33, c54⟩]
            have h9 := ih (k + 1) (oGo1 S k) (by omega) (hw.go1 (by omega))
            rw [show oGoFrom S k (m + 1) = oGoFrom (oGo1 S k) (k + 1) m from rfl]
            refine g_eq rfl ?_ (h9 _ _)
            rw [e]
            rfl
  refine g_iconst (x := 0) dX5_letGo_0 (by decide) ?_
  refine e_istore_n (loc' := [gR (some 1), gI 0, gU, gU]) dX5_letGo_1 rfl (by decide) rfl ?_
  unfold oGo
  exact loop 60 0 S (by omega) hw gU gU
set_option maxHeartbeats 1000000 in
theorem cX5_leave (l : Launch) {L : Nat} {S : sT} {M : Nat → Nat → Int} {s n : Nat} (hs : s < 2) (hnum : S.1 (70 + 2 * s) 0 = (s : Int)) (h1 : 4 ≤ n) (h2 : n < 64) : gMv (gπ l) mX5_leave yX5_leave [gR (some 1), gR (some (70 + 2 * s)), gR (some n)] (hS L S M) (hS L (oLeave S s n) M) := by
  refine gMet_of pnX5 rfl rfl rfl (Nat.le_of_ble_eq_true rfl) (gAr (gAr (gAr gAn))) ?_
  show G (gπ l) mX5_leave 0 [gR (some 1), gR (some (70 + 2 * s)), gR (some n)] [] (hS L S M) 0 0 _
  refine g_aload_n dX5_leave_0 rfl rfl ?_
  refine p_getR (o := some (71 + 2 * s)) dX5_leave_1 (fX5_82 l) (by decide) (T0_st (by omega)) (by omega) (rr_zs (by omega)) ?_
  refine g_bipush (x := 12) dX5_leave_4 (by decide) ?_
  refine g_null dX5_leave_6 ?_
  refine p_aastZ (s := s) (kc0 l) dX5_leave_7 (by omega) (by omega) (by omega) (fun v hv => nomatch hv) ?_
  refine g_aload_n dX5_leave_8 rfl rfl ?_
  refine g_Vv0 dX5_leave_9 (sX5_leave_9 l) (T0_cab (by omega) (by omega)) (by show n < 87; omega) (Nat.le_of_ble_eq_true rfl) (cX0_stop l h1 h2) ?_
  refine g_aload_n dX5_leave_12 rfl rfl ?_
  refine g_iconst (x := 3) dX5_leave_13 (by decide) ?_
  refine g_Vv1 dX5_leave_14 (sX5_leave_14 l) (T0_cab (by omega) (by omega)) (by show n < 87; omega) (Nat.le_of_ble_eq_true rfl) (cX0_standAt l h1 h2) ?_
  refine g_aload_n dX5_leave_17 rfl rfl ?_
  refine g_aload_n dX5_leave_18 rfl rfl ?_
  refine c_getI (x := (s : Int)) dX5_leave_19 (fX5_230 l) rfl (T0_st (by omega)) (by omega) (by unfold sStand oStop; rw [up_cell (by omega), up_cell (by omega), up_cell (by omega), up_cell (by omega), up_cell (by omega), up_cell (by omega), up_cell (by omega)]; exact hnum) ?_
  refine c_putI dX5_leave_22 (fX5_135 l) gTX0 ⟨rfl, rfl⟩ rfl (T0_cab (by omega) (by omega)) (by omega) (by omega) ?_
  refine g_aload_n dX5_leave_25 rfl rfl ?_
  refine g_iconst (x := 0) dX5_leave_26 (by decide) ?_
  refine c_putI dX5_leave_27 (fX5_197 l) gTX0 ⟨rfl, rfl⟩ rfl (T0_cab (by omega) (by omega)) (by omega) (by omega) ?_
  refine g_aload_n dX5_leave_30 rfl rfl ?_
  refine g_dupR dX5_leave_31 ?_
  refine c_getI (x := S.1 n 9) dX5_leave_32 (fX5_161 l) rfl (T0_cab (by omega) (by omega)) (by omega) (by simp [up, sStand, oStop]) ?_
  refine g_iconst (x := 1) dX5_leave_35 (by decide) ?_
  refine e_iadd (v := gadd (S.1 n 9) 1) dX5_leave_36 rfl ?_
  refine c_putI dX5_leave_37 (fX5_161 l) gTX0 ⟨rfl, rfl⟩ rfl (T0_cab (by omega) (by omega)) (by omega) (by omega) ?_
  exact g_vret dX5_leave_40 rfl ⟨rfl, rfl⟩
set_option maxHeartbeats 1000000 in
theorem cX5_fail_a (l : Launch) {L : Nat} {S : sT} {M : Nat → Nat → Int} (hw : Wf S) {s n : Nat} (hs : s < 2) (hnum : S.1 (70 + 2 * s) 0 = (s : Int)) (h1 : 4 ≤ n) (h2 : n < 64) {f : Int} (hr : S.1 65 1 < 20) : gMv (gπ l) mX5_fail yX5_fail [gR (some 1), gR (some (70 + 2 * s)), gR (some n), gI f] (hS L S M) (hS L (oFail S s n f) M) := by
  refine gMet_of pnX5 rfl rfl rfl (Nat.le_of_ble_eq_true rfl) (gAr (gAr (gAr (gAi gAn)))) ?_
  show G (gπ l) mX5_fail 0 [gR (some 1), gR (some (70 + 2 * s)), gR (some n), gI f] [] (hS L S M) 0 0 _
  refine g_aload_n dX5_fail_0 rfl rfl ?_
  refine g_iload_n dX5_fail_1 rfl rfl ?_
  refine c_putI dX5_fail_2 (fX5_164 l) gTX0 ⟨rfl, rfl⟩ rfl (T0_cab (by omega) (by omega)) (by omega) (by omega) ?_
  refine g_aload_n dX5_fail_5 rfl rfl ?_
  refine g_Vv0 dX5_fail_6 (sX5_fail_6 l) (T0_cab (by omega) (by omega)) (by show n < 87; omega) (Nat.le_of_ble_eq_true rfl) (cX0_stop l h1 h2) ?_
  refine g_aload_n dX5_fail_9 rfl rfl ?_
  refine g_iconst (x := 0) dX5_fail_10 (by decide) ?_
  refine g_Vv1 dX5_fail_11 (sX5_fail_11 l) rfl (by show 1 < 87; omega) (Nat.le_of_ble_eq_true rfl) (cX5_lock l (S := (oStop (up S.1 n 10 f) n, S.2))) ?_
  refine g_aload_n dX5_fail_14 rfl rfl ?_
  refine p_getR (o := some 65) dX5_fail_15 (fX5_25 l) (by decide) rfl (by omega) rfl ?_
  refine g_Vi0 dX5_fail_18 (sX5_fail_18 l) rfl (by show 65 < 87; omega) (Nat.le_of_ble_eq_true rfl) (gMi_to 1 (cX2_hasRoom l) (by rw [if_pos (by unfold oLock oStop; (try dsimp only); rw [up_cell (by omega), up_cell (by omega), up_cell (by omega), up_cell (by omega), up_cell (by omega)]; exact hr)])) ?_
  refine g_if_eq (tgt := 43) dX5_fail_21 (by decide) (fun c21 => absurd c21 (by omega)) (fun c21 => ?_)
  refine g_aload_n dX5_fail_24 rfl rfl ?_
  refine p_getR (o := some (71 + 2 * s)) dX5_fail_25 (fX5_82 l) (by decide) (T0_st (by omega)) (by omega) (rr_zs (by omega)) ?_
  refine g_bipush (x := 12) dX5_fail_28 (by decide) ?_
  refine g_null dX5_fail_30 ?_
  refine p_aastZ (s := s) (kc0 l) dX5_fail_31 (by omega) (by omega) (by omega) (fun v hv => nomatch hv) ?_
  refine g_aload_n dX5_fail_32 rfl rfl ?_
  refine p_getR (o := some 65) dX5_fail_33 (fX5_25 l) (by decide) rfl (by omega) rfl ?_
  refine g_aload_n dX5_fail_36 rfl rfl ?_
  refine g_Vv1 dX5_fail_37 (sX5_fail_37 l) rfl (by show 65 < 87; omega) (Nat.le_of_ble_eq_true rfl) (cX2_append2 l (S := (oLock (oStop (up S.1 n 10 f) n) 0, up S.2.1 s 12 none, S.2.2)) h1 h2 (by show 0 ≤ oLock (oStop (up S.1 n 10 f) n) 0 65 1; unfold oLock oStop; (try dsimp only); rw [up_cell (by omega), up_cell (by omega), up_cell (by omega), up_cell (by omega), up_cell (by omega)]; exact hw.2.2.2.1.1) (by show oLock (oStop (up S.1 n 10 f) n) 0 65 1 < 20; unfold oLock oStop; (try dsimp only); rw [up_cell (by omega), up_cell (by omega), up_cell (by omega), up_cell (by omega), up_cell (by omega)]; exact hr)) ?_
  refine g_goto (tgt := 53) dX5_fail_40 (by decide) ?_
  exact g_vret dX5_fail_53 rfl ⟨rfl, by unfold oFail; rw [if_pos hr]⟩
set_option maxHeartbeats 1000000 in
theorem cX5_fail_b (l : Launch) {L : Nat} {S : sT} {M : Nat → Nat → Int} (hw : Wf S) {s n : Nat} (hs : s < 2) (hnum : S.1 (70 + 2 * s) 0 = (s : Int)) (h1 : 4 ≤ n) (h2 : n < 64) {f : Int} (hr : ¬ S.1 65 1 < 20) : gMv (gπ l) mX5_fail yX5_fail [gR (some 1), gR (some (70 + 2 * s)), gR (some n), gI f] (hS L S M) (hS L (oFail S s n f) M) := by
  refine gMet_of pnX5 rfl rfl rfl (Nat.le_of_ble_eq_true rfl) (gAr (gAr (gAr (gAi gAn)))) ?_
  show G (gπ l) mX5_fail 0 [gR (some 1), gR (some (70 + 2 * s)), gR (some n), gI f] [] (hS L S M) 0 0 _
  refine g_aload_n dX5_fail_0 rfl rfl ?_
  refine g_iload_n dX5_fail_1 rfl rfl ?_
  refine c_putI dX5_fail_2 (fX5_164 l) gTX0 ⟨rfl, rfl⟩ rfl (T0_cab (by omega) (by omega)) (by omega) (by omega) ?_
  refine g_aload_n dX5_fail_5 rfl rfl ?_
  refine g_Vv0 dX5_fail_6 (sX5_fail_6 l) (T0_cab (by omega) (by omega)) (by show n < 87; omega) (Nat.le_of_ble_eq_true rfl) (cX0_stop l h1 h2) ?_
  refine g_aload_n dX5_fail_9 rfl rfl ?_
  refine g_iconst (x := 0) dX5_fail_10 (by decide) ?_
  refine g_Vv1 dX5_fail_11 (sX5_fail_11 l) rfl (by show 1 < 87; omega) (Nat.le_of_ble_eq_true rfl) (cX5_lock l (S := (oStop (up S.1 n 10 f) n, S.2))) ?_
  refine g_aload_n dX5_fail_14 rfl rfl ?_
  refine p_getR (o := some 65) dX5_fail_15 (fX5_25 l) (by decide) rfl (by omega) rfl ?_
  refine g_Vi0 dX5_fail_18 (sX5_fail_18 l) rfl (by show 65 < 87; omega) (Nat.le_of_ble_eq_true rfl) (gMi_to 0 (cX2_hasRoom l) (by rw [if_neg (by unfold oLock oStop; (try dsimp only); rw [up_cell (by omega), up_cell (by omega), up_cell (by omega), up_cell (by omega), up_cell (by omega)]; exact hr)])) ?_
  refine g_if_eq (tgt := 43) dX5_fail_21 (by decide) (fun c21 => ?_) (fun c21 => absurd c21 (by omega))
  refine g_aload_n dX5_fail_43 rfl rfl ?_
  refine g_iconst (x := 1) dX5_fail_44 (by decide) ?_
  refine g_Vv1 dX5_fail_45 (sX5_fail_45 l) rfl (by show 1 < 87; omega) (Nat.le_of_ble_eq_true rfl) (cX5_lock l (S := (oLock (oStop (up S.1 n 10 f) n) 0, S.2))) ?_
  refine g_aload_n dX5_fail_48 rfl rfl ?_
  refine g_iconst (x := 0) dX5_fail_49 (by decide) ?_
  refine c_putI dX5_fail_50 (fX5_152 l) gTX0 ⟨rfl, rfl⟩ rfl (T0_cab (by omega) (by omega)) (by omega) (by omega) ?_
  exact g_vret dX5_fail_53 rfl ⟨rfl, by unfold oFail; rw [if_neg hr]⟩
theorem cX5_fail (l : Launch) {L : Nat} {S : sT} {M : Nat → Nat → Int} (hw : Wf S) {s n : Nat} (hs : s < 2) (hnum : S.1 (70 + 2 * s) 0 = (s : Int)) (h1 : 4 ≤ n) (h2 : n < 64) {f : Int} : gMv (gπ l) mX5_fail yX5_fail [gR (some 1), gR (some (70 + 2 * s)), gR (some n), gI f] (hS L S M) (hS L (oFail S s n f) M) := by
  by_cases hr : S.1 65 1 < 20
  · exact cX5_fail_a l hw hs hnum h1 h2 hr
  · exact cX5_fail_b l hw hs hnum h1 h2 hr
set_option maxHeartbeats 1000000 in
theorem cX5_goOnClamping (l : Launch) {L : Nat} {S : sT} {M : Nat → Nat → Int} (hw : Wf S) {s n : Nat} (hs : s < 2) (hnum : S.1 (70 + 2 * s) 0 = (s : Int)) (h1 : 4 ≤ n) (h2 : n < 64) : gMv (gπ l) mX5_goOnClamping yX5_goOnClamping [gR (some 1), gR (some (70 + 2 * s)), gR (some n)] (hS L S M) (hS L (oClamp S s n) M) := by
  refine gMet_of pnX5 rfl rfl rfl (Nat.le_of_ble_eq_true rfl) (gAr (gAr (gAr gAn))) ?_
  show G (gπ l) mX5_goOnClamping 0 [gR (some 1), gR (some (70 + 2 * s)), gR (some n), gU] [] (hS L S M) 0 0 _
  refine g_aload_n dX5_goOnClamping_0 rfl rfl ?_
  refine g_dupR dX5_goOnClamping_1 ?_
  refine c_getI (x := (S.1) n 6) dX5_goOnClamping_2 (fX5_155 l) rfl (T0_cab (by omega) (by omega)) (by omega) rfl ?_
  refine g_iconst (x := 1) dX5_goOnClamping_5 (by decide) ?_
  refine e_iadd (v := gadd ((S.1) n 6) 1) dX5_goOnClamping_6 rfl ?_
  refine c_putI dX5_goOnClamping_7 (fX5_155 l) gTX0 ⟨rfl, rfl⟩ rfl (T0_cab (by omega) (by omega)) (by omega) (by omega) ?_
  refine g_aload_n dX5_goOnClamping_10 rfl rfl ?_
  refine g_Vi0 dX5_goOnClamping_11 (sX5_goOnClamping_11 l) (T0_cab (by omega) (by omega)) (by show n < 87; omega) (Nat.le_of_ble_eq_true rfl) (gMi_to (if 0 ≤ S.1 n 7 then 1 else 0) (cX0_hasReport l h1 h2) (by rw [up_slot (by omega)])) ?_
  refine g_if_eq (tgt := 45) dX5_goOnClamping_14 (by decide) (fun c14 => ?_) (fun c14 => ?_)
  · have c9 : ¬ 0 ≤ S.1 n 7 := by split at c14 <;> omega
    refine g_aload_n dX5_goOnClamping_45 rfl rfl ?_
    refine c_getI (x := gadd (S.1 n 6) 1) dX5_goOnClamping_46 (fX5_155 l) rfl (T0_cab (by omega) (by omega)) (by omega) up_same ?_
    refine g_bipush (x := 40) dX5_goOnClamping_49 (by decide) ?_
    refine g_icmp_lt (tgt := 61) dX5_goOnClamping_51 (by decide) (fun c51 => ?_) (fun c51 => ?_)
    · exact g_vret dX5_goOnClamping_61 rfl ⟨rfl, by unfold oClamp; rw [if_neg c9, if_pos c51]⟩
    · refine g_aload_n dX5_goOnClamping_54 rfl rfl ?_
      refine g_aload_n dX5_goOnClamping_55 rfl rfl ?_
      refine g_aload_n dX5_goOnClamping_56 rfl rfl ?_
      refine g_iconst (x := 3) dX5_goOnClamping_57 (by decide) ?_
      refine g_Vv3 dX5_goOnClamping_58 (sX5_goOnClamping_58 l) rfl (by show 1 < 87; omega) (Nat.le_of_ble_eq_true rfl) (cX5_fail l (S := (up S.1 n 6 (gadd (S.1 n 6) 1), S.2)) (hw.cab h1 h2 (by omega)) hs (by dsimp only; rw [up_cell (by omega)]; exact hnum) h1 h2) ?_
      exact g_vret dX5_goOnClamping_61 rfl ⟨rfl, by unfold oClamp; rw [if_neg c9, if_neg (by omega)]⟩
  · have c9 : 0 ≤ S.1 n 7 := by split at c14 <;> omega
    refine g_aload_n dX5_goOnClamping_17 rfl rfl ?_
    refine g_Vi0 dX5_goOnClamping_18 (sX5_goOnClamping_18 l) (T0_cab (by omega) (by omega)) (by show n < 87; omega) (Nat.le_of_ble_eq_true rfl) (gMi_to (sFault (S.1 n 7) (S.1 n 8)) (cX0_faultOfReport l h1 h2) (by rw [up_slot (by omega), up_slot (by omega)])) ?_
    refine e_istore_n (loc' := [gR (some 1), gR (some (70 + 2 * s)), gR (some n), gI (sFault (S.1 n 7) (S.1 n 8))]) dX5_goOnClamping_21 rfl (by decide) rfl ?_
    refine g_iload_n dX5_goOnClamping_22 rfl rfl ?_
    refine g_if_ne (tgt := 35) dX5_goOnClamping_23 (by decide) (fun c23 => ?_) (fun c23 => ?_)
    · refine g_aload_n dX5_goOnClamping_35 rfl rfl ?_
      refine g_aload_n dX5_goOnClamping_36 rfl rfl ?_
      refine g_aload_n dX5_goOnClamping_37 rfl rfl ?_
      refine g_iload_n dX5_goOnClamping_38 rfl rfl ?_
      refine g_Vv3 dX5_goOnClamping_39 (sX5_goOnClamping_39 l) rfl (by show 1 < 87; omega) (Nat.le_of_ble_eq_true rfl) (cX5_fail l (S := (up S.1 n 6 (gadd (S.1 n 6) 1), S.2)) (hw.cab h1 h2 (by omega)) hs (by dsimp only; rw [up_cell (by omega)]; exact hnum) h1 h2) ?_
      refine g_goto (tgt := 61) dX5_goOnClamping_42 (by decide) ?_
      exact g_vret dX5_goOnClamping_61 rfl ⟨rfl, by unfold oClamp; rw [if_pos c9, if_neg c23]⟩
    · refine g_aload_n dX5_goOnClamping_26 rfl rfl ?_
      refine g_aload_n dX5_goOnClamping_27 rfl rfl ?_
      refine g_aload_n dX5_goOnClamping_28 rfl rfl ?_
      refine g_Vv2 dX5_goOnClamping_29 (sX5_goOnClamping_29 l) rfl (by show 1 < 87; omega) (Nat.le_of_ble_eq_true rfl) (cX5_leave l (S := (up S.1 n 6 (gadd (S.1 n 6) 1), S.2)) hs (by dsimp only; rw [up_cell (by omega)]; exact hnum) h1 h2) ?_
      refine g_goto (tgt := 42) dX5_goOnClamping_32 (by decide) ?_
      refine g_goto (tgt := 61) dX5_goOnClamping_42 (by decide) ?_
      exact g_vret dX5_goOnClamping_61 rfl ⟨rfl, by unfold oClamp; rw [if_pos c9, if_pos c23]⟩
set_option maxHeartbeats 1000000 in
theorem cX5_spacing (l : Launch) {L : Nat} {S : sT} {M : Nat → Nat → Int} {s : Nat} (hs : s < 2) : gMi (gπ l) mX5_spacing yX5_spacing [gR (some 1), gR (some (70 + 2 * s))] (hS L S M) (oSpc S s) (hS L S M) := by
  refine gMet_of pnX5 rfl rfl rfl (Nat.le_of_ble_eq_true rfl) (gAr (gAr gAn)) ?_
  show G (gπ l) mX5_spacing 0 [gR (some 1), gR (some (70 + 2 * s))] [] (hS L S M) 0 0 _
  refine g_aload_n dX5_spacing_0 rfl rfl ?_
  refine g_Vi0 dX5_spacing_1 (sX5_spacing_1 l) (T0_st (by omega)) (by show 70 + 2 * s < 87; omega) (Nat.le_of_ble_eq_true rfl) (cX3_count l hs) ?_
  refine g_bipush (x := 6) dX5_spacing_4 (by decide) ?_
  refine g_icmp_lt (tgt := 12) dX5_spacing_6 (by decide) (fun c6 => ?_) (fun c6 => ?_)
  · refine g_sipush (x := 12000) dX5_spacing_12 (by decide) ?_
    refine g_aload_n dX5_spacing_15 rfl rfl ?_
    refine c_getI (x := (S.1) 1 5) dX5_spacing_16 (fX5_40 l) rfl rfl (by omega) rfl ?_
    refine g_iconst (x := 1) dX5_spacing_19 (by decide) ?_
    refine g_max dX5_spacing_20 aX5_242 ⟨by decide, Nat.le_of_ble_eq_true rfl⟩ ?_
    refine e_idiv (v := gdiv 12000 (max ((S.1) 1 5) 1)) dX5_spacing_23 (by omega) rfl ?_
    refine g_bipush (x := 90) dX5_spacing_24 (by decide) ?_
    refine g_max dX5_spacing_26 aX5_242 ⟨by decide, Nat.le_of_ble_eq_true rfl⟩ ?_
    exact g_iret dX5_spacing_29 (Or.inl rfl) ⟨congrArg gK1 (by unfold oSpc; rw [if_pos c6]), rfl⟩
  · refine g_bipush (x := 90) dX5_spacing_9 (by decide) ?_
    exact g_iret dX5_spacing_11 (Or.inl rfl) ⟨congrArg gK1 (by unfold oSpc; rw [if_neg (by omega)]), rfl⟩
set_option maxHeartbeats 1000000 in
theorem cX5_mayClamp (l : Launch) {L : Nat} {S : sT} {M : Nat → Nat → Int} {s n : Nat} (hs : s < 2) (hnum : S.1 (70 + 2 * s) 0 = (s : Int)) (h1 : 4 ≤ n) (h2 : n < 64) : gMi (gπ l) mX5_mayClamp yX5_mayClamp [gR (some 1), gR (some (70 + 2 * s)), gR (some n)] (hS L S M) (if 15 ≤ S.1 n 5 ∧ S.1 1 4 = 0 ∧ oNear S.1 (s : Int) (oSpc S s) = false then 1 else 0) (hS L S M) := by
  refine gMet_of pnX5 rfl rfl rfl (Nat.le_of_ble_eq_true rfl) (gAr (gAr (gAr gAn))) ?_
  show G (gπ l) mX5_mayClamp 0 [gR (some 1), gR (some (70 + 2 * s)), gR (some n)] [] (hS L S M) 0 0 _
  refine g_aload_n dX5_mayClamp_0 rfl rfl ?_
  refine c_getI (x := (S.1) n 5) dX5_mayClamp_1 (fX5_152 l) rfl (T0_cab (by omega) (by omega)) (by omega) rfl ?_
  refine g_bipush (x := 15) dX5_mayClamp_4 (by decide) ?_
  refine g_icmp_lt (tgt := 39) dX5_mayClamp_6 (by decide) (fun c6 => ?_) (fun c6 => ?_)
  · refine g_iconst (x := 0) dX5_mayClamp_39 (by decide) ?_
    exact g_iret dX5_mayClamp_40 (Or.inr ⟨rfl, Or.inl rfl⟩) ⟨congrArg gK1 (by first | rw [if_neg (fun z => by have := z.1; omega)] | rw [if_neg (fun z => c13 z.2.1)] | (split at c32; (rename_i q; rw [if_neg (fun z => by rw [z.2.2] at q; cases q)]); omega)), rfl⟩
  · refine g_aload_n dX5_mayClamp_9 rfl rfl ?_
    refine c_getI (x := (S.1) 1 4) dX5_mayClamp_10 (fX5_36 l) rfl rfl (by omega) rfl ?_
    refine g_if_ne (tgt := 39) dX5_mayClamp_13 (by decide) (fun c13 => ?_) (fun c13 => ?_)
    · refine g_iconst (x := 0) dX5_mayClamp_39 (by decide) ?_
      exact g_iret dX5_mayClamp_40 (Or.inr ⟨rfl, Or.inl rfl⟩) ⟨congrArg gK1 (by first | rw [if_neg (fun z => by have := z.1; omega)] | rw [if_neg (fun z => c13 z.2.1)] | (split at c32; (rename_i q; rw [if_neg (fun z => by rw [z.2.2] at q; cases q)]); omega)), rfl⟩
    · refine g_aload_n dX5_mayClamp_16 rfl rfl ?_
      refine p_getR (o := some 2) dX5_mayClamp_17 (fX5_10 l) (by decide) rfl (by omega) rfl ?_
      refine g_aload_n dX5_mayClamp_20 rfl rfl ?_
      refine c_getI (x := (s : Int)) dX5_mayClamp_21 (fX5_230 l) rfl (T0_st (by omega)) (by omega) hnum ?_
      refine g_aload_n dX5_mayClamp_24 rfl rfl ?_
      refine g_aload_n dX5_mayClamp_25 rfl rfl ?_
      refine g_Vi1 dX5_mayClamp_26 (sX5_mayClamp_26 l) rfl (by show 1 < 87; omega) (Nat.le_of_ble_eq_true rfl) (cX5_spacing l hs) ?_
      refine g_Vi2 dX5_mayClamp_29 (sX5_mayClamp_29 l) rfl (by show 2 < 87; omega) (Nat.le_of_ble_eq_true rfl) (gMi_to (if oNear S.1 (s : Int) (oSpc S s) = true then 0 else 1) (cX1_isClear l) rfl) ?_
      refine g_if_eq (tgt := 39) dX5_mayClamp_32 (by decide) (fun c32 => ?_) (fun c32 => ?_)
      · refine g_iconst (x := 0) dX5_mayClamp_39 (by decide) ?_
        exact g_iret dX5_mayClamp_40 (Or.inr ⟨rfl, Or.inl rfl⟩) ⟨congrArg gK1 (by first | rw [if_neg (fun z => by have := z.1; omega)] | rw [if_neg (fun z => c13 z.2.1)] | (split at c32; (rename_i q; rw [if_neg (fun z => by rw [z.2.2] at q; cases q)]); omega)), rfl⟩
      · refine g_iconst (x := 1) dX5_mayClamp_35 (by decide) ?_
        refine g_goto (tgt := 40) dX5_mayClamp_36 (by decide) ?_
        exact g_iret dX5_mayClamp_40 (Or.inr ⟨rfl, Or.inr rfl⟩) ⟨congrArg gK1 (by split at c32; omega; rename_i q; rw [if_pos ⟨c6, c13, Bool.eq_false_iff.mpr q⟩]), rfl⟩
end
section
/-! contracts: the desk at a tick -/
theorem oNear_age {C : Nat → Nat → Int} {n : Nat} {x s d : Int} : oNear (up C n 5 x) s d = oNear C s d := by
  unfold oNear
  refine anyTo_congr 60 (fun j hj => ?_)
  rw [up_slot (by omega), up_slot (by omega), up_slot (by omega)]
theorem oSpc_age {S : sT} {n s : Nat} {x : Int} (h : 4 ≤ n) : oSpc (up S.1 n 5 x, S.2) s = oSpc S s := by
  unfold oSpc
  dsimp only
  rw [up_cell (by omega)]
set_option maxHeartbeats 1000000 in
theorem cX5_workZones (l : Launch) {L : Nat} {S : sT} {M : Nat → Nat → Int} (hw : Wf S) {s : Nat} (hs : s < 2) : gMv (gπ l) mX5_workZones yX5_workZones [gR (some 1), gR (some (70 + 2 * s))] (hS L S M) (hS L (oZones S s 12) M) := by
  refine gMet_of pnX5 rfl rfl rfl (Nat.le_of_ble_eq_true rfl) (gAr (gAr gAn)) ?_
  show G (gπ l) mX5_workZones 0 [gR (some 1), gR (some (70 + 2 * s)), gU, gU] [] (hS L S M) 0 0 _
  have loop : ∀ (z : Nat) (S : sT), z ≤ 12 → Wf S → ∀ e3 : gV, G (gπ l) mX5_workZones 3 [gR (some 1), gR (some (70 + 2 * s)), gI (z : Int), e3] [] (hS L S M) 0 0 (fun r k9 => r = some none ∧ k9 = hS L (oZones S s z) M) := by
    intro z
    induction z with
    | zero =>
      intro S hz hw e3
      refine g_iload_n dX5_workZones_3 rfl rfl ?_
      refine g_iconst (x := 1) dX5_workZones_4 (by decide) ?_
      refine g_icmp_lt (tgt := 79) dX5_workZones_5 (by decide) (fun c5 => ?_) (fun c5 => absurd c5 (by omega))
      exact g_vret dX5_workZones_79 rfl ⟨rfl, rfl⟩
    | succ z ih =>
      intro S hz hw e3
      have hnum := hw.1 s hs
      refine g_iload_n dX5_workZones_3 rfl rfl ?_
      refine g_iconst (x := 1) dX5_workZones_4 (by decide) ?_
      refine g_icmp_lt (tgt := 79) dX5_workZones_5 (by decide) (fun c5 => absurd c5 (by omega)) (fun c5 => ?_)
      refine g_aload_n dX5_workZones_8 rfl rfl ?_
      refine p_getR (o := some (71 + 2 * s)) dX5_workZones_9 (fX5_82 l) (by decide) (T0_st (by omega)) (by omega) (rr_zs (by omega)) ?_
      refine g_iload_n dX5_workZones_12 rfl rfl ?_
      refine p_aald (ci := 0) (len := 13) (o := S.2.1 s (z + 1)) (kc0 l) dX5_workZones_13 (T0_zones (by omega)) (by omega) (by omega) (by omega) (rr_zone (by omega)) ?_
      refine e_astore_n (loc' := [gR (some 1), gR (some (70 + 2 * s)), gI ((z + 1 : Nat) : Int), gR (S.2.1 s (z + 1))]) dX5_workZones_14 rfl (by decide) rfl ?_
      refine g_aload_n dX5_workZones_15 rfl rfl ?_
      refine g_ifnull (tgt := 73) dX5_workZones_16 (by decide) (fun c16 => ?_) (fun n16 c16 => ?_)
      · rw [c16]
        refine e_iinc (v := (z : Int)) (loc' := [gR (some 1), gR (some (70 + 2 * s)), gI ((z : Int)), gR (none)]) dX5_workZones_73 (by decide) rfl (by rw [gadd_eq (by omega) (by omega)]; omega) rfl ?_
        refine g_goto (tgt := 3) dX5_workZones_76 (by decide) ?_
        rw [show oZones S s (z + 1) = oZones (oZone S s (z + 1)) s z from rfl, show oZone S s (z + 1) = S from by unfold oZone; rw [c16]]
        exact ih S (by omega) hw _
      · rw [c16]
        obtain ⟨h1, h2⟩ := hw.2.1 s (z + 1) n16 c16
        refine g_aload_n dX5_workZones_19 rfl rfl ?_
        refine g_dupR dX5_workZones_20 ?_
        refine c_getI (x := S.1 n16 5) dX5_workZones_21 (fX5_152 l) rfl (T0_cab (by omega) (by omega)) (by omega) rfl ?_
        refine g_iconst (x := 1) dX5_workZones_24 (by decide) ?_
        refine e_iadd (v := gadd (S.1 n16 5) 1) dX5_workZones_25 rfl ?_
        refine c_putI dX5_workZones_26 (fX5_152 l) gTX0 ⟨rfl, rfl⟩ rfl (T0_cab (by omega) (by omega)) (by omega) (by omega) ?_
        refine g_iload_n dX5_workZones_29 rfl rfl ?_
        refine g_bipush (x := 12) dX5_workZones_30 (by decide) ?_
        refine g_icmp_ge (tgt := 43) dX5_workZones_32 (by decide) (fun c32 => ?_) (fun c32 => ?_)
        · refine g_aload_n dX5_workZones_43 rfl rfl ?_
          refine g_Vi0 dX5_workZones_44 (sX5_workZones_44 l) (T0_cab (by omega) (by omega)) (by show n16 < 87; omega) (Nat.le_of_ble_eq_true rfl) (gMi_to (if 0 ≤ S.1 n16 6 then 1 else 0) (cX0_isClamping l h1 h2) (by rw [up_slot (by omega)])) ?_
          refine g_if_eq (tgt := 59) dX5_workZones_47 (by decide) (fun c47 => ?_) (fun c47 => ?_)
          · have c8 : ¬ 0 ≤ S.1 n16 6 := by split at c47 <;> omega
            refine g_aload_n dX5_workZones_59 rfl rfl ?_
            refine g_aload_n dX5_workZones_60 rfl rfl ?_
            refine g_aload_n dX5_workZones_61 rfl rfl ?_
            refine g_Vi2 dX5_workZones_62 (sX5_workZones_62 l) rfl (by show 1 < 87; omega) (Nat.le_of_ble_eq_true rfl) (gMi_to (if 15 ≤ gadd (S.1 n16 5) 1 ∧ S.1 1 4 = 0 ∧ oNear S.1 (s : Int) (oSpc S s) = false then 1 else 0) (cX5_mayClamp l (S := (up S.1 n16 5 (gadd (S.1 n16 5) 1), S.2)) hs (by dsimp only; rw [up_cell (by omega)]; exact hnum) h1 h2) (by simp only [up_same, up_cell (show (1 : Nat) ≠ n16 by omega), oNear_age, oSpc_age h1])) ?_
            refine g_if_eq (tgt := 73) dX5_workZones_65 (by decide) (fun c65 => ?_) (fun c65 => ?_)
            · have c7 : ¬ (15 ≤ gadd (S.1 n16 5) 1 ∧ S.1 1 4 = 0 ∧ oNear S.1 (s : Int) (oSpc S s) = false) := by split at c65; omega; assumption
              refine e_iinc (v := (z : Int)) (loc' := [gR (some 1), gR (some (70 + 2 * s)), gI ((z : Int)), gR (some n16)]) dX5_workZones_73 (by decide) rfl (by rw [gadd_eq (by omega) (by omega)]; omega) rfl ?_
              refine g_goto (tgt := 3) dX5_workZones_76 (by decide) ?_
              have e : oZone S s (z + 1) = (up S.1 n16 5 (gadd (S.1 n16 5) 1), S.2) := by unfold oZone; rw [c16]; dsimp only; rw [if_neg (by omega), if_neg c8, if_neg c7]
              rw [show oZones S s (z + 1) = oZones (oZone S s (z + 1)) s z from rfl]
              refine g_eq rfl ?_ (ih (oZone S s (z + 1)) (by omega) (hw.zone hs) _)
              rw [e]
              first | done | rfl
            · have c7 : 15 ≤ gadd (S.1 n16 5) 1 ∧ S.1 1 4 = 0 ∧ oNear S.1 (s : Int) (oSpc S s) = false := by split at c65; assumption; omega
              refine g_aload_n dX5_workZones_68 rfl rfl ?_
              refine g_iconst (x := 0) dX5_workZones_69 (by decide) ?_
              refine c_putI dX5_workZones_70 (fX5_155 l) gTX0 ⟨rfl, rfl⟩ rfl (T0_cab (by omega) (by omega)) (by omega) (by omega) ?_
              refine e_iinc (v := (z : Int)) (loc' := [gR (some 1), gR (some (70 + 2 * s)), gI ((z : Int)), gR (some n16)]) dX5_workZones_73 (by decide) rfl (by rw [gadd_eq (by omega) (by omega)]; omega) rfl ?_
              refine g_goto (tgt := 3) dX5_workZones_76 (by decide) ?_
              have e : oZone S s (z + 1) = (up (up S.1 n16 5 (gadd (S.1 n16 5) 1)) n16 6 0, S.2) := by unfold oZone; rw [c16]; dsimp only; rw [if_neg (by omega), if_neg c8, if_pos c7]
              rw [show oZones S s (z + 1) = oZones (oZone S s (z + 1)) s z from rfl]
              refine g_eq rfl ?_ (ih (oZone S s (z + 1)) (by omega) (hw.zone hs) _)
              rw [e]
              first | done | rfl
          · have c8 : 0 ≤ S.1 n16 6 := by split at c47 <;> omega
            refine g_aload_n dX5_workZones_50 rfl rfl ?_
            refine g_aload_n dX5_workZones_51 rfl rfl ?_
            refine g_aload_n dX5_workZones_52 rfl rfl ?_
            refine g_Vv2 dX5_workZones_53 (sX5_workZones_53 l) rfl (by show 1 < 87; omega) (Nat.le_of_ble_eq_true rfl) (cX5_goOnClamping l (S := (up S.1 n16 5 (gadd (S.1 n16 5) 1), S.2)) (hw.cab h1 h2 (by omega)) hs (by dsimp only; rw [up_cell (by omega)]; exact hnum) h1 h2) ?_
            refine g_goto (tgt := 73) dX5_workZones_56 (by decide) ?_
            refine e_iinc (v := (z : Int)) (loc' := [gR (some 1), gR (some (70 + 2 * s)), gI ((z : Int)), gR (some n16)]) dX5_workZones_73 (by decide) rfl (by rw [gadd_eq (by omega) (by omega)]; omega) rfl ?_
            refine g_goto (tgt := 3) dX5_workZones_76 (by decide) ?_
            have e : oZone S s (z + 1) = oClamp (up S.1 n16 5 (gadd (S.1 n16 5) 1), S.2) s n16 := by unfold oZone; rw [c16]; dsimp only; rw [if_neg (by omega), if_pos c8]
            rw [show oZones S s (z + 1) = oZones (oZone S s (z + 1)) s z from rfl]
            refine g_eq rfl ?_ (ih (oZone S s (z + 1)) (by omega) (hw.zone hs) _)
            rw [e]
            first | done | rfl
        · by_cases c9 : 15 ≤ gadd (S.1 n16 5) 1 ∧ S.2.1 s (z + 1 + 1) = none
          · refine g_aload_n dX5_workZones_35 rfl rfl ?_
            refine g_iload_n dX5_workZones_36 rfl rfl ?_
            refine g_Vv1 dX5_workZones_37 (sX5_workZones_37 l) (T0_st (by omega)) (by show 70 + 2 * s < 87; omega) (Nat.le_of_ble_eq_true rfl) (cX3_goOn_go l (C := up S.1 n16 5 (gadd (S.1 n16 5) 1)) (Z := S.2.1) (R := S.2.2) hs (by rw [up_cell (by omega)]; exact hnum) h1 h2 (z := z + 1) (by omega) c16 (by rw [up_same]; exact c9.1) c9.2) ?_
            refine g_goto (tgt := 73) dX5_workZones_40 (by decide) ?_
            refine e_iinc (v := (z : Int)) (loc' := [gR (some 1), gR (some (70 + 2 * s)), gI ((z : Int)), gR (some n16)]) dX5_workZones_73 (by decide) rfl (by rw [gadd_eq (by omega) (by omega)]; omega) rfl ?_
            refine g_goto (tgt := 3) dX5_workZones_76 (by decide) ?_
            have e : oZone S s (z + 1) = (sAdm (up S.1 n16 5 (gadd (S.1 n16 5) 1)) n16 s ((z + 1 + 1 : Nat) : Int), up (up S.2.1 s (z + 1) none) s (z + 1 + 1) (some n16), S.2.2) := by unfold oZone; rw [c16]; dsimp only; rw [if_pos (by omega), if_pos c9]
            rw [show oZones S s (z + 1) = oZones (oZone S s (z + 1)) s z from rfl]
            refine g_eq rfl ?_ (ih (oZone S s (z + 1)) (by omega) (hw.zone hs) _)
            rw [e]
            first | done | rfl
          · refine g_aload_n dX5_workZones_35 rfl rfl ?_
            refine g_iload_n dX5_workZones_36 rfl rfl ?_
            refine g_Vv1 dX5_workZones_37 (sX5_workZones_37 l) (T0_st (by omega)) (by show 70 + 2 * s < 87; omega) (Nat.le_of_ble_eq_true rfl) (cX3_goOn_stay l (C := up S.1 n16 5 (gadd (S.1 n16 5) 1)) (Z := S.2.1) (R := S.2.2) hs (by rw [up_cell (by omega)]; exact hnum) h1 h2 (z := z + 1) (by omega) c16 (by rw [up_same]; by_cases q : 15 ≤ gadd (S.1 n16 5) 1; (right; cases hq : S.2.1 s (z + 1 + 1) with | none => exact absurd ⟨q, hq⟩ c9 | some v => exact ⟨v, rfl⟩); (left; omega))) ?_
            refine g_goto (tgt := 73) dX5_workZones_40 (by decide) ?_
            refine e_iinc (v := (z : Int)) (loc' := [gR (some 1), gR (some (70 + 2 * s)), gI ((z : Int)), gR (some n16)]) dX5_workZones_73 (by decide) rfl (by rw [gadd_eq (by omega) (by omega)]; omega) rfl ?_
            refine g_goto (tgt := 3) dX5_workZones_76 (by decide) ?_
            have e : oZone S s (z + 1) = (up S.1 n16 5 (gadd (S.1 n16 5) 1), S.2) := by unfold oZone; rw [c16]; dsimp only; rw [if_pos (by omega), if_neg c9]
            rw [show oZones S s (z + 1) = oZones (oZone S s (z + 1)) s z from rfl]
            refine g_eq rfl ?_ (ih (oZone S s (z + 1)) (by omega) (hw.zone hs) _)
            rw [e]
            first | done | rfl
  refine g_bipush (x := 12) dX5_workZones_0 (by decide) ?_
  refine e_istore_n (loc' := [gR (some 1), gR (some (70 + 2 * s)), gI 12, gU]) dX5_workZones_2 rfl (by decide) rfl ?_
  exact loop 12 S (by omega) hw gU
set_option maxHeartbeats 1000000 in
theorem cX5_isArrivalHeldUp (l : Launch) {L : Nat} {S : sT} {M : Nat → Nat → Int}  : gMi (gπ l) mX5_isArrivalHeldUp yX5_isArrivalHeldUp [gR (some 1)] (hS L S M) (if oHeld S = true then 1 else 0) (hS L S M) := by
  refine gMet_of pnX5 rfl rfl rfl (Nat.le_of_ble_eq_true rfl) (gAr gAn) ?_
  show G (gπ l) mX5_isArrivalHeldUp 0 [gR (some 1), gU] [] (hS L S M) 0 0 _
  refine g_iconst (x := 0) dX5_isArrivalHeldUp_0 (by decide) ?_
  refine e_istore_n (loc' := [gR (some 1), gI 0]) dX5_isArrivalHeldUp_1 rfl (by decide) rfl ?_
  refine g_iload_n dX5_isArrivalHeldUp_2 rfl rfl ?_
  refine g_iconst (x := 2) dX5_isArrivalHeldUp_3 (by decide) ?_
  refine g_icmp_ge (tgt := 42) dX5_isArrivalHeldUp_4 (by decide) (fun c4 => absurd c4 (by omega)) (fun c4 => ?_)
  refine g_aload_n dX5_isArrivalHeldUp_7 rfl rfl ?_
  refine p_getR (o := some 64) dX5_isArrivalHeldUp_8 (fX5_18 l) (by decide) rfl (by omega) rfl ?_
  refine g_iload_n dX5_isArrivalHeldUp_11 rfl rfl ?_
  refine p_aald (ci := 3) (len := 2) (o := some (70 + 2 * 0)) (kc3 l) dX5_isArrivalHeldUp_12 rfl (by omega) (by omega) (by omega) (rr_st (by omega)) ?_
  refine p_getR (o := some (71 + 2 * 0)) dX5_isArrivalHeldUp_13 (fX5_82 l) (by decide) (T0_st (by omega)) (by omega) (rr_zs (by omega)) ?_
  refine g_iconst (x := 1) dX5_isArrivalHeldUp_16 (by decide) ?_
  refine p_aald (ci := 0) (len := 13) (o := S.2.1 0 1) (kc0 l) dX5_isArrivalHeldUp_17 (T0_zones (by omega)) (by omega) (by omega) (by omega) (rr_zone (by omega)) ?_
  refine g_ifnull (tgt := 36) dX5_isArrivalHeldUp_18 (by decide) (fun c18 => ?_) (fun n18 c18 => ?_)
  · refine e_iinc (v := 1) (loc' := [gR (some 1), gI (1)]) dX5_isArrivalHeldUp_36 (by decide) rfl (by rw [gadd_eq (by omega) (by omega)]; rfl) rfl ?_
    refine g_goto (tgt := 2) dX5_isArrivalHeldUp_39 (by decide) ?_
    refine g_iload_n dX5_isArrivalHeldUp_2 rfl rfl ?_
    refine g_iconst (x := 2) dX5_isArrivalHeldUp_3 (by decide) ?_
    refine g_icmp_ge (tgt := 42) dX5_isArrivalHeldUp_4 (by decide) (fun c4 => absurd c4 (by omega)) (fun c4 => ?_)
    refine g_aload_n dX5_isArrivalHeldUp_7 rfl rfl ?_
    refine p_getR (o := some 64) dX5_isArrivalHeldUp_8 (fX5_18 l) (by decide) rfl (by omega) rfl ?_
    refine g_iload_n dX5_isArrivalHeldUp_11 rfl rfl ?_
    refine p_aald (ci := 3) (len := 2) (o := some (70 + 2 * 1)) (kc3 l) dX5_isArrivalHeldUp_12 rfl (by omega) (by omega) (by omega) (rr_st (by omega)) ?_
    refine p_getR (o := some (71 + 2 * 1)) dX5_isArrivalHeldUp_13 (fX5_82 l) (by decide) (T0_st (by omega)) (by omega) (rr_zs (by omega)) ?_
    refine g_iconst (x := 1) dX5_isArrivalHeldUp_16 (by decide) ?_
    refine p_aald (ci := 0) (len := 13) (o := S.2.1 1 1) (kc0 l) dX5_isArrivalHeldUp_17 (T0_zones (by omega)) (by omega) (by omega) (by omega) (rr_zone (by omega)) ?_
    refine g_ifnull (tgt := 36) dX5_isArrivalHeldUp_18 (by decide) (fun c18 => ?_) (fun n18 c18 => ?_)
    · refine e_iinc (v := 2) (loc' := [gR (some 1), gI (2)]) dX5_isArrivalHeldUp_36 (by decide) rfl (by rw [gadd_eq (by omega) (by omega)]; rfl) rfl ?_
      refine g_goto (tgt := 2) dX5_isArrivalHeldUp_39 (by decide) ?_
      refine g_iload_n dX5_isArrivalHeldUp_2 rfl rfl ?_
      refine g_iconst (x := 2) dX5_isArrivalHeldUp_3 (by decide) ?_
      refine g_icmp_ge (tgt := 42) dX5_isArrivalHeldUp_4 (by decide) (fun c4 => ?_) (fun c4 => absurd c4 (by omega))
      refine g_iconst (x := 0) dX5_isArrivalHeldUp_42 (by decide) ?_
      exact g_iret dX5_isArrivalHeldUp_43 (Or.inr ⟨rfl, Or.inl rfl⟩) ⟨congrArg gK1 (by unfold oHeld; simp_all), rfl⟩
    · refine g_aload_n dX5_isArrivalHeldUp_21 rfl rfl ?_
      refine p_getR (o := some 2) dX5_isArrivalHeldUp_22 (fX5_10 l) (by decide) rfl (by omega) rfl ?_
      refine g_iconst (x := 1) dX5_isArrivalHeldUp_25 (by decide) ?_
      refine g_iload_n dX5_isArrivalHeldUp_26 rfl rfl ?_
      refine e_isub (v := 0) dX5_isArrivalHeldUp_27 (by rw [gsub_eq (by omega) (by omega)]; rfl) ?_
      refine g_Vi1 dX5_isArrivalHeldUp_28 (sX5_isArrivalHeldUp_28 l) rfl (by show 2 < 87; omega) (Nat.le_of_ble_eq_true rfl) (cX1_hasNearEnd l) ?_
      refine g_if_eq (tgt := 36) dX5_isArrivalHeldUp_31 (by decide) (fun c31 => ?_) (fun c31 => ?_)
      · refine e_iinc (v := 2) (loc' := [gR (some 1), gI (2)]) dX5_isArrivalHeldUp_36 (by decide) rfl (by rw [gadd_eq (by omega) (by omega)]; rfl) rfl ?_
        refine g_goto (tgt := 2) dX5_isArrivalHeldUp_39 (by decide) ?_
        refine g_iload_n dX5_isArrivalHeldUp_2 rfl rfl ?_
        refine g_iconst (x := 2) dX5_isArrivalHeldUp_3 (by decide) ?_
        refine g_icmp_ge (tgt := 42) dX5_isArrivalHeldUp_4 (by decide) (fun c4 => ?_) (fun c4 => absurd c4 (by omega))
        refine g_iconst (x := 0) dX5_isArrivalHeldUp_42 (by decide) ?_
        exact g_iret dX5_isArrivalHeldUp_43 (Or.inr ⟨rfl, Or.inl rfl⟩) ⟨congrArg gK1 (by unfold oHeld; simp_all), rfl⟩
      · refine g_iconst (x := 1) dX5_isArrivalHeldUp_34 (by decide) ?_
        exact g_iret dX5_isArrivalHeldUp_35 (Or.inr ⟨rfl, Or.inr rfl⟩) ⟨congrArg gK1 (by unfold oHeld; simp_all), rfl⟩
  · refine g_aload_n dX5_isArrivalHeldUp_21 rfl rfl ?_
    refine p_getR (o := some 2) dX5_isArrivalHeldUp_22 (fX5_10 l) (by decide) rfl (by omega) rfl ?_
    refine g_iconst (x := 1) dX5_isArrivalHeldUp_25 (by decide) ?_
    refine g_iload_n dX5_isArrivalHeldUp_26 rfl rfl ?_
    refine e_isub (v := 1) dX5_isArrivalHeldUp_27 (by rw [gsub_eq (by omega) (by omega)]; rfl) ?_
    refine g_Vi1 dX5_isArrivalHeldUp_28 (sX5_isArrivalHeldUp_28 l) rfl (by show 2 < 87; omega) (Nat.le_of_ble_eq_true rfl) (cX1_hasNearEnd l) ?_
    refine g_if_eq (tgt := 36) dX5_isArrivalHeldUp_31 (by decide) (fun c31 => ?_) (fun c31 => ?_)
    · refine e_iinc (v := 1) (loc' := [gR (some 1), gI (1)]) dX5_isArrivalHeldUp_36 (by decide) rfl (by rw [gadd_eq (by omega) (by omega)]; rfl) rfl ?_
      refine g_goto (tgt := 2) dX5_isArrivalHeldUp_39 (by decide) ?_
      refine g_iload_n dX5_isArrivalHeldUp_2 rfl rfl ?_
      refine g_iconst (x := 2) dX5_isArrivalHeldUp_3 (by decide) ?_
      refine g_icmp_ge (tgt := 42) dX5_isArrivalHeldUp_4 (by decide) (fun c4 => absurd c4 (by omega)) (fun c4 => ?_)
      refine g_aload_n dX5_isArrivalHeldUp_7 rfl rfl ?_
      refine p_getR (o := some 64) dX5_isArrivalHeldUp_8 (fX5_18 l) (by decide) rfl (by omega) rfl ?_
      refine g_iload_n dX5_isArrivalHeldUp_11 rfl rfl ?_
      refine p_aald (ci := 3) (len := 2) (o := some (70 + 2 * 1)) (kc3 l) dX5_isArrivalHeldUp_12 rfl (by omega) (by omega) (by omega) (rr_st (by omega)) ?_
      refine p_getR (o := some (71 + 2 * 1)) dX5_isArrivalHeldUp_13 (fX5_82 l) (by decide) (T0_st (by omega)) (by omega) (rr_zs (by omega)) ?_
      refine g_iconst (x := 1) dX5_isArrivalHeldUp_16 (by decide) ?_
      refine p_aald (ci := 0) (len := 13) (o := S.2.1 1 1) (kc0 l) dX5_isArrivalHeldUp_17 (T0_zones (by omega)) (by omega) (by omega) (by omega) (rr_zone (by omega)) ?_
      refine g_ifnull (tgt := 36) dX5_isArrivalHeldUp_18 (by decide) (fun c18 => ?_) (fun n18 c18 => ?_)
      · refine e_iinc (v := 2) (loc' := [gR (some 1), gI (2)]) dX5_isArrivalHeldUp_36 (by decide) rfl (by rw [gadd_eq (by omega) (by omega)]; rfl) rfl ?_
        refine g_goto (tgt := 2) dX5_isArrivalHeldUp_39 (by decide) ?_
        refine g_iload_n dX5_isArrivalHeldUp_2 rfl rfl ?_
        refine g_iconst (x := 2) dX5_isArrivalHeldUp_3 (by decide) ?_
        refine g_icmp_ge (tgt := 42) dX5_isArrivalHeldUp_4 (by decide) (fun c4 => ?_) (fun c4 => absurd c4 (by omega))
        refine g_iconst (x := 0) dX5_isArrivalHeldUp_42 (by decide) ?_
        exact g_iret dX5_isArrivalHeldUp_43 (Or.inr ⟨rfl, Or.inl rfl⟩) ⟨congrArg gK1 (by unfold oHeld; simp_all), rfl⟩
      · refine g_aload_n dX5_isArrivalHeldUp_21 rfl rfl ?_
        refine p_getR (o := some 2) dX5_isArrivalHeldUp_22 (fX5_10 l) (by decide) rfl (by omega) rfl ?_
        refine g_iconst (x := 1) dX5_isArrivalHeldUp_25 (by decide) ?_
        refine g_iload_n dX5_isArrivalHeldUp_26 rfl rfl ?_
        refine e_isub (v := 0) dX5_isArrivalHeldUp_27 (by rw [gsub_eq (by omega) (by omega)]; rfl) ?_
        refine g_Vi1 dX5_isArrivalHeldUp_28 (sX5_isArrivalHeldUp_28 l) rfl (by show 2 < 87; omega) (Nat.le_of_ble_eq_true rfl) (cX1_hasNearEnd l) ?_
        refine g_if_eq (tgt := 36) dX5_isArrivalHeldUp_31 (by decide) (fun c31 => ?_) (fun c31 => ?_)
        · refine e_iinc (v := 2) (loc' := [gR (some 1), gI (2)]) dX5_isArrivalHeldUp_36 (by decide) rfl (by rw [gadd_eq (by omega) (by omega)]; rfl) rfl ?_
          refine g_goto (tgt := 2) dX5_isArrivalHeldUp_39 (by decide) ?_
          refine g_iload_n dX5_isArrivalHeldUp_2 rfl rfl ?_
          refine g_iconst (x := 2) dX5_isArrivalHeldUp_3 (by decide) ?_
          refine g_icmp_ge (tgt := 42) dX5_isArrivalHeldUp_4 (by decide) (fun c4 => ?_) (fun c4 => absurd c4 (by omega))
          refine g_iconst (x := 0) dX5_isArrivalHeldUp_42 (by decide) ?_
          exact g_iret dX5_isArrivalHeldUp_43 (Or.inr ⟨rfl, Or.inl rfl⟩) ⟨congrArg gK1 (by unfold oHeld; simp_all), rfl⟩
        · refine g_iconst (x := 1) dX5_isArrivalHeldUp_34 (by decide) ?_
          exact g_iret dX5_isArrivalHeldUp_35 (Or.inr ⟨rfl, Or.inr rfl⟩) ⟨congrArg gK1 (by unfold oHeld; simp_all), rfl⟩
    · refine g_iconst (x := 1) dX5_isArrivalHeldUp_34 (by decide) ?_
      exact g_iret dX5_isArrivalHeldUp_35 (Or.inr ⟨rfl, Or.inr rfl⟩) ⟨congrArg gK1 (by unfold oHeld; simp_all), rfl⟩
set_option maxHeartbeats 1000000 in
theorem cX5_targetSpeed (l : Launch) {L : Nat} {S : sT} {M : Nat → Nat → Int}  : gMi (gπ l) mX5_targetSpeed yX5_targetSpeed [gR (some 1)] (hS L S M) (oTarget S) (hS L S M) := by
  refine gMet_of pnX5 rfl rfl rfl (Nat.le_of_ble_eq_true rfl) (gAr gAn) ?_
  show G (gπ l) mX5_targetSpeed 0 [gR (some 1)] [] (hS L S M) 0 0 _
  refine g_aload_n dX5_targetSpeed_0 rfl rfl ?_
  refine c_getI (x := S.1 1 4) dX5_targetSpeed_1 (fX5_36 l) rfl rfl (by omega) rfl ?_
  refine g_if_ne (tgt := 14) dX5_targetSpeed_4 (by decide) (fun c4 => ?_) (fun c4 => ?_)
  · refine g_iconst (x := 0) dX5_targetSpeed_14 (by decide) ?_
    exact g_iret dX5_targetSpeed_15 (Or.inl rfl) ⟨congrArg gK1 (by unfold oTarget; first | rw [if_pos c4] | (rw [if_neg (by simpa using c4)]; split at c11; (rename_i q; rw [if_pos q]); omega)), rfl⟩
  · refine g_aload_n dX5_targetSpeed_7 rfl rfl ?_
    refine g_Vi0 dX5_targetSpeed_8 (sX5_targetSpeed_8 l) rfl (by show 1 < 87; omega) (Nat.le_of_ble_eq_true rfl) (cX5_isArrivalHeldUp l) ?_
    refine g_if_eq (tgt := 16) dX5_targetSpeed_11 (by decide) (fun c11 => ?_) (fun c11 => ?_)
    · refine g_aload_n dX5_targetSpeed_16 rfl rfl ?_
      refine p_getR (o := some 67) dX5_targetSpeed_17 (fX5_32 l) (by decide) rfl (by omega) rfl ?_
      refine c_getI (x := S.1 67 4) dX5_targetSpeed_20 (fX5_177 l) rfl rfl (by omega) rfl ?_
      refine g_sipush (x := 180) dX5_targetSpeed_23 (by decide) ?_
      refine g_icmp_le (tgt := 40) dX5_targetSpeed_26 (by decide) (fun c26 => ?_) (fun c26 => ?_)
      · refine g_aload_n dX5_targetSpeed_40 rfl rfl ?_
        refine c_getI (x := S.1 1 6) dX5_targetSpeed_41 (fX5_43 l) rfl rfl (by omega) rfl ?_
        exact g_iret dX5_targetSpeed_44 (Or.inl rfl) ⟨congrArg gK1 (by unfold oTarget; rw [if_neg (by simpa using c4)]; split at c11; omega; rename_i q; rw [if_neg q]; first | rw [if_pos c26] | rw [if_neg (by omega)]), rfl⟩
      · refine g_aload_n dX5_targetSpeed_29 rfl rfl ?_
        refine c_getI (x := S.1 1 6) dX5_targetSpeed_30 (fX5_43 l) rfl rfl (by omega) rfl ?_
        refine g_iconst (x := 2) dX5_targetSpeed_33 (by decide) ?_
        refine g_min dX5_targetSpeed_34 aX5_203 ⟨by decide, Nat.le_of_ble_eq_true rfl⟩ ?_
        refine g_goto (tgt := 44) dX5_targetSpeed_37 (by decide) ?_
        exact g_iret dX5_targetSpeed_44 (Or.inl rfl) ⟨congrArg gK1 (by unfold oTarget; rw [if_neg (by simpa using c4)]; split at c11; omega; rename_i q; rw [if_neg q]; first | rw [if_pos c26] | rw [if_neg (by omega)]), rfl⟩
    · refine g_iconst (x := 0) dX5_targetSpeed_14 (by decide) ?_
      exact g_iret dX5_targetSpeed_15 (Or.inl rfl) ⟨congrArg gK1 (by unfold oTarget; first | rw [if_pos c4] | (rw [if_neg (by simpa using c4)]; split at c11; (rename_i q; rw [if_pos q]); omega)), rfl⟩
end
