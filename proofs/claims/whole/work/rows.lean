section
-- ===== PART A: goes FIRST, ahead of the names: the tables' words, and 'selects' of the private methods out of them =====
/-- a private method of a class that the tables say can be made, by its rows of tables_1 -/
def lw_okq (q : MethodName × Nat) : Prop := (q.1.cls ≠ "java/lang/invoke/MethodHandle" ∧ q.1.cls ≠ "java/lang/invoke/VarHandle") ∧ Cond.instantiable q.1.cls q.2 ∈ tables_1 ∧ Cond.privateMethod q.1 ∈ tables_1 ∧ Cond.instanceMethod q.1 ∈ tables_1
theorem lw_p0 : lw_okq (⟨"java/lang/Throwable", "fillInStackTrace", "(I)Ljava/lang/Throwable;"⟩, 6) := ⟨⟨by decide +kernel, by decide +kernel⟩, List.mem_of_getElem? (i := 205) (by decide +kernel), List.mem_of_getElem? (i := 203) (by decide +kernel), List.mem_of_getElem? (i := 204) (by decide +kernel)⟩
theorem lw_p1 : lw_okq (⟨"ZnodeService", "isLinked", "(I)Z"⟩, 6) := ⟨⟨by decide +kernel, by decide +kernel⟩, List.mem_of_getElem? (i := 17) (by decide +kernel), List.mem_of_getElem? (i := 233) (by decide +kernel), List.mem_of_getElem? (i := 234) (by decide +kernel)⟩
theorem lw_p2 : lw_okq (⟨"ZnodeService", "hasQuorum", "()Z"⟩, 6) := ⟨⟨by decide +kernel, by decide +kernel⟩, List.mem_of_getElem? (i := 17) (by decide +kernel), List.mem_of_getElem? (i := 241) (by decide +kernel), List.mem_of_getElem? (i := 242) (by decide +kernel)⟩
theorem lw_p3 : lw_okq (⟨"ZnodeService", "requireReach", "(I)V"⟩, 6) := ⟨⟨by decide +kernel, by decide +kernel⟩, List.mem_of_getElem? (i := 17) (by decide +kernel), List.mem_of_getElem? (i := 271) (by decide +kernel), List.mem_of_getElem? (i := 272) (by decide +kernel)⟩
theorem lw_p4 : lw_okq (⟨"ZnodeService", "requireQuorum", "()V"⟩, 6) := ⟨⟨by decide +kernel, by decide +kernel⟩, List.mem_of_getElem? (i := 17) (by decide +kernel), List.mem_of_getElem? (i := 275) (by decide +kernel), List.mem_of_getElem? (i := 276) (by decide +kernel)⟩
theorem lw_p5 : lw_okq (⟨"ZnodeService", "closeDueSessions", "()V"⟩, 6) := ⟨⟨by decide +kernel, by decide +kernel⟩, List.mem_of_getElem? (i := 17) (by decide +kernel), List.mem_of_getElem? (i := 292) (by decide +kernel), List.mem_of_getElem? (i := 293) (by decide +kernel)⟩
theorem lw_p6 : lw_okq (⟨"ZnodeService", "appendAndPlan", "(LZnodeService$Entry;)V"⟩, 6) := ⟨⟨by decide +kernel, by decide +kernel⟩, List.mem_of_getElem? (i := 17) (by decide +kernel), List.mem_of_getElem? (i := 326) (by decide +kernel), List.mem_of_getElem? (i := 327) (by decide +kernel)⟩
theorem lw_p7 : lw_okq (⟨"ZnodeService", "spread", "()V"⟩, 6) := ⟨⟨by decide +kernel, by decide +kernel⟩, List.mem_of_getElem? (i := 17) (by decide +kernel), List.mem_of_getElem? (i := 356) (by decide +kernel), List.mem_of_getElem? (i := 357) (by decide +kernel)⟩
theorem lw_p8 : lw_okq (⟨"ZnodeService", "applyLog", "(I)V"⟩, 6) := ⟨⟨by decide +kernel, by decide +kernel⟩, List.mem_of_getElem? (i := 17) (by decide +kernel), List.mem_of_getElem? (i := 364) (by decide +kernel), List.mem_of_getElem? (i := 365) (by decide +kernel)⟩
theorem lw_p9 : lw_okq (⟨"ZnodeService", "isAt", "(II)Z"⟩, 6) := ⟨⟨by decide +kernel, by decide +kernel⟩, List.mem_of_getElem? (i := 17) (by decide +kernel), List.mem_of_getElem? (i := 368) (by decide +kernel), List.mem_of_getElem? (i := 369) (by decide +kernel)⟩
theorem lw_p10 : lw_okq (⟨"ZnodeService$Session", "tellOf", "(II)V"⟩, 8) := ⟨⟨by decide +kernel, by decide +kernel⟩, List.mem_of_getElem? (i := 94) (by decide +kernel), List.mem_of_getElem? (i := 376) (by decide +kernel), List.mem_of_getElem? (i := 377) (by decide +kernel)⟩
theorem lw_p11 : lw_okq (⟨"ZnodeService$Session", "tellWatches", "(III)V"⟩, 8) := ⟨⟨by decide +kernel, by decide +kernel⟩, List.mem_of_getElem? (i := 94) (by decide +kernel), List.mem_of_getElem? (i := 380) (by decide +kernel), List.mem_of_getElem? (i := 381) (by decide +kernel)⟩
theorem lw_p12 : lw_okq (⟨"ZnodeService", "requireOpen", "(I)V"⟩, 6) := ⟨⟨by decide +kernel, by decide +kernel⟩, List.mem_of_getElem? (i := 17) (by decide +kernel), List.mem_of_getElem? (i := 399) (by decide +kernel), List.mem_of_getElem? (i := 400) (by decide +kernel)⟩
theorem lw_p13 : lw_okq (⟨"ZnodeService", "proposeChange", "(LZnodeService$Entry;)V"⟩, 6) := ⟨⟨by decide +kernel, by decide +kernel⟩, List.mem_of_getElem? (i := 17) (by decide +kernel), List.mem_of_getElem? (i := 468) (by decide +kernel), List.mem_of_getElem? (i := 469) (by decide +kernel)⟩
theorem lw_p14 : lw_okq (⟨"ZnodeService", "isOtherVersion", "(II)Z"⟩, 6) := ⟨⟨by decide +kernel, by decide +kernel⟩, List.mem_of_getElem? (i := 17) (by decide +kernel), List.mem_of_getElem? (i := 485) (by decide +kernel), List.mem_of_getElem? (i := 486) (by decide +kernel)⟩
theorem lw_p15 : lw_okq (⟨"ZnodeService", "treeOf", "(I)LZnodeService$Tree;"⟩, 6) := ⟨⟨by decide +kernel, by decide +kernel⟩, List.mem_of_getElem? (i := 17) (by decide +kernel), List.mem_of_getElem? (i := 508) (by decide +kernel), List.mem_of_getElem? (i := 509) (by decide +kernel)⟩
def lw_privs_1 : List (MethodName × Nat) := [(⟨"java/lang/Throwable", "fillInStackTrace", "(I)Ljava/lang/Throwable;"⟩, 6), (⟨"ZnodeService", "isLinked", "(I)Z"⟩, 6), (⟨"ZnodeService", "hasQuorum", "()Z"⟩, 6), (⟨"ZnodeService", "requireReach", "(I)V"⟩, 6), (⟨"ZnodeService", "requireQuorum", "()V"⟩, 6), (⟨"ZnodeService", "closeDueSessions", "()V"⟩, 6), (⟨"ZnodeService", "appendAndPlan", "(LZnodeService$Entry;)V"⟩, 6), (⟨"ZnodeService", "spread", "()V"⟩, 6), (⟨"ZnodeService", "applyLog", "(I)V"⟩, 6), (⟨"ZnodeService", "isAt", "(II)Z"⟩, 6), (⟨"ZnodeService$Session", "tellOf", "(II)V"⟩, 8), (⟨"ZnodeService$Session", "tellWatches", "(III)V"⟩, 8), (⟨"ZnodeService", "requireOpen", "(I)V"⟩, 6), (⟨"ZnodeService", "proposeChange", "(LZnodeService$Entry;)V"⟩, 6), (⟨"ZnodeService", "isOtherVersion", "(II)Z"⟩, 6), (⟨"ZnodeService", "treeOf", "(I)LZnodeService$Tree;"⟩, 6)]
theorem lw_r1 : ∀ q ∈ lw_privs_1, lw_okq q := List.forall_mem_cons.mpr ⟨lw_p0, List.forall_mem_cons.mpr ⟨lw_p1, List.forall_mem_cons.mpr ⟨lw_p2, List.forall_mem_cons.mpr ⟨lw_p3, List.forall_mem_cons.mpr ⟨lw_p4, List.forall_mem_cons.mpr ⟨lw_p5, List.forall_mem_cons.mpr ⟨lw_p6, List.forall_mem_cons.mpr ⟨lw_p7, List.forall_mem_cons.mpr ⟨lw_p8, List.forall_mem_cons.mpr ⟨lw_p9, List.forall_mem_cons.mpr ⟨lw_p10, List.forall_mem_cons.mpr ⟨lw_p11, List.forall_mem_cons.mpr ⟨lw_p12, List.forall_mem_cons.mpr ⟨lw_p13, List.forall_mem_cons.mpr ⟨lw_p14, List.forall_mem_cons.mpr ⟨lw_p15, fun _ h => absurd h List.not_mem_nil⟩⟩⟩⟩⟩⟩⟩⟩⟩⟩⟩⟩⟩⟩⟩⟩
theorem lw_p16 : lw_okq (⟨"ZnodeService", "planAnew", "(LZnodeService$Server;)V"⟩, 6) := ⟨⟨by decide +kernel, by decide +kernel⟩, List.mem_of_getElem? (i := 17) (by decide +kernel), List.mem_of_getElem? (i := 580) (by decide +kernel), List.mem_of_getElem? (i := 581) (by decide +kernel)⟩
theorem lw_p17 : lw_okq (⟨"ZnodeServiceModel", "out", "(II)Z"⟩, 27) := ⟨⟨by decide +kernel, by decide +kernel⟩, List.mem_of_getElem? (i := 617) (by decide +kernel), List.mem_of_getElem? (i := 714) (by decide +kernel), List.mem_of_getElem? (i := 715) (by decide +kernel)⟩
theorem lw_p18 : lw_okq (⟨"ZnodeServiceModel", "fail", "(I)I"⟩, 27) := ⟨⟨by decide +kernel, by decide +kernel⟩, List.mem_of_getElem? (i := 617) (by decide +kernel), List.mem_of_getElem? (i := 718) (by decide +kernel), List.mem_of_getElem? (i := 719) (by decide +kernel)⟩
theorem lw_p19 : lw_okq (⟨"ZnodeServiceModel", "linked", "(I)Z"⟩, 27) := ⟨⟨by decide +kernel, by decide +kernel⟩, List.mem_of_getElem? (i := 617) (by decide +kernel), List.mem_of_getElem? (i := 722) (by decide +kernel), List.mem_of_getElem? (i := 723) (by decide +kernel)⟩
theorem lw_p20 : lw_okq (⟨"ZnodeServiceModel", "fit", "(I)Z"⟩, 27) := ⟨⟨by decide +kernel, by decide +kernel⟩, List.mem_of_getElem? (i := 617) (by decide +kernel), List.mem_of_getElem? (i := 726) (by decide +kernel), List.mem_of_getElem? (i := 727) (by decide +kernel)⟩
theorem lw_p21 : lw_okq (⟨"ZnodeServiceModel", "quorum", "()Z"⟩, 27) := ⟨⟨by decide +kernel, by decide +kernel⟩, List.mem_of_getElem? (i := 617) (by decide +kernel), List.mem_of_getElem? (i := 730) (by decide +kernel), List.mem_of_getElem? (i := 731) (by decide +kernel)⟩
theorem lw_p22 : lw_okq (⟨"ZnodeServiceModel", "end", "(I)I"⟩, 27) := ⟨⟨by decide +kernel, by decide +kernel⟩, List.mem_of_getElem? (i := 617) (by decide +kernel), List.mem_of_getElem? (i := 734) (by decide +kernel), List.mem_of_getElem? (i := 735) (by decide +kernel)⟩
theorem lw_p23 : lw_okq (⟨"ZnodeServiceModel", "planned", "()V"⟩, 27) := ⟨⟨by decide +kernel, by decide +kernel⟩, List.mem_of_getElem? (i := 617) (by decide +kernel), List.mem_of_getElem? (i := 738) (by decide +kernel), List.mem_of_getElem? (i := 739) (by decide +kernel)⟩
theorem lw_p24 : lw_okq (⟨"ZnodeServiceModel", "grow", "(II)V"⟩, 27) := ⟨⟨by decide +kernel, by decide +kernel⟩, List.mem_of_getElem? (i := 617) (by decide +kernel), List.mem_of_getElem? (i := 742) (by decide +kernel), List.mem_of_getElem? (i := 743) (by decide +kernel)⟩
theorem lw_p25 : lw_okq (⟨"ZnodeServiceModel", "plant", "()V"⟩, 27) := ⟨⟨by decide +kernel, by decide +kernel⟩, List.mem_of_getElem? (i := 617) (by decide +kernel), List.mem_of_getElem? (i := 746) (by decide +kernel), List.mem_of_getElem? (i := 747) (by decide +kernel)⟩
theorem lw_p26 : lw_okq (⟨"ZnodeServiceModel", "done", "(II)V"⟩, 27) := ⟨⟨by decide +kernel, by decide +kernel⟩, List.mem_of_getElem? (i := 617) (by decide +kernel), List.mem_of_getElem? (i := 750) (by decide +kernel), List.mem_of_getElem? (i := 751) (by decide +kernel)⟩
theorem lw_p27 : lw_okq (⟨"ZnodeServiceModel", "parent", "(I)I"⟩, 27) := ⟨⟨by decide +kernel, by decide +kernel⟩, List.mem_of_getElem? (i := 617) (by decide +kernel), List.mem_of_getElem? (i := 754) (by decide +kernel), List.mem_of_getElem? (i := 755) (by decide +kernel)⟩
theorem lw_p28 : lw_okq (⟨"ZnodeServiceModel", "tell", "(III)V"⟩, 27) := ⟨⟨by decide +kernel, by decide +kernel⟩, List.mem_of_getElem? (i := 617) (by decide +kernel), List.mem_of_getElem? (i := 758) (by decide +kernel), List.mem_of_getElem? (i := 759) (by decide +kernel)⟩
theorem lw_p29 : lw_okq (⟨"ZnodeServiceModel", "put", "(II)V"⟩, 27) := ⟨⟨by decide +kernel, by decide +kernel⟩, List.mem_of_getElem? (i := 617) (by decide +kernel), List.mem_of_getElem? (i := 762) (by decide +kernel), List.mem_of_getElem? (i := 763) (by decide +kernel)⟩
theorem lw_p30 : lw_okq (⟨"ZnodeServiceModel", "owned", "(I)I"⟩, 27) := ⟨⟨by decide +kernel, by decide +kernel⟩, List.mem_of_getElem? (i := 617) (by decide +kernel), List.mem_of_getElem? (i := 766) (by decide +kernel), List.mem_of_getElem? (i := 767) (by decide +kernel)⟩
theorem lw_p31 : lw_okq (⟨"ZnodeServiceModel", "propose", "(IIII)V"⟩, 27) := ⟨⟨by decide +kernel, by decide +kernel⟩, List.mem_of_getElem? (i := 617) (by decide +kernel), List.mem_of_getElem? (i := 770) (by decide +kernel), List.mem_of_getElem? (i := 771) (by decide +kernel)⟩
def lw_privs_2 : List (MethodName × Nat) := [(⟨"ZnodeService", "planAnew", "(LZnodeService$Server;)V"⟩, 6), (⟨"ZnodeServiceModel", "out", "(II)Z"⟩, 27), (⟨"ZnodeServiceModel", "fail", "(I)I"⟩, 27), (⟨"ZnodeServiceModel", "linked", "(I)Z"⟩, 27), (⟨"ZnodeServiceModel", "fit", "(I)Z"⟩, 27), (⟨"ZnodeServiceModel", "quorum", "()Z"⟩, 27), (⟨"ZnodeServiceModel", "end", "(I)I"⟩, 27), (⟨"ZnodeServiceModel", "planned", "()V"⟩, 27), (⟨"ZnodeServiceModel", "grow", "(II)V"⟩, 27), (⟨"ZnodeServiceModel", "plant", "()V"⟩, 27), (⟨"ZnodeServiceModel", "done", "(II)V"⟩, 27), (⟨"ZnodeServiceModel", "parent", "(I)I"⟩, 27), (⟨"ZnodeServiceModel", "tell", "(III)V"⟩, 27), (⟨"ZnodeServiceModel", "put", "(II)V"⟩, 27), (⟨"ZnodeServiceModel", "owned", "(I)I"⟩, 27), (⟨"ZnodeServiceModel", "propose", "(IIII)V"⟩, 27)]
theorem lw_r2 : ∀ q ∈ lw_privs_2, lw_okq q := List.forall_mem_cons.mpr ⟨lw_p16, List.forall_mem_cons.mpr ⟨lw_p17, List.forall_mem_cons.mpr ⟨lw_p18, List.forall_mem_cons.mpr ⟨lw_p19, List.forall_mem_cons.mpr ⟨lw_p20, List.forall_mem_cons.mpr ⟨lw_p21, List.forall_mem_cons.mpr ⟨lw_p22, List.forall_mem_cons.mpr ⟨lw_p23, List.forall_mem_cons.mpr ⟨lw_p24, List.forall_mem_cons.mpr ⟨lw_p25, List.forall_mem_cons.mpr ⟨lw_p26, List.forall_mem_cons.mpr ⟨lw_p27, List.forall_mem_cons.mpr ⟨lw_p28, List.forall_mem_cons.mpr ⟨lw_p29, List.forall_mem_cons.mpr ⟨lw_p30, List.forall_mem_cons.mpr ⟨lw_p31, fun _ h => absurd h List.not_mem_nil⟩⟩⟩⟩⟩⟩⟩⟩⟩⟩⟩⟩⟩⟩⟩⟩
theorem lw_p32 : lw_okq (⟨"ZnodeServiceModel", "spread", "()V"⟩, 27) := ⟨⟨by decide +kernel, by decide +kernel⟩, List.mem_of_getElem? (i := 617) (by decide +kernel), List.mem_of_getElem? (i := 774) (by decide +kernel), List.mem_of_getElem? (i := 775) (by decide +kernel)⟩
theorem lw_p33 : lw_okq (⟨"ZnodeServiceModel", "copyEntry", "(II)V"⟩, 27) := ⟨⟨by decide +kernel, by decide +kernel⟩, List.mem_of_getElem? (i := 617) (by decide +kernel), List.mem_of_getElem? (i := 778) (by decide +kernel), List.mem_of_getElem? (i := 779) (by decide +kernel)⟩
theorem lw_p34 : lw_okq (⟨"ZnodeServiceModel", "reaches", "(I)Z"⟩, 27) := ⟨⟨by decide +kernel, by decide +kernel⟩, List.mem_of_getElem? (i := 617) (by decide +kernel), List.mem_of_getElem? (i := 786) (by decide +kernel), List.mem_of_getElem? (i := 787) (by decide +kernel)⟩
theorem lw_p35 : lw_okq (⟨"ZnodeServiceModel", "connected", "(I)Z"⟩, 27) := ⟨⟨by decide +kernel, by decide +kernel⟩, List.mem_of_getElem? (i := 617) (by decide +kernel), List.mem_of_getElem? (i := 790) (by decide +kernel), List.mem_of_getElem? (i := 791) (by decide +kernel)⟩
theorem lw_p36 : lw_okq (⟨"ZnodeServiceModel", "finish", "(I)V"⟩, 27) := ⟨⟨by decide +kernel, by decide +kernel⟩, List.mem_of_getElem? (i := 617) (by decide +kernel), List.mem_of_getElem? (i := 794) (by decide +kernel), List.mem_of_getElem? (i := 795) (by decide +kernel)⟩
theorem lw_p37 : lw_okq (⟨"ZnodeServiceModel", "forget", "(I)V"⟩, 27) := ⟨⟨by decide +kernel, by decide +kernel⟩, List.mem_of_getElem? (i := 617) (by decide +kernel), List.mem_of_getElem? (i := 798) (by decide +kernel), List.mem_of_getElem? (i := 799) (by decide +kernel)⟩
theorem lw_p38 : lw_okq (⟨"ZnodeServiceModel", "childrenOf", "(I)I"⟩, 27) := ⟨⟨by decide +kernel, by decide +kernel⟩, List.mem_of_getElem? (i := 617) (by decide +kernel), List.mem_of_getElem? (i := 822) (by decide +kernel), List.mem_of_getElem? (i := 823) (by decide +kernel)⟩
theorem lw_p39 : lw_okq (⟨"ZnodeServiceModel", "look", "(III)I"⟩, 27) := ⟨⟨by decide +kernel, by decide +kernel⟩, List.mem_of_getElem? (i := 617) (by decide +kernel), List.mem_of_getElem? (i := 830) (by decide +kernel), List.mem_of_getElem? (i := 831) (by decide +kernel)⟩
def lw_privs_3 : List (MethodName × Nat) := [(⟨"ZnodeServiceModel", "spread", "()V"⟩, 27), (⟨"ZnodeServiceModel", "copyEntry", "(II)V"⟩, 27), (⟨"ZnodeServiceModel", "reaches", "(I)Z"⟩, 27), (⟨"ZnodeServiceModel", "connected", "(I)Z"⟩, 27), (⟨"ZnodeServiceModel", "finish", "(I)V"⟩, 27), (⟨"ZnodeServiceModel", "forget", "(I)V"⟩, 27), (⟨"ZnodeServiceModel", "childrenOf", "(I)I"⟩, 27), (⟨"ZnodeServiceModel", "look", "(III)I"⟩, 27)]
theorem lw_r3 : ∀ q ∈ lw_privs_3, lw_okq q := List.forall_mem_cons.mpr ⟨lw_p32, List.forall_mem_cons.mpr ⟨lw_p33, List.forall_mem_cons.mpr ⟨lw_p34, List.forall_mem_cons.mpr ⟨lw_p35, List.forall_mem_cons.mpr ⟨lw_p36, List.forall_mem_cons.mpr ⟨lw_p37, List.forall_mem_cons.mpr ⟨lw_p38, List.forall_mem_cons.mpr ⟨lw_p39, fun _ h => absurd h List.not_mem_nil⟩⟩⟩⟩⟩⟩⟩⟩
def lw_privs : List (MethodName × Nat) := lw_privs_1 ++ (lw_privs_2 ++ (lw_privs_3))
def lw_tbl : List Cond := k2_sels lw_privs ++ tables_1
theorem lw_privs_ok : ∀ q ∈ lw_privs, lw_okq q := by
  show ∀ q ∈ lw_privs_1 ++ (lw_privs_2 ++ (lw_privs_3)), lw_okq q
  exact List.forall_mem_append.mpr ⟨lw_r1, List.forall_mem_append.mpr ⟨lw_r2, lw_r3⟩⟩
end
section
/-! ===== BEGIN words of one list among another's, by their places ===== -/
theorem goodIn_r {big : List Cond} (ws : List Cond) (ps : List Nat) (hp : ws = ps.filterMap (fun i => big[i]?)) (h : ws.all goodWord = true) : GoodIn big ws := by
  intro w hw
  have h1 := List.all_eq_true.mp h w hw
  rw [hp] at hw
  obtain ⟨i, -, hi⟩ := List.mem_filterMap.mp hw
  have hm : w ∈ big := by first | exact List.mem_of_getElem? hi | exact List.getElem?_mem hi
  exact ⟨hm, good_of_word h1⟩
theorem goodIn_app {big a b : List Cond} (ha : GoodIn big a) (hb : GoodIn big b) : GoodIn big (a ++ b) := fun w h => (List.mem_append.mp h).elim (ha w) (hb w)
theorem goodIn_ca {big a b : List Cond} {c : Cond} (ha : GoodIn big (c :: a)) (hb : GoodIn big b) : GoodIn big (c :: (a ++ b)) := fun w h => (List.mem_cons.mp h).elim (fun e => ha w (List.mem_cons.mpr (Or.inl e))) (fun h => (List.mem_append.mp h).elim (fun h => ha w (List.mem_cons.mpr (Or.inr h))) (hb w))
theorem goodIn_sub {big ws : List Cond} (hm : ∀ w ∈ ws, w ∈ big) (h : ws.all goodWord = true) : GoodIn big ws := fun w hw => ⟨hm w hw, good_of_word (List.all_eq_true.mp h w hw)⟩
/-! ===== END ===== -/

/-! ===== BEGIN exceptions that leave a method, and their catching by the caller (launches without stack traces) ===== -/
section VXA
/-! The laws vx_back, vx_callV, vx_callS, vx_callSW, vx_throw0, vx_throwS follow proofs of the library, with one case more: JvmDerived/Free/Laws.lean (Back.of_free), Shelf42/LK1.lean (callV, callS), Shelf/KitTraced.lean (throwNew0V, throwNewS). -/
/-- where a method has thrown q: the class by its name, the cell, what was written, the world -/
def vx_T (XC : String → State → State → Prop) (st : State) (q : Addr) (t : State) (mc ms : Nat) (free : Addr → Prop) : Prop :=
  ∃ (E : String) (ce : Cell) (L : List Loc), XC E st t ∧ t.heap[q]? = some ce ∧ ce.vm = .none ∧ st.vm.findClass E = some ce.cls ∧ st.WarmedH t.vm ∧ st.sameButNew ({ t with vm := st.vm } : State) L mc ms ∧ ∀ z ∈ L, free z.base
def vx_Q (Qc : Array Value → State → Outcome → State → Prop) (XC : String → State → State → Prop) (mc ms : Nat) (free : Addr → Prop) : Array Value → State → Outcome → State → Prop := fun a st o t =>
  (Qc a st o t ∧ ∃ L, FrameEnd st o t L mc ms ∧ ∀ q ∈ L, free q.base) ∨ ∃ q, o = .threw q ∧ vx_T XC st q t mc ms free
/-- a callee that returns or throws -/
def vx_Met (l : Launch) (y : MethodName) (ws : List Cond) (rm : Room) (Pc : Array Value → State → Prop) (Qc : Array Value → State → Outcome → State → Prop) (XC : String → State → State → Prop) (mc ms : Nat) (free : Addr → Prop) : Prop :=
  MetFree l y (headSpec ws rm) Pc (fun _ _ _ _ _ => True) (vx_Q Qc XC mc ms free)
def vx_Post (XC : String → State → State → Prop) (mc ms : Nat) (free : Addr → Prop) : Pt → Array Value → Addr → Pt → Prop := fun A a q B =>
  ∃ (g : JFrame) (mk : MethodId) (t : State) (L : List Loc) (E : String) (ce : Cell), B.U.heap = t.heap ∧ B.U.vm = t.vm ∧ XC E (A.U.calling g mk a) t ∧ t.heap[q]? = some ce ∧ ce.vm = .none ∧ A.U.vm.findClass E = some ce.cls ∧ B.locs = A.locs ++ L ∧ (∀ z ∈ L, free z.base) ∧ B.cells = A.cells + mc ∧ B.slots = A.slots + ms
def vx_Back (l : Launch) (R : Room) (p : Program) (e : Env) (below : List Frame) (s : State) (sargs : Array Value) (y : MethodName) (len W9 : Nat)
    (Pre : Pt → Array Value → Prop) (Post : Pt → Array Value → Option Value → Pt → Prop) (PostX : Pt → Array Value → Addr → Pt → Prop) : Prop :=
  ∀ (m : MethodId) (meth : Method) (c : Code) (A : Pt) (g : JFrame) (ig : Instr) (mk : MethodId) (a : Array Value),
    Stand p l e R s m sargs below meth c A.U A.locs A.cells A.slots → g.method = m → g.locals.size = c.maxLocals → decode c.code g.pc = .ok (ig, len) →
    2 * g.monitorRoom + (g.stack.map fun v => v.category).sum ≤ W9 → A.U.methodNamed? y = some mk → Pre A a →
    (∃ (v : Option Value) (B : Pt), Stand p l e R s m sargs below meth c B.U B.locs B.cells B.slots ∧ Post A a v B ∧
      Steps p.tables e below (doInvoke e (A.U.setTop g) [] mk a).1 (B.U.setTop { g with pc := g.pc + len, stack := v.toList ++ g.stack })) ∨
    (∃ (q : Addr) (B : Pt), Stand p l e R s m sargs below meth c B.U B.locs B.cells B.slots ∧ PostX A a q B ∧
      Steps p.tables e below (doInvoke e (A.U.setTop g) [] mk a).1 ((B.U.setTop g).pushFrame (.throwing q)))
section Payer
variable {l : Launch} {R : Room} {p : Program} {e : Env} {below : List Frame} {s : State} {sargs : Array Value} {y : MethodName} {len W9 : Nat}
theorem vx_back {ws : List Cond} {rm : Room} {Pc : Array Value → State → Prop} {Qc : Array Value → State → Outcome → State → Prop} {XC : String → State → State → Prop} {mc ms : Nat} {free : Addr → Prop} {bytes : ByteArray} {maxL : Nat} {ret : Option FieldType}
    (hM : vx_Met l y ws rm Pc Qc XC mc ms free) (hblind : FrameBlind Pc) (hrc : rm.cells = mc) (hrs : rm.slots = ms)
    (hframes : rm.frames + 1 ≤ R.frames) (hlocals : W9 + (maxL + 11) + rm.locals ≤ R.locals)
    (hws : ∀ w ∈ ws, ∀ a' U, s.WarmedH U.vm → w.before a' U = true) (hcode : Cond.code y bytes maxL ret ∈ ws) (hinit : ∀ a' U, s.WarmedH U.vm → (Cond.initialized y.cls).before a' U = true) :
    vx_Back l R p e below s sargs y len W9 (PreOf R mc ms Pc) (PostOf Qc mc ms free) (vx_Post XC mc ms free) := by
  intro m meth c A g ig mk a X hg hsize hdg hW hn hp
  have h1 : (headSpec ws rm).pre.before a A.U = true := atoms_intro fun w hw => hws w hw _ _ X.warmed
  have h2 : (Cond.code y bytes maxL ret).before a A.U = true := hws _ hcode _ _ X.warmed
  have h3 : (Cond.initialized y.cls).before a A.U = true := hinit _ _ X.warmed
  have h4 : A.cells + (headSpec ws rm).room.cells ≤ R.cells := by rw [show (headSpec ws rm).room.cells = mc from hrc]; exact hp.1
  have h5 : A.slots + (headSpec ws rm).room.slots ≤ R.slots := by rw [show (headSpec ws rm).room.slots = ms from hrs]; exact hp.2.1
  have hPc : Pc a (A.U.calling g mk a) := hblind _ _ _ _ hp.2.2
  obtain ⟨U, Ls, c0, s0⟩ := A
  dsimp only [Pt.U, Pt.locs, Pt.cells, Pt.slots] at h1 h2 h3 h4 h5 X hn hPc ⊢
  obtain ⟨methY, cY, hmY, hcY, -, hlY, -, -, -, -⟩ := Cond.code_spec hn h2
  obtain ⟨kY, hkY, -⟩ := className_of_methodNamed hn
  have hinitY : kY.init = .initialized := Cond.initialized_spec (findClass_of_methodNamed hn) hkY h3
  have h : At U g.method c below := by rw [hg]; exact X.here
  have hlocals9 : W9 + (maxL + 11) + (headSpec ws rm).room.locals ≤ R.locals := hlocals
  have happ : (headSpec ws rm).appliesLoose y e.platform (U.calling g mk a) = true :=
    Spec.appliesLoose_calling (g := g) h hdg hn hkY hinitY
      (X.room_calling (g := g) (R' := (headSpec ws rm).room) hsize hmY hcY hframes (by rw [hlY]; omega) h4 h5) h1
  obtain ⟨mid, hmid⟩ := h.above
  have hfr : (U.setTop g).frames = (.java g :: mid) ++ below := by rw [State.frames_setTop' g h.top, hmid]; rfl
  obtain ⟨o, s₂, hsteps, -, hend, hq⟩ := Steps.callFree hM p X.admits X.cas X.clock (acts := []) hfr happ hPc trivial
  have hq' : vx_Q Qc XC mc ms free a (U.calling g mk a) o s₂ := hq
  rw [State.frames_setTop' g h.top] at hend
  obtain ⟨g₀, hg0⟩ := Option.isSome_iff_exists.mp h.top
  obtain ⟨r, hr⟩ := State.topJava?_eq_some.mp hg0
  have hr' : (({ U with heap := s₂.heap, slotsUsed := s₂.slotsUsed } : State).setVm s₂.vm).frames = .java g₀ :: r := hr
  rcases hq' with ⟨hqc, L, hfe, hL⟩ | ⟨q, rfl, E, ce, L, hx, hce, hcv, hcl, hW₂, hsm, hL⟩
  · obtain ⟨⟨v, rfl⟩, hW₂, e2, q2, q3, q4, q5, q6⟩ := id hfe
    have e3 : s₂ = ({ (U.calling g mk a).setFrames s₂.frames with heap := s₂.heap, slotsUsed := s₂.slotsUsed } : State).setVm s₂.vm := by
      have : s₂ = ({ s₂ with vm := (U.calling g mk a).vm } : State).setVm s₂.vm := rfl
      rw [e2] at this
      exact this
    obtain ⟨c₂, i₂, len₂, hc₂, hd₂, hf₂⟩ := hend
    have hW' : U.WarmedH s₂.vm := hW₂
    have hcc : c₂ = c := by
      have h1 : s₂.code? g.method = U.code? g.method := by
        rw [State.code?_eq, State.code?_eq, hW'.alike.method?]
      exact Option.some.inj (hc₂.symm.trans (h1.trans h.code))
    subst hcc
    have hlen : len₂ = len := by rw [hdg] at hd₂; cases hd₂; rfl
    subst hlen
    have hs₂ : s₂ = (({ U with heap := s₂.heap, slotsUsed := s₂.slotsUsed } : State).setVm s₂.vm).setTop { g with pc := g.pc + len₂, stack := v.toList ++ g.stack } := by
      refine e3.trans ?_
      rw [hf₂, State.calling_eq h.top, State.setFrames_setFrames, State.setTop_of_frames _ hr', hr]
      rfl
    have hsame : U.sameButNew ({ U with heap := s₂.heap, slotsUsed := s₂.slotsUsed } : State) L mc ms := by
      refine ⟨?_, q2, q3, q4, q5, q6⟩
      obtain ⟨t, ht, -⟩ := State.frames_cons hr
      show ({ U with heap := s₂.heap, slotsUsed := s₂.slotsUsed } : State) = { U.setFrames U.frames with heap := s₂.heap, slotsUsed := s₂.slotsUsed }
      rw [State.setFrames_self ht]
    subst hg
    refine Or.inl ⟨v, ⟨(({ U with heap := s₂.heap, slotsUsed := s₂.slotsUsed } : State).setVm s₂.vm), Ls ++ L, c0 + mc, s0 + ms⟩,
      ⟨X.admits, X.cas, X.clock, X.frames, X.room, X.hears, X.method, X.code, (X.here.setHeapUsed s₂.heap s₂.slotsUsed).setVm hW'.alike, X.tail, State.WarmedH.trans X.warmed hW', X.limits, X.bytes, X.same.trans (hsame.setVm s.vm)⟩,
      ⟨g, mk, s₂, L, rfl, rfl, hqc, rfl, hL, rfl, rfl⟩, ?_⟩
    show Steps p.tables e below _ ((({ U with heap := s₂.heap, slotsUsed := s₂.slotsUsed } : State).setVm s₂.vm).setTop { g with pc := g.pc + len₂, stack := v.toList ++ g.stack })
    rw [← hs₂]
    exact hsteps
  · obtain ⟨e2, q2, q3, q4, q5, q6⟩ := id hsm
    have e3 : s₂ = ({ (U.calling g mk a).setFrames s₂.frames with heap := s₂.heap, slotsUsed := s₂.slotsUsed } : State).setVm s₂.vm := by
      have : s₂ = ({ s₂ with vm := (U.calling g mk a).vm } : State).setVm s₂.vm := rfl
      rw [e2] at this
      exact this
    have hf₂ : s₂.frames = .throwing q :: .java g :: U.frames.tail := hend
    have hW' : U.WarmedH s₂.vm := hW₂
    have hs₂ : s₂ = ((({ U with heap := s₂.heap, slotsUsed := s₂.slotsUsed } : State).setVm s₂.vm).setTop g).pushFrame (.throwing q) := by
      refine e3.trans ?_
      rw [hf₂, State.calling_eq h.top, State.setFrames_setFrames, State.pushFrame, State.frames_setTop _ hr', State.setTop_of_frames _ hr', State.setFrames_setFrames, hr]
      rfl
    have hsame : U.sameButNew ({ U with heap := s₂.heap, slotsUsed := s₂.slotsUsed } : State) L mc ms := by
      refine ⟨?_, q2, q3, q4, q5, q6⟩
      obtain ⟨t, ht, -⟩ := State.frames_cons hr
      show ({ U with heap := s₂.heap, slotsUsed := s₂.slotsUsed } : State) = { U.setFrames U.frames with heap := s₂.heap, slotsUsed := s₂.slotsUsed }
      rw [State.setFrames_self ht]
    subst hg
    refine Or.inr ⟨q, ⟨(({ U with heap := s₂.heap, slotsUsed := s₂.slotsUsed } : State).setVm s₂.vm), Ls ++ L, c0 + mc, s0 + ms⟩,
      ⟨X.admits, X.cas, X.clock, X.frames, X.room, X.hears, X.method, X.code, (X.here.setHeapUsed s₂.heap s₂.slotsUsed).setVm hW'.alike, X.tail, State.WarmedH.trans X.warmed hW', X.limits, X.bytes, X.same.trans (hsame.setVm s.vm)⟩,
      ⟨g, mk, s₂, L, E, ce, rfl, rfl, hx, hce, hcv, hcl, rfl, hL, rfl, rfl⟩, ?_⟩
    show Steps p.tables e below _ (((({ U with heap := s₂.heap, slotsUsed := s₂.slotsUsed } : State).setVm s₂.vm).setTop g).pushFrame (.throwing q))
    rw [← hs₂]
    exact hsteps
end Payer
section Calls
variable {p : Program} {l : Launch} {e : Env} {R : Room} {s : State} {m : MethodId} {args : Array Value} {below : List Frame} {meth : Method} {c : Code} {T : State} {locs : List Loc} {cells slots : Nat}
theorem vx_callV (X : Stand p l e R s m args below meth c T locs cells slots) (hexec : p.tables.exec = Jvm.exec) {own C : String} {index : Nat} {y : MethodName} {bytes : ByteArray} {maxL : Nat} {ret : Option FieldType}
    (hown : s.vm.findClass own = some m.cls) (hlink : (Cond.methodLink own index y).before args s = true) (hinst : (Cond.instanceMethod y).before args s = true) (hsel : (Cond.selects C y y).before args s = true)
    (hcode : (Cond.code y bytes maxL ret).before args s = true) (hy : y.cls ≠ "java/lang/invoke/MethodHandle" ∧ y.cls ≠ "java/lang/invoke/VarHandle")
    {W9 : Nat} {Pre : Pt → Array Value → Prop} {Post : Pt → Array Value → Option Value → Pt → Prop} {PostX : Pt → Array Value → Addr → Pt → Prop} (hK : vx_Back l R p e below s args y 3 W9 Pre Post PostX)
    {b : Addr} {cellB : Cell} (hcell : T.heap[b]? = some cellB) (hobj : cellB.vm.isStatics = false) (hcls : s.vm.findClass C = some cellB.cls)
    {g : JFrame} (hg : g.method = m) (hsize : g.locals.size = c.maxLocals) {argsL rest : List Value} (hlen : ∀ sig, parseMethodDescriptor y.desc = some sig → argsL.length = sig.parameters.length)
    (hstack : g.stack = argsL.reverse ++ .ref b :: rest) (hW : 2 * g.monitorRoom + (rest.map fun v => v.category).sum ≤ W9) (hdg : decode c.code g.pc = .ok (.invokevirtual index, 3))
    (hpre : ∀ vm₁, s.WarmedH vm₁ → Pre ⟨T.setVm vm₁, locs, cells, slots⟩ (Value.ref b :: argsL).toArray) :
    (∃ (v : Option Value) (vm₁ : Vm) (B : Pt), s.WarmedH vm₁ ∧ Stand p l e R s m args below meth c B.U B.locs B.cells B.slots ∧ Post ⟨T.setVm vm₁, locs, cells, slots⟩ (Value.ref b :: argsL).toArray v B ∧
      ∀ target, Steps p.tables e below (B.U.setTop { g with pc := g.pc + 3, stack := v.toList ++ rest }) target → Steps p.tables e below (T.setTop g) target) ∨
    (∃ (q : Addr) (vm₁ : Vm) (B : Pt), s.WarmedH vm₁ ∧ Stand p l e R s m args below meth c B.U B.locs B.cells B.slots ∧ PostX ⟨T.setVm vm₁, locs, cells, slots⟩ (Value.ref b :: argsL).toArray q B ∧
      Steps p.tables e below (T.setTop g) ((B.U.setTop { g with stack := rest }).pushFrame (.throwing q))) := by
  obtain ⟨mk, methM, hnamed, hmethM, hstM, habM⟩ := Cond.instanceMethod_spec hinst
  obtain ⟨methM', cM, hmethM', -, -, -, -, -, -, hsigM⟩ := Cond.code_spec hnamed hcode
  cases hmethM.symm.trans hmethM'
  obtain ⟨c2, r2, m2, q1, q2, q3, q4, kP, hkP, hkPi⟩ := Cond.selects_spec hsel
  cases hcls.symm.trans q1
  cases (State.methodFound?_of_named hnamed hy).symm.trans q2
  cases hnamed.symm.trans q3
  have hselP : selectMethod e.platform s.vm cellB.cls mk = .method mk := by rw [Launch.admits_selectMethod X.admits]; exact q4
  obtain ⟨vm₁, X₁, hstep₁⟩ := X.invokevirtual hexec hown hlink hnamed hmethM hstM hkP hkPi hy (a := b) (cell := cellB) hcell
    (fun z h => by rw [h] at hobj; cases hobj) hselP hmethM habM hkP hkPi (g := g) hg (argsL := argsL) (rest := rest) (hlen _ hsigM) hstack hdg
  rcases hK m meth c ⟨T.setVm vm₁, locs, cells, slots⟩ { g with stack := rest } (.invokevirtual index) mk (Value.ref b :: argsL).toArray X₁ hg hsize hdg hW (X₁.named hnamed) (hpre vm₁ X₁.warmed) with ⟨v, B, X', hpost, hsteps⟩ | ⟨q, B, X', hpost, hsteps⟩
  · exact Or.inl ⟨v, vm₁, B, X₁.warmed, X', hpost, fun target h => hstep₁ _ fun acts => by rw [doInvoke_state]; exact hsteps.trans h⟩
  · exact Or.inr ⟨q, vm₁, B, X₁.warmed, X', hpost, hstep₁ _ fun acts => by rw [doInvoke_state]; exact hsteps⟩
theorem vx_callS (X : Stand p l e R s m args below meth c T locs cells slots) (hexec : p.tables.exec = Jvm.exec) {own : String} {index : Nat} {y : MethodName} {bytes : ByteArray} {maxL : Nat} {ret : Option FieldType}
    (hown : s.vm.findClass own = some m.cls) (hlink : (Cond.methodLink own index y).before args s = true) (hstat : (Cond.static y).before args s = true) (hinit : (Cond.initialized y.cls).before args s = true)
    (hcode : (Cond.code y bytes maxL ret).before args s = true) (hy : y.cls ≠ "java/lang/invoke/MethodHandle" ∧ y.cls ≠ "java/lang/invoke/VarHandle")
    {W9 : Nat} {Pre : Pt → Array Value → Prop} {Post : Pt → Array Value → Option Value → Pt → Prop} {PostX : Pt → Array Value → Addr → Pt → Prop} (hK : vx_Back l R p e below s args y 3 W9 Pre Post PostX)
    {g : JFrame} (hg : g.method = m) (hsize : g.locals.size = c.maxLocals) {argsL rest : List Value} (hlen : ∀ sig, parseMethodDescriptor y.desc = some sig → argsL.length = sig.parameters.length)
    (hstack : g.stack = argsL.reverse ++ rest) (hW : 2 * g.monitorRoom + (rest.map fun v => v.category).sum ≤ W9) (hdg : decode c.code g.pc = .ok (.invokestatic index, 3))
    (hpre : ∀ vm₁, s.WarmedH vm₁ → Pre ⟨T.setVm vm₁, locs, cells, slots⟩ argsL.toArray) :
    (∃ (v : Option Value) (vm₁ : Vm) (B : Pt), s.WarmedH vm₁ ∧ Stand p l e R s m args below meth c B.U B.locs B.cells B.slots ∧ Post ⟨T.setVm vm₁, locs, cells, slots⟩ argsL.toArray v B ∧
      ∀ target, Steps p.tables e below (B.U.setTop { g with pc := g.pc + 3, stack := v.toList ++ rest }) target → Steps p.tables e below (T.setTop g) target) ∨
    (∃ (q : Addr) (vm₁ : Vm) (B : Pt), s.WarmedH vm₁ ∧ Stand p l e R s m args below meth c B.U B.locs B.cells B.slots ∧ PostX ⟨T.setVm vm₁, locs, cells, slots⟩ argsL.toArray q B ∧
      Steps p.tables e below (T.setTop g) ((B.U.setTop { g with stack := rest }).pushFrame (.throwing q))) := by
  obtain ⟨mk, hnamed⟩ := Cond.code_named hcode
  obtain ⟨methM, cM, hmethM, -, -, -, -, -, -, hsigM⟩ := Cond.code_spec hnamed hcode
  have hstatic : methM.isStatic = true := Cond.static_spec hnamed hmethM hstat
  obtain ⟨kP, hkP, -⟩ := className_of_methodNamed hnamed
  have hinitP : kP.init = .initialized := Cond.initialized_spec (findClass_of_methodNamed hnamed) hkP hinit
  obtain ⟨vm₁, X₁, hstep₁⟩ := X.invokestatic hexec hown hlink hnamed hmethM hstatic hkP hinitP hy (g := g) hg (argsL := argsL) (rest := rest) (hlen _ hsigM) hstack hdg
  rcases hK m meth c ⟨T.setVm vm₁, locs, cells, slots⟩ { g with stack := rest } (.invokestatic index) mk argsL.toArray X₁ hg hsize hdg hW (X₁.named hnamed) (hpre vm₁ X₁.warmed) with ⟨v, B, X', hpost, hsteps⟩ | ⟨q, B, X', hpost, hsteps⟩
  · exact Or.inl ⟨v, vm₁, B, X₁.warmed, X', hpost, fun target h => hstep₁ _ fun acts => by rw [doInvoke_state]; exact hsteps.trans h⟩
  · exact Or.inr ⟨q, vm₁, B, X₁.warmed, X', hpost, hstep₁ _ fun acts => by rw [doInvoke_state]; exact hsteps⟩
end Calls
theorem vx_cls {s : State} {T : State} {vm₁ : Vm} {E : String} {k : ClassId} (hW : s.WarmedH vm₁) (h : (T.setVm vm₁).vm.findClass E = some k) : s.vm.findClass E = some k := by
  have h1 : vm₁.findClass E = some k := h
  rw [hW.alike.findClass] at h1
  exact h1
/-- the method's frame g, with q thrown over it -/
def vx_W (p : Program) (l : Launch) (e : Env) (R : Room) (s : State) (m : MethodId) (args : Array Value) (below : List Frame) (meth : Method) (c : Code) (H : Heap) (locs : List Loc) (cells slots : Nat) (Q : State → Prop) (g : JFrame) (q : Addr) : Prop :=
  ∀ T : State, T.heap = H → Stand p l e R s m args below meth c T locs cells slots → ∃ t, Steps p.tables e below ((T.setTop g).pushFrame (.throwing q)) t ∧ Q t
def vx_Run (p : Program) (l : Launch) (e : Env) (R : Room) (s : State) (m : MethodId) (args : Array Value) (below : List Frame) (meth : Method) (c : Code) (H : Heap) (locs : List Loc) (cells slots mc ms : Nat) (g : JFrame) (rest : List Value) (Qa : State → Outcome → State → Prop) (XC : String → State → State → Prop) (free : Addr → Prop) : Prop :=
  ∀ T : State, T.heap = H → Stand p l e R s m args below meth c T locs cells slots →
    (∃ (v : Option Value) (st₀ t T' : State) (L : List Loc), st₀.heap = H ∧ Stand p l e R s m args below meth c T' (locs ++ L) (cells + mc) (slots + ms) ∧ (∀ q ∈ L, free q.base) ∧ T'.heap = t.heap ∧ T'.vm = t.vm ∧ Qa st₀ (.returned v) t ∧
      Goes p e below T g T' { g with pc := g.pc + 3, stack := v.toList ++ rest }) ∨
    (∃ (q : Addr) (st₀ t T' : State) (L : List Loc) (E : String) (ce : Cell), st₀.heap = H ∧ Stand p l e R s m args below meth c T' (locs ++ L) (cells + mc) (slots + ms) ∧ (∀ z ∈ L, free z.base) ∧ T'.heap = t.heap ∧ T'.vm = t.vm ∧ XC E st₀ t ∧ t.heap[q]? = some ce ∧ ce.vm = .none ∧ s.vm.findClass E = some ce.cls ∧
      Steps p.tables e below (T.setTop g) ((T'.setTop { g with stack := rest }).pushFrame (.throwing q)))
def vx_X {S : Type} (px : S → Prop) (B : String → S → State → Prop) (A : Nat → Prop) : String → State → State → Prop := fun E st t => ∃ u : S, px u ∧ B E u t ∧ va_F A st t
section Runs
variable {p : Program} {l : Launch} {e : Env} {R : Room} {s : State} {m : MethodId} {args : Array Value} {below : List Frame} {meth : Method} {c : Code} {H : Heap} {locs : List Loc} {cells slots : Nat}
variable {y : MethodName} {bytes cc : ByteArray} {maxL nL mc ms n index : Nat} {ret : Option FieldType} {ws : List Cond} {rm : Room} {Pc : Array Value → State → Prop} {Qc : Array Value → State → Outcome → State → Prop} {XC : String → State → State → Prop} {free : Addr → Prop} {Ts : List Cond} {own C : String} {b : Addr} {As rest : List Value} {g : JFrame}
theorem vx_callBack (cb : CallB R s args own index y bytes maxL ret ws rm mc ms n) (hM : vx_Met l y ws rm Pc Qc XC mc ms free) (hbl : FrameBlind Pc) : vx_Back l R p e below s args y 3 8 (PreOf R mc ms Pc) (PostOf Qc mc ms free) (vx_Post XC mc ms free) := by
  obtain ⟨hrc, hrs, hfr, hlo, hws, hcw, -, hini, -⟩ := cb
  exact vx_back (bytes := bytes) (maxL := maxL) (ret := ret) hM hbl hrc hrs hfr hlo hws hcw (fun a' U hW => word_at hW (Or.inl (by first | rfl | simp [Cond.onTables, Cond.keeps, Cond.steady])) hini)
theorem vx_runV (S : CallFix p m c cc nL s args Ts own) (hM : vx_Met l y ws rm Pc Qc XC mc ms free) (cw : CallW R s args own C index y bytes maxL ret ws rm mc ms n) (hp : PreV s H C b Pc As)
    (hg : g.method = m) (hn : As.length = n) (hsize : g.locals.size = nL) (hstack : g.stack = As.reverse ++ .ref b :: rest) (hW : 2 * g.monitorRoom + (rest.map fun v => v.category).sum ≤ 8) (hdg : decode cc g.pc = .ok (.invokevirtual index, 3)) (hf : cells + mc ≤ R.cells ∧ slots + ms ≤ R.slots) :
    vx_Run p l e R s m args below meth c H locs cells slots mc ms g rest (Qc (Value.ref b :: As).toArray) XC free := by
  have hK : vx_Back l R p e below s args y 3 8 (PreOf R mc ms Pc) (PostOf Qc mc ms free) (vx_Post XC mc ms free) := vx_callBack cw.1 hM hp.1
  obtain ⟨⟨-, -, -, -, -, -, hcode, -, hy, hlen, hl⟩, hin, hse⟩ := cw
  obtain ⟨hx, hb, hml, ho, -⟩ := S
  obtain ⟨-, ⟨cellB, hcB, hoB, hclB⟩, hPc⟩ := hp
  intro T hT X
  rcases vx_callV X hx (C := C) (bytes := bytes) (maxL := maxL) (ret := ret) ho hl hin hse hcode hy hK (by rw [hT]; exact hcB) hoB hclB hg (hsize.trans hml.symm) (argsL := As) (rest := rest) (fun sig h => hn.trans (hlen sig h)) hstack hW (by rw [hb]; exact hdg)
    (fun vm₁ hW₁ => ⟨hf.1, hf.2, hPc (T.setVm vm₁) hT hW₁⟩) with ⟨v, vm₁, ⟨U', l2, c2, s2⟩, hW₁, X', ⟨g', mk, t, L, e1, e2, hq, h1, hL, h2, h3⟩, st⟩ | ⟨q, vm₁, ⟨U', l2, c2, s2⟩, hW₁, X', ⟨g', mk, t, L, E, ce, e1, e2, hq, hce, hcv, hcl, h1, hL, h2, h3⟩, st⟩
  · dsimp only [Pt.U, Pt.locs, Pt.cells, Pt.slots] at X' e1 e2 h1 h2 h3 st
    subst h1; subst h2; subst h3
    exact Or.inl ⟨v, (T.setVm vm₁).calling g' mk (Value.ref b :: As).toArray, t, U', L, hT, X', hL, e1, e2, hq, st⟩
  · dsimp only [Pt.U, Pt.locs, Pt.cells, Pt.slots] at X' e1 e2 h1 h2 h3 st hcl
    subst h1; subst h2; subst h3
    exact Or.inr ⟨q, (T.setVm vm₁).calling g' mk (Value.ref b :: As).toArray, t, U', L, E, ce, hT, X', hL, e1, e2, hq, hce, hcv, vx_cls hW₁ hcl, st⟩
theorem vx_runS (S : CallFix p m c cc nL s args Ts own) (hM : vx_Met l y ws rm Pc Qc XC mc ms free) (cw : CallB R s args own index y bytes maxL ret ws rm mc ms n ∧ (Cond.static y).before args s = true) (hp : PreS s H Pc As)
    (hg : g.method = m) (hn : As.length = n) (hsize : g.locals.size = nL) (hstack : g.stack = As.reverse ++ rest) (hW : 2 * g.monitorRoom + (rest.map fun v => v.category).sum ≤ 8) (hdg : decode cc g.pc = .ok (.invokestatic index, 3)) (hf : cells + mc ≤ R.cells ∧ slots + ms ≤ R.slots) :
    vx_Run p l e R s m args below meth c H locs cells slots mc ms g rest (Qc As.toArray) XC free := by
  have hK : vx_Back l R p e below s args y 3 8 (PreOf R mc ms Pc) (PostOf Qc mc ms free) (vx_Post XC mc ms free) := vx_callBack cw.1 hM hp.1
  obtain ⟨⟨-, -, -, -, -, -, hcode, hini, hy, hlen, hl⟩, hstt⟩ := cw
  obtain ⟨hx, hb, hml, ho, -⟩ := S
  intro T hT X
  rcases vx_callS X hx (bytes := bytes) (maxL := maxL) (ret := ret) ho hl hstt hini hcode hy hK hg (hsize.trans hml.symm) (argsL := As) (rest := rest) (fun sig h => hn.trans (hlen sig h)) hstack hW (by rw [hb]; exact hdg)
    (fun vm₁ hW₁ => ⟨hf.1, hf.2, hp.2 (T.setVm vm₁) hT hW₁⟩) with ⟨v, vm₁, ⟨U', l2, c2, s2⟩, hW₁, X', ⟨g', mk, t, L, e1, e2, hq, h1, hL, h2, h3⟩, st⟩ | ⟨q, vm₁, ⟨U', l2, c2, s2⟩, hW₁, X', ⟨g', mk, t, L, E, ce, e1, e2, hq, hce, hcv, hcl, h1, hL, h2, h3⟩, st⟩
  · dsimp only [Pt.U, Pt.locs, Pt.cells, Pt.slots] at X' e1 e2 h1 h2 h3 st
    subst h1; subst h2; subst h3
    exact Or.inl ⟨v, (T.setVm vm₁).calling g' mk As.toArray, t, U', L, hT, X', hL, e1, e2, hq, st⟩
  · dsimp only [Pt.U, Pt.locs, Pt.cells, Pt.slots] at X' e1 e2 h1 h2 h3 st hcl
    subst h1; subst h2; subst h3
    exact Or.inr ⟨q, (T.setVm vm₁).calling g' mk As.toArray, t, U', L, E, ce, hT, X', hL, e1, e2, hq, hce, hcv, vx_cls hW₁ hcl, st⟩
end Runs
section Rows
variable {p : Program} {l : Launch} {e : Env} {R : Room} {s : State} {m : MethodId} {args : Array Value} {below : List Frame} {meth : Method} {c : Code} {H : Heap} {locs : List Loc} {cells slots : Nat} {Q : State → Prop}
variable {mc ms : Nat} {free : Addr → Prop} {A0 A1 : Nat → Prop} {H0 : Heap} {a : Array Value} {pc : Nat} {ls : Array Slot} {st0 rest : List Value}
theorem vx_keep {st₀ t T' : State} {L : List Loc} (h0 : st₀.heap = H) (e1 : T'.heap = t.heap) (hS : va_S A0 H0 H locs) (hA : ∀ q, q < H.size → A1 q → A0 q) (hf : ∀ q, free q → A0 q) (hL : ∀ q ∈ L, free q.base) (hF : va_F A1 st₀ t) :
    H.size ≤ T'.heap.size ∧ (∀ q : Nat, q < H.size → ¬ A1 q → T'.heap[q]? = H[q]?) ∧ va_S A0 H0 T'.heap (locs ++ L) := by
  obtain ⟨hz, hk⟩ := hF
  rw [h0] at hz hk
  exact ⟨by rw [e1]; exact hz, fun q h1 h2 => by rw [e1]; exact hk q h1 h2,
    ⟨Nat.le_trans hS.1 (by rw [e1]; exact hz), fun q h1 h2 => by rw [e1, hk q (Nat.lt_of_lt_of_le h1 hS.1) (fun z => h2 (hA q (Nat.lt_of_lt_of_le h1 hS.1) z))]; exact hS.2.1 q h1 h2, fun q hq => by
      rcases List.mem_append.mp hq with h | h
      · exact hS.2.2 q h
      · exact hf _ (hL q h)⟩⟩
theorem vx_calli {S SX : Type} {post : Int32 → S → Prop} {px : SX → Prop} {B : S → State → Prop} {BX : String → SX → State → Prop} {AX : Nat → Prop} (hr : vx_Run p l e R s m args below meth c H locs cells slots mc ms (F0 m pc ls st0) rest (va_Qi post B A1 a) (vx_X px BX AX) free) (hS : va_S A0 H0 H locs) (hA : ∀ q, q < H.size → A1 q → A0 q) (hf : ∀ q, free q → A0 q) (hAX : ∀ q, q < H.size → AX q → A0 q)
    (kx : ∀ (E : String) (ce : Cell) (q9 : Addr) (u : SX) (t : State) (H1 : Heap) (locs1 : List Loc), t.heap = H1 → s.vm.Alike t.vm → px u → BX E u t → H.size ≤ H1.size → (∀ q : Nat, q < H.size → ¬ AX q → H1[q]? = H[q]?) → va_S A0 H0 H1 locs1 → H1[q9]? = some ce → ce.vm = .none → s.vm.findClass E = some ce.cls → vx_W p l e R s m args below meth c H1 locs1 (cells + mc) (slots + ms) Q (F0 m pc ls rest) q9)
    (kk : ∀ (r : Int32) (u : S) (t : State) (H1 : Heap) (locs1 : List Loc), t.heap = H1 → s.vm.Alike t.vm → post r u → B u t → H.size ≤ H1.size → (∀ q : Nat, q < H.size → ¬ A1 q → H1[q]? = H[q]?) → va_S A0 H0 H1 locs1 → W p l e R s m args below meth c H1 locs1 (cells + mc) (slots + ms) Q (F0 m (pc + 3) ls (.int r :: rest))) : W p l e R s m args below meth c H locs cells slots Q (F0 m pc ls st0) := by
  intro T hT X
  rcases hr T hT X with ⟨v, st₀, t, T', L, h0, X', hL, e1, e2, ⟨⟨r, u, hv, hp, hb⟩, hF⟩, st⟩ | ⟨q, st₀, t, T', L, E, ce, h0, X', hL, e1, e2, ⟨u, hp, hb, hF⟩, hce, hcv, hcl, st⟩
  · cases hv
    obtain ⟨k1, k2, k3⟩ := vx_keep h0 e1 hS hA hf hL hF
    obtain ⟨t2, a1, b1⟩ := kk r u t T'.heap (locs ++ L) e1.symm (by rw [← e2]; exact X'.warmed.alike) hp hb k1 k2 k3 T' rfl X'
    exact ⟨t2, st t2 a1, b1⟩
  · obtain ⟨k1, k2, k3⟩ := vx_keep h0 e1 hS hAX hf hL hF
    obtain ⟨t2, a1, b1⟩ := kx E ce q u t T'.heap (locs ++ L) e1.symm (by rw [← e2]; exact X'.warmed.alike) hp hb k1 k2 k3 (by rw [e1]; exact hce) hcv hcl T' rfl X'
    exact ⟨t2, st.trans a1, b1⟩
theorem vx_calll {S SX : Type} {post : Int64 → S → Prop} {px : SX → Prop} {B : S → State → Prop} {BX : String → SX → State → Prop} {AX : Nat → Prop} (hr : vx_Run p l e R s m args below meth c H locs cells slots mc ms (F0 m pc ls st0) rest (va_Ql post B A1 a) (vx_X px BX AX) free) (hS : va_S A0 H0 H locs) (hA : ∀ q, q < H.size → A1 q → A0 q) (hf : ∀ q, free q → A0 q) (hAX : ∀ q, q < H.size → AX q → A0 q)
    (kx : ∀ (E : String) (ce : Cell) (q9 : Addr) (u : SX) (t : State) (H1 : Heap) (locs1 : List Loc), t.heap = H1 → s.vm.Alike t.vm → px u → BX E u t → H.size ≤ H1.size → (∀ q : Nat, q < H.size → ¬ AX q → H1[q]? = H[q]?) → va_S A0 H0 H1 locs1 → H1[q9]? = some ce → ce.vm = .none → s.vm.findClass E = some ce.cls → vx_W p l e R s m args below meth c H1 locs1 (cells + mc) (slots + ms) Q (F0 m pc ls rest) q9)
    (kk : ∀ (r : Int64) (u : S) (t : State) (H1 : Heap) (locs1 : List Loc), t.heap = H1 → s.vm.Alike t.vm → post r u → B u t → H.size ≤ H1.size → (∀ q : Nat, q < H.size → ¬ A1 q → H1[q]? = H[q]?) → va_S A0 H0 H1 locs1 → W p l e R s m args below meth c H1 locs1 (cells + mc) (slots + ms) Q (F0 m (pc + 3) ls (.long r :: rest))) : W p l e R s m args below meth c H locs cells slots Q (F0 m pc ls st0) := by
  intro T hT X
  rcases hr T hT X with ⟨v, st₀, t, T', L, h0, X', hL, e1, e2, ⟨⟨r, u, hv, hp, hb⟩, hF⟩, st⟩ | ⟨q, st₀, t, T', L, E, ce, h0, X', hL, e1, e2, ⟨u, hp, hb, hF⟩, hce, hcv, hcl, st⟩
  · cases hv
    obtain ⟨k1, k2, k3⟩ := vx_keep h0 e1 hS hA hf hL hF
    obtain ⟨t2, a1, b1⟩ := kk r u t T'.heap (locs ++ L) e1.symm (by rw [← e2]; exact X'.warmed.alike) hp hb k1 k2 k3 T' rfl X'
    exact ⟨t2, st t2 a1, b1⟩
  · obtain ⟨k1, k2, k3⟩ := vx_keep h0 e1 hS hAX hf hL hF
    obtain ⟨t2, a1, b1⟩ := kx E ce q u t T'.heap (locs ++ L) e1.symm (by rw [← e2]; exact X'.warmed.alike) hp hb k1 k2 k3 (by rw [e1]; exact hce) hcv hcl T' rfl X'
    exact ⟨t2, st.trans a1, b1⟩
theorem vx_callf {S SX : Type} {post : UInt32 → S → Prop} {px : SX → Prop} {B : S → State → Prop} {BX : String → SX → State → Prop} {AX : Nat → Prop} (hr : vx_Run p l e R s m args below meth c H locs cells slots mc ms (F0 m pc ls st0) rest (va_Qf post B A1 a) (vx_X px BX AX) free) (hS : va_S A0 H0 H locs) (hA : ∀ q, q < H.size → A1 q → A0 q) (hf : ∀ q, free q → A0 q) (hAX : ∀ q, q < H.size → AX q → A0 q)
    (kx : ∀ (E : String) (ce : Cell) (q9 : Addr) (u : SX) (t : State) (H1 : Heap) (locs1 : List Loc), t.heap = H1 → s.vm.Alike t.vm → px u → BX E u t → H.size ≤ H1.size → (∀ q : Nat, q < H.size → ¬ AX q → H1[q]? = H[q]?) → va_S A0 H0 H1 locs1 → H1[q9]? = some ce → ce.vm = .none → s.vm.findClass E = some ce.cls → vx_W p l e R s m args below meth c H1 locs1 (cells + mc) (slots + ms) Q (F0 m pc ls rest) q9)
    (kk : ∀ (r : UInt32) (u : S) (t : State) (H1 : Heap) (locs1 : List Loc), t.heap = H1 → s.vm.Alike t.vm → post r u → B u t → H.size ≤ H1.size → (∀ q : Nat, q < H.size → ¬ A1 q → H1[q]? = H[q]?) → va_S A0 H0 H1 locs1 → W p l e R s m args below meth c H1 locs1 (cells + mc) (slots + ms) Q (F0 m (pc + 3) ls (.float r :: rest))) : W p l e R s m args below meth c H locs cells slots Q (F0 m pc ls st0) := by
  intro T hT X
  rcases hr T hT X with ⟨v, st₀, t, T', L, h0, X', hL, e1, e2, ⟨⟨r, u, hv, hp, hb⟩, hF⟩, st⟩ | ⟨q, st₀, t, T', L, E, ce, h0, X', hL, e1, e2, ⟨u, hp, hb, hF⟩, hce, hcv, hcl, st⟩
  · cases hv
    obtain ⟨k1, k2, k3⟩ := vx_keep h0 e1 hS hA hf hL hF
    obtain ⟨t2, a1, b1⟩ := kk r u t T'.heap (locs ++ L) e1.symm (by rw [← e2]; exact X'.warmed.alike) hp hb k1 k2 k3 T' rfl X'
    exact ⟨t2, st t2 a1, b1⟩
  · obtain ⟨k1, k2, k3⟩ := vx_keep h0 e1 hS hAX hf hL hF
    obtain ⟨t2, a1, b1⟩ := kx E ce q u t T'.heap (locs ++ L) e1.symm (by rw [← e2]; exact X'.warmed.alike) hp hb k1 k2 k3 (by rw [e1]; exact hce) hcv hcl T' rfl X'
    exact ⟨t2, st.trans a1, b1⟩
theorem vx_calld {S SX : Type} {post : UInt64 → S → Prop} {px : SX → Prop} {B : S → State → Prop} {BX : String → SX → State → Prop} {AX : Nat → Prop} (hr : vx_Run p l e R s m args below meth c H locs cells slots mc ms (F0 m pc ls st0) rest (va_Qd post B A1 a) (vx_X px BX AX) free) (hS : va_S A0 H0 H locs) (hA : ∀ q, q < H.size → A1 q → A0 q) (hf : ∀ q, free q → A0 q) (hAX : ∀ q, q < H.size → AX q → A0 q)
    (kx : ∀ (E : String) (ce : Cell) (q9 : Addr) (u : SX) (t : State) (H1 : Heap) (locs1 : List Loc), t.heap = H1 → s.vm.Alike t.vm → px u → BX E u t → H.size ≤ H1.size → (∀ q : Nat, q < H.size → ¬ AX q → H1[q]? = H[q]?) → va_S A0 H0 H1 locs1 → H1[q9]? = some ce → ce.vm = .none → s.vm.findClass E = some ce.cls → vx_W p l e R s m args below meth c H1 locs1 (cells + mc) (slots + ms) Q (F0 m pc ls rest) q9)
    (kk : ∀ (r : UInt64) (u : S) (t : State) (H1 : Heap) (locs1 : List Loc), t.heap = H1 → s.vm.Alike t.vm → post r u → B u t → H.size ≤ H1.size → (∀ q : Nat, q < H.size → ¬ A1 q → H1[q]? = H[q]?) → va_S A0 H0 H1 locs1 → W p l e R s m args below meth c H1 locs1 (cells + mc) (slots + ms) Q (F0 m (pc + 3) ls (.double r :: rest))) : W p l e R s m args below meth c H locs cells slots Q (F0 m pc ls st0) := by
  intro T hT X
  rcases hr T hT X with ⟨v, st₀, t, T', L, h0, X', hL, e1, e2, ⟨⟨r, u, hv, hp, hb⟩, hF⟩, st⟩ | ⟨q, st₀, t, T', L, E, ce, h0, X', hL, e1, e2, ⟨u, hp, hb, hF⟩, hce, hcv, hcl, st⟩
  · cases hv
    obtain ⟨k1, k2, k3⟩ := vx_keep h0 e1 hS hA hf hL hF
    obtain ⟨t2, a1, b1⟩ := kk r u t T'.heap (locs ++ L) e1.symm (by rw [← e2]; exact X'.warmed.alike) hp hb k1 k2 k3 T' rfl X'
    exact ⟨t2, st t2 a1, b1⟩
  · obtain ⟨k1, k2, k3⟩ := vx_keep h0 e1 hS hAX hf hL hF
    obtain ⟨t2, a1, b1⟩ := kx E ce q u t T'.heap (locs ++ L) e1.symm (by rw [← e2]; exact X'.warmed.alike) hp hb k1 k2 k3 (by rw [e1]; exact hce) hcv hcl T' rfl X'
    exact ⟨t2, st.trans a1, b1⟩
theorem vx_callv {S SX : Type} {post : S → Prop} {px : SX → Prop} {B : S → State → Prop} {BX : String → SX → State → Prop} {AX : Nat → Prop} (hr : vx_Run p l e R s m args below meth c H locs cells slots mc ms (F0 m pc ls st0) rest (va_Qv post B A1 a) (vx_X px BX AX) free) (hS : va_S A0 H0 H locs) (hA : ∀ q, q < H.size → A1 q → A0 q) (hf : ∀ q, free q → A0 q) (hAX : ∀ q, q < H.size → AX q → A0 q)
    (kx : ∀ (E : String) (ce : Cell) (q9 : Addr) (u : SX) (t : State) (H1 : Heap) (locs1 : List Loc), t.heap = H1 → s.vm.Alike t.vm → px u → BX E u t → H.size ≤ H1.size → (∀ q : Nat, q < H.size → ¬ AX q → H1[q]? = H[q]?) → va_S A0 H0 H1 locs1 → H1[q9]? = some ce → ce.vm = .none → s.vm.findClass E = some ce.cls → vx_W p l e R s m args below meth c H1 locs1 (cells + mc) (slots + ms) Q (F0 m pc ls rest) q9)
    (kk : ∀ (u : S) (t : State) (H1 : Heap) (locs1 : List Loc), t.heap = H1 → s.vm.Alike t.vm → post u → B u t → H.size ≤ H1.size → (∀ q : Nat, q < H.size → ¬ A1 q → H1[q]? = H[q]?) → va_S A0 H0 H1 locs1 → W p l e R s m args below meth c H1 locs1 (cells + mc) (slots + ms) Q (F0 m (pc + 3) ls (rest))) : W p l e R s m args below meth c H locs cells slots Q (F0 m pc ls st0) := by
  intro T hT X
  rcases hr T hT X with ⟨v, st₀, t, T', L, h0, X', hL, e1, e2, ⟨⟨u, hv, hp, hb⟩, hF⟩, st⟩ | ⟨q, st₀, t, T', L, E, ce, h0, X', hL, e1, e2, ⟨u, hp, hb, hF⟩, hce, hcv, hcl, st⟩
  · cases hv
    obtain ⟨k1, k2, k3⟩ := vx_keep h0 e1 hS hA hf hL hF
    obtain ⟨t2, a1, b1⟩ := kk u t T'.heap (locs ++ L) e1.symm (by rw [← e2]; exact X'.warmed.alike) hp hb k1 k2 k3 T' rfl X'
    exact ⟨t2, st t2 a1, b1⟩
  · obtain ⟨k1, k2, k3⟩ := vx_keep h0 e1 hS hAX hf hL hF
    obtain ⟨t2, a1, b1⟩ := kx E ce q u t T'.heap (locs ++ L) e1.symm (by rw [← e2]; exact X'.warmed.alike) hp hb k1 k2 k3 (by rw [e1]; exact hce) hcv hcl T' rfl X'
    exact ⟨t2, st.trans a1, b1⟩
/-- caught by the row x of this method's table; the rows ahead don't take it -/
theorem vx_catch {own name : String} {E : String} {ce : Cell} {q : Addr} (hown : s.vm.findClass own = some m.cls) (pre : List ExceptionTableEntry) (x : ExceptionTableEntry) (suf : List ExceptionTableEntry) (hsplit : c.exceptionTable.toList = pre ++ x :: suf)
    (hpass : ∀ z ∈ pre, covers z pc = false ∨ (z.catchType ≠ 0 ∧ ∃ nm : String, (Cond.classLink own z.catchType nm).before args s = true ∧ va_Nc E nm s)) (hx : covers x pc = true) (h0 : x.catchType ≠ 0)
    (hlink : (Cond.classLink own x.catchType name).before args s = true) (hcast : (Cond.castable E name).before args s = true) (hcell : H[q]? = some ce) (hv : ce.vm = .none) (hcl : s.vm.findClass E = some ce.cls)
    (kk : W p l e R s m args below meth c H locs cells slots Q (F0 m x.handlerPc ls [.ref q])) : vx_W p l e R s m args below meth c H locs cells slots Q (F0 m pc ls rest) q := by
  intro T hT X
  have hpl : e.platform.magicAccessors = ({} : Platform).magicAccessors := by rw [X.admits.platform]
  obtain ⟨c3, c4, hc3, hc4, hasg⟩ := Cond.castable_spec hcast
  cases Option.some.inj (hc3.symm.trans hcl)
  obtain ⟨c5, hc5, hcl5⟩ := Cond.classLink_spec hown hlink e.platform hpl
  cases Option.some.inj (hc4.symm.trans hc5)
  obtain ⟨vm', X', st⟩ := X.thenCaughtThrough q (g := F0 m pc ls rest) rfl (Steps.refl _) (by rw [hT]; exact hcell) (by rw [hv]; rfl) (by obtain ⟨k9, h9, -⟩ := Vm.findClass_spec hcl; exact ⟨k9, h9⟩) pre x suf hsplit
    (fun z hz => by
      rcases hpass z hz with h | ⟨hz0, nm, hl1, hn1⟩
      · exact Or.inl h
      · obtain ⟨c6, hc6, hcl6⟩ := Cond.classLink_spec hown hl1 e.platform hpl
        obtain ⟨a8, b8, h1, h2, h3⟩ := hn1
        cases Option.some.inj (h1.symm.trans hcl)
        cases Option.some.inj (h2.symm.trans hc6)
        exact Or.inr ⟨hz0, _, hcl6, h3⟩) hx (Or.inr ⟨h0, c4, hcl5, hasg⟩)
  obtain ⟨t, a1, b1⟩ := kk (T.setVm vm') hT X'
  exact ⟨t, st.trans a1, b1⟩
end Rows
section Ends
variable {p : Program} {l : Launch} {e : Env} {R : Room} {s : State} {m : MethodId} {args : Array Value} {below : List Frame} {meth : Method} {c : Code} {H : Heap} {locs : List Loc} {cells slots : Nat} {Q : State → Prop}
variable {mc ms : Nat} {free : Addr → Prop} {A0 A1 : Nat → Prop} {H0 : Heap} {a : Array Value} {ls : Array Slot} {st0 rest : List Value}
variable {Qc : Array Value → State → Outcome → State → Prop} {XC : String → State → State → Prop}
/-- what a body that may throw owes at its end -/
def vx_MQ (below : List Frame) (Qc : Array Value → State → Outcome → State → Prop) (XC : String → State → State → Prop) (a : Array Value) (s : State) (mc ms : Nat) (free : Addr → Prop) : State → Prop := fun t =>
  ∃ o, t.status = .running ∧ Ended t below o ∧ vx_Q Qc XC mc ms free a s o t
theorem vx_ret {g : JFrame} {mc ms : Nat} (k : W p l e R s m args below meth c H locs cells slots (MQ below Qc args s mc ms free) g) : W p l e R s m args below meth c H locs cells slots (vx_MQ below Qc XC args s mc ms free) g := by
  intro T hT X
  obtain ⟨t, a1, o, b1, b2, b3, b4⟩ := k T hT X
  exact ⟨t, a1, o, b1, b2, Or.inl ⟨b3, b4⟩⟩
/-- not caught here: it goes on to the caller -/
theorem vx_widen {g : JFrame} {q : Addr} {k n : Nat} (h1 : cells ≤ k) (h2 : slots ≤ n) (kk : vx_W p l e R s m args below meth c H locs k n Q g q) : vx_W p l e R s m args below meth c H locs cells slots Q g q := fun T hT X => kk T hT (stand_widen X h1 h2)
theorem vx_out {pc : Nat} {E : String} {ce : Cell} {q : Addr} {mc ms : Nat} (hout : ∀ x ∈ c.exceptionTable.toList, covers x pc = false) (hlocks : meth.locks = false) (hcell : H[q]? = some ce) (hv : ce.vm = .none) (hcl : s.vm.findClass E = some ce.cls)
    (hx : ∀ t : State, t.heap = H → s.vm.Alike t.vm → XC E s t) (hf : ∀ z ∈ locs, free z.base) (hc : cells ≤ mc) (hs : slots ≤ ms) :
    vx_W p l e R s m args below meth c H locs cells slots (vx_MQ below Qc XC args s mc ms free) (F0 m pc ls rest) q := by
  intro T hT X
  obtain ⟨st1, hrun, hend, hW, hsm⟩ := X.leaveThrown q (g := F0 m pc ls rest) rfl rfl rfl hout hlocks
  have hcell9 : (T.setFrames (.throwing q :: below)).heap[q]? = some ce := by
    show T.heap[q]? = some ce
    rw [hT]; exact hcell
  exact ⟨_, st1, .threw q, hrun, hend, Or.inr ⟨q, rfl, E, ce, locs, hx _ hT hW.alike, hcell9, hv, hcl, hW, hsm.mono hc hs, hf⟩⟩
theorem vx_frame {U : State} {k n : Nat} (h : s.sameButNew ({ U with vm := s.vm } : State) locs k n) : s.heap.size ≤ U.heap.size ∧ ∀ q : Nat, q < s.heap.size → (∀ z ∈ locs, z.base ≠ q) → U.heap[q]? = s.heap[q]? := by
  obtain ⟨-, h2, -, -, -, h6⟩ := h
  refine ⟨h2, fun q hq hz => ?_⟩
  obtain ⟨c9, e1, e2, e3, e4⟩ := h6 q _ (Array.getElem?_eq_getElem hq)
  have hs : c9.slots = (s.heap[q]).slots := Array.ext_getElem? fun i => e4 i fun hm => hz _ hm rfl
  have h9 : c9 = s.heap[q] := by
    rw [hs] at e2
    exact e2
  have e5 : U.heap[q]? = some c9 := e1
  rw [e5, h9, Array.getElem?_eq_getElem hq]
/-- the words of a throw but the four that speak of the heap -/
def vx_no (w : Cond) : Bool := decide (w ≠ .isRef (.static Bundle.tN "UNASSIGNED_STACK" Bundle.steD)) && decide (w ≠ .isRef (.static Bundle.tN "SUPPRESSED_SENTINEL" Bundle.listD)) && decide (w ≠ .laysStatic Bundle.tN "UNASSIGNED_STACK" Bundle.steD) && decide (w ≠ .laysStatic Bundle.tN "SUPPRESSED_SENTINEL" Bundle.listD)
def vx_at0 (own : String) (ic : Nat) (X : String) (names : List String) : List Cond := (Bundle.ownAtoms0 own ic X names).filter vx_no
def vx_atS (own : String) (ic : Nat) (X : String) (names : List String) : List Cond := (Bundle.ownAtoms own ic X names).filter vx_no
/-- a word that the tables alone decide, or a good one -/
def vx_ot (w : Cond) : Bool := w.onTables || goodWord w
theorem vx_ot_at {args a' : Array Value} {s U : State} {w : Cond} (hW : s.WarmedH U.vm) (hvm : s.vm = U.vm) (hg : vx_ot w = true) (h : w.before args s = true) : w.before a' U = true := by
  simp only [vx_ot, Bool.or_eq_true] at hg
  rcases hg with hg | hg
  · exact va_tabs hg hvm h
  · exact word_at hW (good_of_word hg) h
/-- a list's words: the good ones out of the method's own list, the others by premises of their own -/
theorem vx_hat {args : Array Value} {s : State} {L B : List Cond} (h1 : ∀ w ∈ L.filter goodWord, w.before args s = true) (h2 : ∀ w ∈ L.filter (fun w => !goodWord w), w ∈ B) (h3 : ∀ w ∈ B, w.before args s = true) : ∀ w ∈ L, w.before args s = true := by
  intro w hw
  by_cases g : goodWord w = true
  · exact h1 w (List.mem_filter.mpr ⟨hw, g⟩)
  · refine h3 w (h2 w (List.mem_filter.mpr ⟨hw, ?_⟩))
    show (!goodWord w) = true
    cases hgw : goodWord w
    · rfl
    · exact absurd hgw g
theorem vx_c {args : Array Value} {s : State} {w : Cond} {B : List Cond} (h : w.before args s = true) (t : ∀ w ∈ B, w.before args s = true) : ∀ w' ∈ w :: B, w'.before args s = true := fun w' h' => (List.mem_cons.mp h').elim (fun e => by rw [e]; exact h) (t w')
theorem vx_n {args : Array Value} {s : State} : ∀ w ∈ ([] : List Cond), w.before args s = true := fun _ h => nomatch h
theorem vx_own {args : Array Value} {s : State} {L : List Cond} (h1 : ∀ w ∈ L.filter vx_no, w.before args s = true)
    (hU : (Cond.isRef (.static Bundle.tN "UNASSIGNED_STACK" Bundle.steD)).before args s = true) (hN : (Cond.isRef (.static Bundle.tN "SUPPRESSED_SENTINEL" Bundle.listD)).before args s = true)
    (lU : (Cond.laysStatic Bundle.tN "UNASSIGNED_STACK" Bundle.steD).before args s = true) (lN : (Cond.laysStatic Bundle.tN "SUPPRESSED_SENTINEL" Bundle.listD).before args s = true) : ∀ w ∈ L, w.before args s = true := by
  intro w hw
  by_cases e1 : w = .isRef (.static Bundle.tN "UNASSIGNED_STACK" Bundle.steD)
  · rw [e1]; exact hU
  · by_cases e2 : w = .isRef (.static Bundle.tN "SUPPRESSED_SENTINEL" Bundle.listD)
    · rw [e2]; exact hN
    · by_cases e3 : w = .laysStatic Bundle.tN "UNASSIGNED_STACK" Bundle.steD
      · rw [e3]; exact lU
      · by_cases e4 : w = .laysStatic Bundle.tN "SUPPRESSED_SENTINEL" Bundle.listD
        · rw [e4]; exact lN
        · exact h1 w (List.mem_filter.mpr ⟨hw, by unfold vx_no; rw [decide_eq_true e1, decide_eq_true e2, decide_eq_true e3, decide_eq_true e4]; rfl⟩)
/-- where a static field lies, its class's statics cell in H -/
def vx_L (C n d : String) (A : Nat → Prop) (U : State) (H : Heap) : Prop := ∃ (c : ClassId) (k : Class) (i : Nat) (f : Field) (a : Nat) (cell : Cell), U.vm.findClass C = some c ∧ U.fieldFound? C n d = some (c, k, i, f) ∧ f.isStatic = true ∧ k.statics = some a ∧ H[a]? = some cell ∧ cell.vm.isStatics = true ∧ cell.cls = c ∧ f.slot < cell.slots.size ∧ k.staticTypes[f.slot]? = some f.type ∧ ¬ A a
theorem vx_L.moved {C n d : String} {A : Nat → Prop} {u U : State} {H : Heap} (hvm : u.vm.Alike U.vm) (h : vx_L C n d A u H) : vx_L C n d A U H := by
  obtain ⟨c, k, i, f, a, cell, h1, h2, h3, h4, h5, h6, h7, h8, h9, h10⟩ := h
  obtain ⟨k', hi', he⟩ := State.fieldFound?_setVm hvm h2
  exact ⟨c, k', i, f, a, cell, by rw [hvm.findClass]; exact h1, hi', h3, by rw [he]; exact h4, h5, h6, h7, h8, by rw [he]; exact h9, h10⟩
theorem vx_L.kept {C n d : String} {A : Nat → Prop} {U : State} {H H1 : Heap} (h : vx_L C n d A U H) (hq : ∀ a : Nat, a < H.size → ¬ A a → H1[a]? = H[a]?) : vx_L C n d A U H1 := by
  obtain ⟨c, k, i, f, a, cell, h1, h2, h3, h4, h5, h6, h7, h8, h9, h10⟩ := h
  exact ⟨c, k, i, f, a, cell, h1, h2, h3, h4, by rw [hq a (Array.getElem?_eq_some_iff.mp h5).1 h10]; exact h5, h6, h7, h8, h9, h10⟩
theorem vx_L.narrow {C n d : String} {A B : Nat → Prop} {U : State} {H : Heap} (h : vx_L C n d A U H) (hAB : ∀ q, B q → A q) : vx_L C n d B U H := by
  obtain ⟨c, k, i, f, a, cell, h1, h2, h3, h4, h5, h6, h7, h8, h9, h10⟩ := h
  exact ⟨c, k, i, f, a, cell, h1, h2, h3, h4, h5, h6, h7, h8, h9, fun z => h10 (hAB _ z)⟩
theorem vx_L.word {C n d : String} {A : Nat → Prop} {s : State} {args : Array Value} (h : vx_L C n d A s s.heap) : (Cond.laysStatic C n d).before args s = true := by
  obtain ⟨c, k, i, f, a, cell, h1, h2, h3, h4, h5, h6, h7, h8, h9, -⟩ := h
  show (Cond.laysStatic C n d).holds args s none s [] = true
  exact Cond.laysStatic_of h1 h2 h3 h4 h5 h6 h7 h8 h9
/-- .. and what it holds: null or some reference -/
def vx_Zq (C n d : String) (A : Nat → Prop) (U : State) (H : Heap) : Prop := va_Zq C n d A U H ∧ vx_L C n d A U H
theorem vx_Zq.moved {C n d : String} {A : Nat → Prop} {u U : State} {H : Heap} (hvm : u.vm.Alike U.vm) (h : vx_Zq C n d A u H) : vx_Zq C n d A U H := ⟨va_Zq.moved hvm h.1, vx_L.moved hvm h.2⟩
theorem vx_Zq.kept {C n d : String} {A : Nat → Prop} {U : State} {H H1 : Heap} (h : vx_Zq C n d A U H) (hq : ∀ a : Nat, a < H.size → ¬ A a → H1[a]? = H[a]?) : vx_Zq C n d A U H1 := ⟨va_Zq.kept h.1 hq, vx_L.kept h.2 hq⟩
theorem vx_Zq.narrow {C n d : String} {A B : Nat → Prop} {U : State} {H : Heap} (h : vx_Zq C n d A U H) (hAB : ∀ q, B q → A q) : vx_Zq C n d B U H := ⟨va_Zq.narrow h.1 hAB, vx_L.narrow h.2 hAB⟩
theorem vx_Zqof {args : Array Value} {s : State} {C n d : String} {A : Nat → Prop} (hl : (Cond.laysStatic C n d).before args s = true) (hini : (Cond.initialized C).before args s = true) (h : (Cond.isRef (.static C n d)).before args s = true) (hA : ∀ a : Nat, a < s.heap.size → ¬ A a) : vx_Zq C n d A s s.heap := by
  refine ⟨va_Zqof hl hini h hA, ?_⟩
  obtain ⟨c, k, i, f, a, cell, h1, h2, h3, h4, h5, h6, h7, h8, h9⟩ := Cond.laysStatic_spec hl
  exact ⟨c, k, i, f, a, cell, h1, h2, h3, h4, h5, h6, h7, h8, h9, hA a (Array.getElem?_eq_some_iff.mp h5).1⟩
theorem vx_isRef {C n d : String} {v : Value} {A : Nat → Prop} {s : State} {args : Array Value} (h : va_Z C n d v A s s.heap) (hv : v.isRef = true) : (Cond.isRef (.static C n d)).before args s = true := by
  obtain ⟨cf, kf, fi, f, a, cell, h1, h2, h3, h4, h5, h6, h7, -⟩ := h
  have he : (Term.static C n d).eval args s none [] s = some v := by
    simp [Term.eval, State.fieldNamed?, h1, h2, h4, h5, h6, h7]
  simp only [Cond.before, Cond.holds, Cond.value, he]
  cases v <;> simp_all [Value.isRef]
theorem vx_isRefq {C n d : String} {A : Nat → Prop} {s : State} {args : Array Value} (h : va_Zq C n d A s s.heap) : (Cond.isRef (.static C n d)).before args s = true := by
  rcases h with h | ⟨t, h⟩
  · exact vx_isRef h rfl
  · exact vx_isRef h rfl
/-- the same frame, seen from here: as if the method were called anew in this heap -/
theorem vx_rebase {T : State} (X : Stand p l e R s m args below meth c T locs cells slots) {R' : Room} (hf : R'.frames ≤ R.frames) (hl : R'.locals ≤ R.locals) (hc : cells + R'.cells ≤ R.cells) (hs : slots + R'.slots ≤ R.slots) :
    Stand p l e R' ((T.setVm s.vm).setFrames (.invoking m args :: below)) m args below meth c T [] 0 0 := by
  have htop : (T.setVm s.vm).topJava?.isSome := X.here.top
  have hF : ((T.setVm s.vm).setFrames (.invoking m args :: below)).frames = .invoking m args :: below := State.frames_setFrames _ (State.cur_lt_of_top htop)
  obtain ⟨g₀, hg0⟩ := Option.isSome_iff_exists.mp htop
  obtain ⟨r, hr⟩ := State.topJava?_eq_some.mp hg0
  have hl9 : e.platform.stackLimits (T.setVm s.vm).me = e.platform.stackLimits s.me := X.limits
  have hb9 : (T.setVm s.vm).me.stackBytes = s.me.stackBytes := X.bytes
  refine ⟨X.admits, X.cas, X.clock, hF, ?_, X.hears, X.method, X.code, X.here, X.tail, X.warmed, ?_, ?_, ?_⟩
  · have h := X.room
    have hU : ((T.setVm s.vm).setFrames (.invoking m args :: below)).localsInUse = s.localsInUse := by
      rw [State.localsInUse_invoking hF (meth := meth) (c := c) X.method X.code, State.localsInUse_invoking X.frames X.method X.code]
    simp only [State.hasRoom, Bool.and_eq_true, decide_eq_true_eq] at h ⊢
    obtain ⟨⟨⟨⟨h1, h2, h3, h4, h5, h6⟩, h7⟩, h8⟩, h9⟩ := h
    rw [X.frames, List.length_cons] at h2 h3
    have q1 := X.heapSize
    have q2 := X.used
    simp only [hF, hU, List.length_cons, State.stackLimits_setFrames, State.stackBytes_setFrames, hl9, hb9]
    refine ⟨⟨⟨⟨by omega, by omega, by omega, by omega, by omega, h6⟩, ?_⟩, ?_⟩, X.book⟩
    · show T.heap.size + R'.cells ≤ e.platform.maxCells
      omega
    · show T.slotsUsed + R'.slots ≤ e.platform.maxSlots
      omega
  · rw [State.stackLimits_setFrames]; rfl
  · rw [State.stackBytes_setFrames]; rfl
  · refine ⟨?_, Nat.le_refl _, Nat.le_refl _, ?_, ?_, fun a c9 h9 => ⟨c9, h9, rfl, rfl, fun _ _ => rfl⟩⟩
    · obtain ⟨t, ht, -⟩ := State.frames_cons hr
      show T.setVm s.vm = { ((T.setVm s.vm).setFrames (.invoking m args :: below)).setFrames (T.setVm s.vm).frames with heap := T.heap, slotsUsed := T.slotsUsed }
      rw [State.setFrames_setFrames, State.setFrames_self ht]
      rfl
    · show T.slotsUsed = T.slotsUsed + ((T.heap.toList.drop T.heap.size).map (·.slots.size)).sum
      rw [List.drop_eq_nil_of_le (Nat.le_of_eq Array.length_toList)]
      rfl
    · show ((T.heap.toList.drop T.heap.size).map (·.slots.size)).sum ≤ 0
      rw [List.drop_eq_nil_of_le (Nat.le_of_eq Array.length_toList)]
      exact Nat.le_refl _
/-- 'throw new E()': new; dup; invokespecial; athrow -/
theorem vx_throw0 {cc : ByteArray} {pc : Nat} (hexec : p.tables.exec = Jvm.exec) (hb : c.code = cc) (hl : l.stackTraces = false) {own cls : String} {names : List String} {ik ic mc ms : Nat} {A : Nat → Prop}
    (hown : s.vm.findClass own = some m.cls) (hcls : Bundle.fit cls = true) (hnames : ∀ n ∈ names, Bundle.fit n = true)
    (hk : (Cond.classLink own ik cls).before args s = true) (hini : (Cond.initialized cls).before args s = true) (hat : ∀ w ∈ vx_at0 own ic cls names, w.before args s = true)
    (hgood : ∀ w ∈ Cond.classLink own ik cls :: Cond.initialized cls :: vx_at0 own ic cls names, vx_ot w = true)
    (hU : vx_Zq Bundle.tN "UNASSIGNED_STACK" Bundle.steD A s s.heap) (hN : vx_Zq Bundle.tN "SUPPRESSED_SENTINEL" Bundle.listD A s s.heap) (hS : va_S A s.heap H locs) (hsize : ls.size = c.maxLocals)
    (d0 : decode cc pc = .ok (.new ik, 3)) (d3 : decode cc (pc + 3) = .ok (.dup, 1)) (d4 : decode cc (pc + 4) = .ok (.invokespecial ic, 3)) (d7 : decode cc (pc + 7) = .ok (.athrow, 1))
    (hout : ∀ x ∈ c.exceptionTable.toList, covers x (pc + 7) = false)
    (hRframes : names.length + 3 < R.frames) (hRlocals : (rest.map fun v => v.category).sum + (13 * (names.length + 1) + 42) ≤ R.locals) (hRcells : cells + 1 ≤ R.cells) (hRslots : slots + 6 ≤ R.slots) (hlocks : meth.locks = false)
    (hx : ∀ t : State, s.vm.Alike t.vm → H.size ≤ t.heap.size → (∀ q : Nat, q < H.size → t.heap[q]? = H[q]?) → XC cls s t)
    (hf : ∀ z ∈ locs, free z.base) (hc : cells + 1 ≤ mc) (hs : slots + 6 ≤ ms) :
    W p l e R s m args below meth c H locs cells slots (vx_MQ below Qc XC args s mc ms free) (F0 m pc ls rest) := by
  intro T hT X
  have htr : e.platform.stackTraces = false := (show e.platform.stackTraces = l.stackTraces by rw [X.admits.platform]).trans hl
  have Y := vx_rebase X (R' := { frames := R.frames, locals := R.locals, cells := 1, slots := 6 }) (Nat.le_refl _) (Nat.le_refl _) hRcells hRslots
  obtain ⟨s', hA⟩ : ∃ z, z = (T.setVm s.vm).setFrames (.invoking m args :: below) := ⟨_, rfl⟩
  rw [← hA] at Y
  have hvm : s'.vm = s.vm := by rw [hA]; rfl
  have hhp : s'.heap = H := by rw [hA]; exact hT
  have hW0 : s.WarmedH s'.vm := by rw [hvm]; exact State.WarmedH.refl s
  have hat' : ∀ w ∈ vx_at0 own ic cls names, w.before args s' = true := fun w hw => vx_ot_at hW0 hvm.symm (hgood w (List.mem_cons_of_mem _ (List.mem_cons_of_mem _ hw))) (hat w hw)
  have hk' : (Cond.classLink own ik cls).before args s' = true := vx_ot_at hW0 hvm.symm (hgood _ List.mem_cons_self) hk
  have hini' : (Cond.initialized cls).before args s' = true := vx_ot_at hW0 hvm.symm (hgood _ (List.mem_cons_of_mem _ List.mem_cons_self)) hini
  have hU' : vx_Zq Bundle.tN "UNASSIGNED_STACK" Bundle.steD A s' s'.heap := by rw [hhp]; exact vx_Zq.moved hW0.alike (hU.kept hS.2.1)
  have hN' : vx_Zq Bundle.tN "SUPPRESSED_SENTINEL" Bundle.listD A s' s'.heap := by rw [hhp]; exact vx_Zq.moved hW0.alike (hN.kept hS.2.1)
  have h : ∀ w ∈ Bundle.ownAtoms0 own ic cls names, w.before args s' = true := vx_own hat' (vx_isRefq hU'.1) (vx_isRefq hN'.1) hU'.2.word hN'.2.word
  have hown' : s'.vm.findClass own = some m.cls := by rw [hvm]; exact hown
  have hins : (Cond.instantiable cls 6).before args s' = true := h _ (by simp [Bundle.ownAtoms0])
  obtain ⟨vm₁, cX, kX, hfX, hkX, -, -, X₁, st1⟩ := Y.newCold hexec (own := own) (C := cls) (index := ik) (n := 6) hown' hk' hins hini'
    (g := F0 m pc ls rest) rfl (by rw [hb]; exact d0) (Nat.le_refl _) (Nat.le_refl _)
  generalize hT1 : (T.setVm vm₁).pushCell { cls := cX, slots := kX.instanceTypes.map defaultValue, vm := .none } = T1 at X₁ st1
  have hcat : (Value.ref T.heap.size).category = 1 := rfl
  have hcellA : T1.heap[T.heap.size]? = some (freshCell cX kX) := by rw [← hT1]; exact State.heap_pushCell_size _ _
  have d3' : decode c.code (pc + 3) = .ok (.dup, 1) := by rw [hb]; exact d3
  obtain ⟨U, hsteps, hrun, hend, hW, hsame, ce, hce, hO⟩ := X₁.ctorThrow0 hexec htr (own := own) (cls := cls) (names := names) (ic := ic) hown' hcls hnames h (fun x hx => nomatch hx) hfX hkX hcellA (by rw [hhp, hT]; exact Nat.le_refl _)
    (g := { method := m, pc := pc + 4, locals := ls, stack := .ref T.heap.size :: .ref T.heap.size :: rest, locked := none }) rfl hsize rfl rfl (rest := rest) rfl
    (by rw [hb]; exact d4) (by rw [hb]; exact d7) hout hRframes (by simp only [List.map_cons, List.sum_cons, hcat]; omega) hlocks
  obtain ⟨f1, f2⟩ := vx_frame hsame
  rw [hhp] at f1 f2
  have hWs : s.WarmedH U.vm := State.WarmedH.trans hW0 hW
  have hcl : s.vm.findClass cls = some ce.cls := by
    have h9 := hO.cls
    rw [hvm] at h9
    exact h9
  have hall : s.sameButNew ({ U with vm := s.vm } : State) locs mc ms := by
    subst hA
    obtain ⟨e1, e2⟩ := hsame
    rw [State.setFrames_setFrames] at e1
    have h2 : (T.setVm s.vm).sameButNew ({ U with vm := s.vm } : State) [] (0 + 1) (0 + 6) := ⟨e1, e2⟩
    have h3 := X.same.trans h2
    rw [List.append_nil] at h3
    exact h3.mono hc hs
  refine ⟨U, ?_, .threw T.heap.size, hrun, hend, Or.inr ⟨T.heap.size, rfl, cls, ce, locs, hx U hWs.alike f1 (fun q hq => f2 q hq (fun z hz => nomatch hz)), hce, hO.vm, hcl, hWs, hall, hf⟩⟩
  refine st1 _ ?_
  show Steps p.tables e below (T1.setTop { method := m, pc := pc + 3, locals := ls, stack := .ref T.heap.size :: rest, locked := none }) _
  jvm_step X₁.here [X₁.here.top, hexec, d3', Value.category]
  exact hsteps
/-- 'throw new E("text")': new; dup; ldc; invokespecial; athrow -/
theorem vx_throwS {cc : ByteArray} {pc : Nat} (hexec : p.tables.exec = Jvm.exec) (hb : c.code = cc) (hl : l.stackTraces = false) {own cls text : String} {names : List String} {ik is ic mc ms sa : Nat} {A : Nat → Prop}
    (hown : s.vm.findClass own = some m.cls) (hcls : Bundle.fit cls = true) (hnames : ∀ n ∈ names, Bundle.fit n = true)
    (hk : (Cond.classLink own ik cls).before args s = true) (hini : (Cond.initialized cls).before args s = true) (hstr : vk_R own is text sa s) (hat : ∀ w ∈ vx_atS own ic cls names, w.before args s = true)
    (hgood : ∀ w ∈ Cond.classLink own ik cls :: Cond.initialized cls :: vx_atS own ic cls names, vx_ot w = true)
    (hU : vx_Zq Bundle.tN "UNASSIGNED_STACK" Bundle.steD A s s.heap) (hN : vx_Zq Bundle.tN "SUPPRESSED_SENTINEL" Bundle.listD A s s.heap) (hS : va_S A s.heap H locs) (hsize : ls.size = c.maxLocals)
    (d0 : decode cc pc = .ok (.new ik, 3)) (d3 : decode cc (pc + 3) = .ok (.dup, 1)) (d4 : decode cc (pc + 4) = .ok (.ldc is, 2)) (d6 : decode cc (pc + 6) = .ok (.invokespecial ic, 3)) (d9 : decode cc (pc + 9) = .ok (.athrow, 1))
    (hout : ∀ x ∈ c.exceptionTable.toList, covers x (pc + 9) = false)
    (hRframes : names.length + 3 < R.frames) (hRlocals : (rest.map fun v => v.category).sum + (13 * (names.length + 1) + 43) ≤ R.locals) (hRcells : cells + 1 ≤ R.cells) (hRslots : slots + 6 ≤ R.slots) (hlocks : meth.locks = false)
    (hx : ∀ t : State, s.vm.Alike t.vm → H.size ≤ t.heap.size → (∀ q : Nat, q < H.size → t.heap[q]? = H[q]?) → XC cls s t)
    (hf : ∀ z ∈ locs, free z.base) (hc : cells + 1 ≤ mc) (hs : slots + 6 ≤ ms) :
    W p l e R s m args below meth c H locs cells slots (vx_MQ below Qc XC args s mc ms free) (F0 m pc ls rest) := by
  intro T hT X
  have htr : e.platform.stackTraces = false := (show e.platform.stackTraces = l.stackTraces by rw [X.admits.platform]).trans hl
  have Y := vx_rebase X (R' := { frames := R.frames, locals := R.locals, cells := 1, slots := 6 }) (Nat.le_refl _) (Nat.le_refl _) hRcells hRslots
  obtain ⟨s', hA⟩ : ∃ z, z = (T.setVm s.vm).setFrames (.invoking m args :: below) := ⟨_, rfl⟩
  rw [← hA] at Y
  have hvm : s'.vm = s.vm := by rw [hA]; rfl
  have hhp : s'.heap = H := by rw [hA]; exact hT
  have hW0 : s.WarmedH s'.vm := by rw [hvm]; exact State.WarmedH.refl s
  have hat' : ∀ w ∈ vx_atS own ic cls names, w.before args s' = true := fun w hw => vx_ot_at hW0 hvm.symm (hgood w (List.mem_cons_of_mem _ (List.mem_cons_of_mem _ hw))) (hat w hw)
  have hk' : (Cond.classLink own ik cls).before args s' = true := vx_ot_at hW0 hvm.symm (hgood _ List.mem_cons_self) hk
  have hini' : (Cond.initialized cls).before args s' = true := vx_ot_at hW0 hvm.symm (hgood _ (List.mem_cons_of_mem _ List.mem_cons_self)) hini
  have hU' : vx_Zq Bundle.tN "UNASSIGNED_STACK" Bundle.steD A s' s'.heap := by rw [hhp]; exact vx_Zq.moved hW0.alike (hU.kept hS.2.1)
  have hN' : vx_Zq Bundle.tN "SUPPRESSED_SENTINEL" Bundle.listD A s' s'.heap := by rw [hhp]; exact vx_Zq.moved hW0.alike (hN.kept hS.2.1)
  have h : ∀ w ∈ Bundle.ownAtoms own ic cls names, w.before args s' = true := vx_own hat' (vx_isRefq hU'.1) (vx_isRefq hN'.1) hU'.2.word hN'.2.word
  have hown' : s'.vm.findClass own = some m.cls := by rw [hvm]; exact hown
  have hins : (Cond.instantiable cls 6).before args s' = true := h _ (by simp [Bundle.ownAtoms])
  obtain ⟨vm₁, cX, kX, hfX, hkX, -, -, X₁, st1⟩ := Y.newCold hexec (own := own) (C := cls) (index := ik) (n := 6) hown' hk' hins hini'
    (g := F0 m pc ls rest) rfl (by rw [hb]; exact d0) (Nat.le_refl _) (Nat.le_refl _)
  generalize hT1 : (T.setVm vm₁).pushCell { cls := cX, slots := kX.instanceTypes.map defaultValue, vm := .none } = T1 at X₁ st1
  have hcat : (Value.ref T.heap.size).category = 1 := rfl
  have hcellA : T1.heap[T.heap.size]? = some (freshCell cX kX) := by rw [← hT1]; exact State.heap_pushCell_size _ _
  have d3' : decode c.code (pc + 3) = .ok (.dup, 1) := by rw [hb]; exact d3
  have d4' : decode c.code (pc + 4) = .ok (.ldc is, 2) := by rw [hb]; exact d4
  have hstr' : vk_R own is text sa s' := vk_R.warm hW0 hstr
  obtain ⟨U, hsteps, hrun, hend, hW, hsame, ce, hce, hO⟩ := X₁.ctorThrowS hexec htr (own := own) (cls := cls) (names := names) (ic := ic) hown' hcls hnames h (fun x hx => nomatch hx) hfX hkX hcellA (by rw [hhp, hT]; exact Nat.le_refl _) (msg := .ref sa) rfl
    (g := { method := m, pc := pc + 6, locals := ls, stack := .ref sa :: .ref T.heap.size :: .ref T.heap.size :: rest, locked := none }) rfl hsize rfl rfl (rest := rest) rfl
    (by rw [hb]; exact d6) (by rw [hb]; exact d9) hout hRframes (by simp only [List.map_cons, List.sum_cons, hcat]; omega) hlocks
  obtain ⟨f1, f2⟩ := vx_frame hsame
  rw [hhp] at f1 f2
  have hWs : s.WarmedH U.vm := State.WarmedH.trans hW0 hW
  have hcl : s.vm.findClass cls = some ce.cls := by
    have h9 := hO.cls
    rw [hvm] at h9
    exact h9
  have hall : s.sameButNew ({ U with vm := s.vm } : State) locs mc ms := by
    subst hA
    obtain ⟨e1, e2⟩ := hsame
    rw [State.setFrames_setFrames] at e1
    have h2 : (T.setVm s.vm).sameButNew ({ U with vm := s.vm } : State) [] (0 + 1) (0 + 6) := ⟨e1, e2⟩
    have h3 := X.same.trans h2
    rw [List.append_nil] at h3
    exact h3.mono hc hs
  refine ⟨U, ?_, .threw T.heap.size, hrun, hend, Or.inr ⟨T.heap.size, rfl, cls, ce, locs, hx U hWs.alike f1 (fun q hq => f2 q hq (fun z hz => nomatch hz)), hce, hO.vm, hcl, hWs, hall, hf⟩⟩
  refine st1 _ ?_
  show Steps p.tables e below (T1.setTop { method := m, pc := pc + 3, locals := ls, stack := .ref T.heap.size :: rest, locked := none }) _
  jvm_step X₁.here [X₁.here.top, hexec, d3', Value.category]
  exact X₁.ldcString hexec (own := own) (text := text) (index := is) (a := sa) hown' hstr'.1 hstr'.2
    (g := { method := m, pc := pc + 4, locals := ls, stack := .ref T.heap.size :: .ref T.heap.size :: rest, locked := none }) rfl d4' _ hsteps
/-- 'throw new E("text")', the text by a wide index -/
theorem vx_throwSW {cc : ByteArray} {pc : Nat} (hexec : p.tables.exec = Jvm.exec) (hb : c.code = cc) (hl : l.stackTraces = false) {own cls text : String} {names : List String} {ik is ic mc ms sa : Nat} {A : Nat → Prop}
    (hown : s.vm.findClass own = some m.cls) (hcls : Bundle.fit cls = true) (hnames : ∀ n ∈ names, Bundle.fit n = true)
    (hk : (Cond.classLink own ik cls).before args s = true) (hini : (Cond.initialized cls).before args s = true) (hstr : vk_R own is text sa s) (hat : ∀ w ∈ vx_atS own ic cls names, w.before args s = true)
    (hgood : ∀ w ∈ Cond.classLink own ik cls :: Cond.initialized cls :: vx_atS own ic cls names, vx_ot w = true)
    (hU : vx_Zq Bundle.tN "UNASSIGNED_STACK" Bundle.steD A s s.heap) (hN : vx_Zq Bundle.tN "SUPPRESSED_SENTINEL" Bundle.listD A s s.heap) (hS : va_S A s.heap H locs) (hsize : ls.size = c.maxLocals)
    (d0 : decode cc pc = .ok (.new ik, 3)) (d3 : decode cc (pc + 3) = .ok (.dup, 1)) (d4 : decode cc (pc + 4) = .ok (.ldc_w is, 3)) (d7 : decode cc (pc + 7) = .ok (.invokespecial ic, 3)) (d10 : decode cc (pc + 10) = .ok (.athrow, 1))
    (hout : ∀ x ∈ c.exceptionTable.toList, covers x (pc + 10) = false)
    (hRframes : names.length + 3 < R.frames) (hRlocals : (rest.map fun v => v.category).sum + (13 * (names.length + 1) + 43) ≤ R.locals) (hRcells : cells + 1 ≤ R.cells) (hRslots : slots + 6 ≤ R.slots) (hlocks : meth.locks = false)
    (hx : ∀ t : State, s.vm.Alike t.vm → H.size ≤ t.heap.size → (∀ q : Nat, q < H.size → t.heap[q]? = H[q]?) → XC cls s t)
    (hf : ∀ z ∈ locs, free z.base) (hc : cells + 1 ≤ mc) (hs : slots + 6 ≤ ms) :
    W p l e R s m args below meth c H locs cells slots (vx_MQ below Qc XC args s mc ms free) (F0 m pc ls rest) := by
  intro T hT X
  have htr : e.platform.stackTraces = false := (show e.platform.stackTraces = l.stackTraces by rw [X.admits.platform]).trans hl
  have Y := vx_rebase X (R' := { frames := R.frames, locals := R.locals, cells := 1, slots := 6 }) (Nat.le_refl _) (Nat.le_refl _) hRcells hRslots
  obtain ⟨s', hA⟩ : ∃ z, z = (T.setVm s.vm).setFrames (.invoking m args :: below) := ⟨_, rfl⟩
  rw [← hA] at Y
  have hvm : s'.vm = s.vm := by rw [hA]; rfl
  have hhp : s'.heap = H := by rw [hA]; exact hT
  have hW0 : s.WarmedH s'.vm := by rw [hvm]; exact State.WarmedH.refl s
  have hat' : ∀ w ∈ vx_atS own ic cls names, w.before args s' = true := fun w hw => vx_ot_at hW0 hvm.symm (hgood w (List.mem_cons_of_mem _ (List.mem_cons_of_mem _ hw))) (hat w hw)
  have hk' : (Cond.classLink own ik cls).before args s' = true := vx_ot_at hW0 hvm.symm (hgood _ List.mem_cons_self) hk
  have hini' : (Cond.initialized cls).before args s' = true := vx_ot_at hW0 hvm.symm (hgood _ (List.mem_cons_of_mem _ List.mem_cons_self)) hini
  have hU' : vx_Zq Bundle.tN "UNASSIGNED_STACK" Bundle.steD A s' s'.heap := by rw [hhp]; exact vx_Zq.moved hW0.alike (hU.kept hS.2.1)
  have hN' : vx_Zq Bundle.tN "SUPPRESSED_SENTINEL" Bundle.listD A s' s'.heap := by rw [hhp]; exact vx_Zq.moved hW0.alike (hN.kept hS.2.1)
  have h : ∀ w ∈ Bundle.ownAtoms own ic cls names, w.before args s' = true := vx_own hat' (vx_isRefq hU'.1) (vx_isRefq hN'.1) hU'.2.word hN'.2.word
  have hown' : s'.vm.findClass own = some m.cls := by rw [hvm]; exact hown
  have hins : (Cond.instantiable cls 6).before args s' = true := h _ (by simp [Bundle.ownAtoms])
  obtain ⟨vm₁, cX, kX, hfX, hkX, -, -, X₁, st1⟩ := Y.newCold hexec (own := own) (C := cls) (index := ik) (n := 6) hown' hk' hins hini'
    (g := F0 m pc ls rest) rfl (by rw [hb]; exact d0) (Nat.le_refl _) (Nat.le_refl _)
  generalize hT1 : (T.setVm vm₁).pushCell { cls := cX, slots := kX.instanceTypes.map defaultValue, vm := .none } = T1 at X₁ st1
  have hcat : (Value.ref T.heap.size).category = 1 := rfl
  have hcellA : T1.heap[T.heap.size]? = some (freshCell cX kX) := by rw [← hT1]; exact State.heap_pushCell_size _ _
  have d3' : decode c.code (pc + 3) = .ok (.dup, 1) := by rw [hb]; exact d3
  have d4' : decode c.code (pc + 4) = .ok (.ldc_w is, 3) := by rw [hb]; exact d4
  have hstr' : vk_R own is text sa s' := vk_R.warm hW0 hstr
  obtain ⟨U, hsteps, hrun, hend, hW, hsame, ce, hce, hO⟩ := X₁.ctorThrowS hexec htr (own := own) (cls := cls) (names := names) (ic := ic) hown' hcls hnames h (fun x hx => nomatch hx) hfX hkX hcellA (by rw [hhp, hT]; exact Nat.le_refl _) (msg := .ref sa) rfl
    (g := { method := m, pc := pc + 7, locals := ls, stack := .ref sa :: .ref T.heap.size :: .ref T.heap.size :: rest, locked := none }) rfl hsize rfl rfl (rest := rest) rfl
    (by rw [hb]; exact d7) (by rw [hb]; exact d10) hout hRframes (by simp only [List.map_cons, List.sum_cons, hcat]; omega) hlocks
  obtain ⟨f1, f2⟩ := vx_frame hsame
  rw [hhp] at f1 f2
  have hWs : s.WarmedH U.vm := State.WarmedH.trans hW0 hW
  have hcl : s.vm.findClass cls = some ce.cls := by
    have h9 := hO.cls
    rw [hvm] at h9
    exact h9
  have hall : s.sameButNew ({ U with vm := s.vm } : State) locs mc ms := by
    subst hA
    obtain ⟨e1, e2⟩ := hsame
    rw [State.setFrames_setFrames] at e1
    have h2 : (T.setVm s.vm).sameButNew ({ U with vm := s.vm } : State) [] (0 + 1) (0 + 6) := ⟨e1, e2⟩
    have h3 := X.same.trans h2
    rw [List.append_nil] at h3
    exact h3.mono hc hs
  refine ⟨U, ?_, .threw T.heap.size, hrun, hend, Or.inr ⟨T.heap.size, rfl, cls, ce, locs, hx U hWs.alike f1 (fun q hq => f2 q hq (fun z hz => nomatch hz)), hce, hO.vm, hcl, hWs, hall, hf⟩⟩
  refine st1 _ ?_
  show Steps p.tables e below (T1.setTop { method := m, pc := pc + 3, locals := ls, stack := .ref T.heap.size :: rest, locked := none }) _
  jvm_step X₁.here [X₁.here.top, hexec, d3', Value.category]
  exact X₁.ldcStringW hexec (own := own) (text := text) (index := is) (a := sa) hown' hstr'.1 hstr'.2
    (g := { method := m, pc := pc + 4, locals := ls, stack := .ref T.heap.size :: .ref T.heap.size :: rest, locked := none }) rfl d4' _ hsteps
end Ends
section Bodies
variable {l : Launch}
theorem vx_ofW {y : MethodName} {ws ws' : List Cond} {rm : Room} {Pc : Array Value → State → Prop} {Qc : Array Value → State → Outcome → State → Prop} {XC : String → State → State → Prop} {mc ms : Nat} {free : Addr → Prop} {cc : ByteArray} {maxL : Nat} {ret : Option FieldType}
    (hy : plainName y.cls = true) (hw : ws = Cond.code y cc maxL ret :: ws')
    (body : ∀ p e s m args below meth c s₁, BodyLoose p l y (headSpec ws rm) cc maxL ret e s m args below meth c s₁ → c.maxLocals = maxL → (∀ x ∈ c.exceptionTable.toList, False) → Pc args s →
      W p l e (headSpec ws rm).room s m args below meth c s.heap [] 0 0 (vx_MQ below Qc XC args s mc ms free) (entryFrame m args maxL)) : vx_Met l y ws rm Pc Qc XC mc ms free := by
  refine MetFree.of_bodyS (code := cc) (maxLocals := maxL) (ret := ret) hy ?_ ?_
  · intro args s m h hn
    obtain ⟨meth, c, h1, h2, h3, h4, h5, h6, -, -⟩ := Cond.code_spec hn (atoms_spec (ws := ws) h _ (by rw [hw]; exact List.mem_cons_self))
    exact ⟨meth, c, h1, h2, h3, h4, h5, h6⟩
  · intro p e s m args below meth c s₁ B hml hP _
    have hh0 : s₁.heap = s.heap := by rw [B.state]; rfl
    have ht : ∀ x ∈ c.exceptionTable.toList, False := by
      obtain ⟨meth9, c9, h1, h2, -, -, -, -, h7, -⟩ := Cond.code_spec B.named (atoms_spec (ws := ws) B.pre _ (by rw [hw]; exact List.mem_cons_self))
      cases Option.some.inj (h1.symm.trans B.method)
      cases Option.some.inj (h2.symm.trans (Stand.of_body B).code)
      intro x hx
      rw [Array.isEmpty_iff.mp h7] at hx
      cases hx
    obtain ⟨t, a1, o, b1, b2, b3⟩ := body p e s m args below meth c s₁ B hml ht hP s₁ hh0 (Stand.of_body B)
    exact ⟨t, o, a1, b1, b2, b3⟩
/-- the table of a body with handlers -/
theorem vx_table {p : Program} {x y : MethodName} {S : Spec} {cc bytes : ByteArray} {maxL maxL' : Nat} {ret ret' : Option FieldType} {e : Env} {s s₁ : State} {m : MethodId} {args : Array Value} {below : List Frame} {meth : Method} {c : Code} {hh : List (Nat × Nat × Nat × Nat)}
    (B : BodyLoose p l y S cc maxL ret e s m args below meth c s₁) (h : (Cond.codeWith y bytes maxL' ret' hh).before args s = true) : c.exceptionTable.toList = tableOf hh := by
  obtain ⟨m9, meth9, c9, hn9, h1, h2, -, -, h6, -⟩ := Cond.codeWith_spec h
  cases Option.some.inj (hn9.symm.trans B.named)
  cases Option.some.inj (h1.symm.trans B.method)
  cases Option.some.inj (h2.symm.trans (Stand.of_body B).code)
  rw [← h6, table_eq]
end Bodies
end VXA
/-! ===== END ===== -/
/-! ===== BEGIN a static call of a method with an exception table ===== -/
section VXS
variable {p : Program} {l : Launch} {e : Env} {R : Room} {s : State} {m : MethodId} {args : Array Value} {below : List Frame} {meth : Method} {c : Code} {T : State} {H : Heap} {locs : List Loc} {cells slots : Nat}
abbrev vx_CSW (R : Room) (s : State) (args : Array Value) (own : String) (index : Nat) (y : MethodName) (bytes : ByteArray) (maxL : Nat) (ret : Option FieldType) (hh : List (Nat × Nat × Nat × Nat)) (ws : List Cond) (rm : Room) (mc ms n : Nat) : Prop :=
  (rm.cells = mc ∧ rm.slots = ms ∧ rm.frames + 1 ≤ R.frames ∧ 8 + (maxL + 11) + rm.locals ≤ R.locals ∧ (∀ w ∈ ws, ∀ (a' : Array Value) (U : State), s.WarmedH U.vm → w.before a' U = true) ∧ Cond.codeWith y bytes maxL ret hh ∈ ws) ∧
  (Cond.codeWith y bytes maxL ret hh).before args s = true ∧ (Cond.initialized y.cls).before args s = true ∧ (y.cls ≠ "java/lang/invoke/MethodHandle" ∧ y.cls ≠ "java/lang/invoke/VarHandle") ∧
  (∀ sig, parseMethodDescriptor y.desc = some sig → n = sig.parameters.length) ∧ (Cond.methodLink own index y).before args s = true ∧ (Cond.static y).before args s = true
theorem vx_cwSW {own : String} {index maxL mc ms : Nat} {y : MethodName} {bytes : ByteArray} {ret : Option FieldType} {hh : List (Nat × Nat × Nat × Nat)} {Ts ws ws' : List Cond} {rm : Room} (n : Nat) (ht : ∀ w ∈ Ts, w.before args s = true) (hT : GoodIn Ts (va_wsS own index y ws)) (hw : ws = Cond.codeWith y bytes maxL ret hh :: ws') (hrc : rm.cells = mc) (hrs : rm.slots = ms)
    (hd : y.cls ≠ "java/lang/invoke/MethodHandle" ∧ y.cls ≠ "java/lang/invoke/VarHandle" ∧ (parseMethodDescriptor y.desc).map (fun d => d.parameters.length) = some n) (hR : rm.frames + 1 ≤ R.frames ∧ 8 + (maxL + 11) + rm.locals ≤ R.locals) :
    vx_CSW R s args own index y bytes maxL ret hh ws rm mc ms n := by
  have ok : ∀ w ∈ va_wsS own index y ws, w.before args s = true := fun w h => ht w (hT w h).1
  have hG : GoodIn Ts ws := fun w h => hT w (by unfold va_wsS; exact List.mem_append_right _ h)
  have hc : Cond.codeWith y bytes maxL ret hh ∈ ws := by rw [hw]; exact List.mem_cons_self
  refine ⟨⟨hrc, hrs, hR.1, hR.2, pay_in ht hG, hc⟩, ht _ (hG _ hc).1, ok _ (by simp [va_wsS]), ⟨hd.1, hd.2.1⟩, fun sig h => ?_, ok _ (by simp [va_wsS]), ok _ (by simp [va_wsS])⟩
  have h2 := hd.2.2
  rw [h] at h2
  exact (Option.some.inj h2).symm
theorem vx_callSW (X : Stand p l e R s m args below meth c T locs cells slots) (hexec : p.tables.exec = Jvm.exec) {own : String} {index : Nat} {y : MethodName} {bytes : ByteArray} {maxL : Nat} {ret : Option FieldType} {hh : List (Nat × Nat × Nat × Nat)}
    (hown : s.vm.findClass own = some m.cls) (hlink : (Cond.methodLink own index y).before args s = true) (hstat : (Cond.static y).before args s = true) (hinit : (Cond.initialized y.cls).before args s = true)
    (hcode : (Cond.codeWith y bytes maxL ret hh).before args s = true) (hy : y.cls ≠ "java/lang/invoke/MethodHandle" ∧ y.cls ≠ "java/lang/invoke/VarHandle")
    {W9 : Nat} {Pre : Pt → Array Value → Prop} {Post : Pt → Array Value → Option Value → Pt → Prop} (hK : Back l R p e below s args y 3 W9 Pre Post)
    {g : JFrame} (hg : g.method = m) (hsize : g.locals.size = c.maxLocals) {argsL rest : List Value} (hlen : ∀ sig, parseMethodDescriptor y.desc = some sig → argsL.length = sig.parameters.length)
    (hstack : g.stack = argsL.reverse ++ rest) (hW : 2 * g.monitorRoom + (rest.map fun v => v.category).sum ≤ W9) (hdg : decode c.code g.pc = .ok (.invokestatic index, 3))
    (hpre : ∀ vm₁, s.WarmedH vm₁ → Pre ⟨T.setVm vm₁, locs, cells, slots⟩ argsL.toArray) :
    ∃ (v : Option Value) (vm₁ : Vm) (B : Pt), s.WarmedH vm₁ ∧ Stand p l e R s m args below meth c B.U B.locs B.cells B.slots ∧ Post ⟨T.setVm vm₁, locs, cells, slots⟩ argsL.toArray v B ∧
      ∀ target, Steps p.tables e below (B.U.setTop { g with pc := g.pc + 3, stack := v.toList ++ rest }) target → Steps p.tables e below (T.setTop g) target := by
  obtain ⟨mk, methM, cM, hnamed, hmethM, -, -, -, -, -, -, hsigM⟩ := Cond.codeWith_spec hcode
  have hstatic : methM.isStatic = true := Cond.static_spec hnamed hmethM hstat
  obtain ⟨kP, hkP, -⟩ := className_of_methodNamed hnamed
  have hinitP : kP.init = .initialized := Cond.initialized_spec (findClass_of_methodNamed hnamed) hkP hinit
  obtain ⟨vm₁, X₁, hstep₁⟩ := X.invokestatic hexec hown hlink hnamed hmethM hstatic hkP hinitP hy (g := g) hg (argsL := argsL) (rest := rest) (hlen _ hsigM) hstack hdg
  obtain ⟨v, B, X', hpost, hsteps⟩ := hK m meth c ⟨T.setVm vm₁, locs, cells, slots⟩ { g with stack := rest } (.invokestatic index) mk argsL.toArray X₁ hg hsize hdg hW (X₁.named hnamed) (hpre vm₁ X₁.warmed)
  exact ⟨v, vm₁, B, X₁.warmed, X', hpost, fun target h => hstep₁ _ fun acts => by rw [doInvoke_state]; exact hsteps.trans h⟩
theorem vx_runSW {y : MethodName} {bytes cc : ByteArray} {maxL nL mc ms n index : Nat} {ret : Option FieldType} {hh : List (Nat × Nat × Nat × Nat)} {ws : List Cond} {rm : Room} {Pc : Array Value → State → Prop} {Qc : Array Value → State → Outcome → State → Prop} {free : Addr → Prop} {Ts : List Cond} {own : String} {As rest : List Value} {g : JFrame}
    (S : CallFix p m c cc nL s args Ts own) (hM : Met l y ws rm Pc Qc mc ms free) (cw : vx_CSW R s args own index y bytes maxL ret hh ws rm mc ms n) (hp : PreS s H Pc As)
    (hg : g.method = m) (hn : As.length = n) (hsize : g.locals.size = nL) (hstack : g.stack = As.reverse ++ rest) (hW : 2 * g.monitorRoom + (rest.map fun v => v.category).sum ≤ 8) (hdg : decode cc g.pc = .ok (.invokestatic index, 3)) (hf : cells + mc ≤ R.cells ∧ slots + ms ≤ R.slots) :
    va_Run p l e R s m args below meth c H locs cells slots mc ms g rest (Qc As.toArray) (free) := by
  obtain ⟨⟨hrc, hrs, hfr, hlo, hws, hcw⟩, hcode, hini, hy, hlen, hl, hstt⟩ := cw
  have hK : Back l R p e below s args y 3 8 (PreOf R mc ms Pc) (PostOf Qc mc ms free) := va_backW (hh := hh) (bytes := bytes) (maxL := maxL) (ret := ret) hM hp.1 hrc hrs hfr hlo hws hcw (fun a' U hW => word_at hW (Or.inl (by first | rfl | simp [Cond.onTables, Cond.keeps, Cond.steady])) hini)
  obtain ⟨hx, hb, hml, ho, -⟩ := S
  intro T hT X
  obtain ⟨v, vm₁, ⟨U', l2, c2, s2⟩, hW₁, X', ⟨g', mk, t, L, e1, e2, hq, h1, hL, h2, h3⟩, st⟩ := vx_callSW X hx (hh := hh) (bytes := bytes) (maxL := maxL) (ret := ret) ho hl hstt hini hcode hy hK hg (hsize.trans hml.symm) (argsL := As) (rest := rest) (fun sig h => hn.trans (hlen sig h)) hstack hW (by rw [hb]; exact hdg)
    (fun vm₁ hW₁ => ⟨hf.1, hf.2, hp.2 (T.setVm vm₁) hT hW₁⟩)
  dsimp only [Pt.U, Pt.locs, Pt.cells, Pt.slots] at X' e1 e2 h1 h2 h3 st
  subst h1; subst h2; subst h3
  exact ⟨v, (T.setVm vm₁).calling g' mk As.toArray, t, U', L, hT, X', hL, e1, e2, hq, st⟩
/-- not caught here, past rows that name other classes: it goes on to the caller -/
theorem vx_outP {p : Program} {l : Launch} {e : Env} {R : Room} {s : State} {m : MethodId} {args : Array Value} {below : List Frame} {meth : Method} {c : Code} {H : Heap} {locs : List Loc} {cells slots : Nat} {free : Addr → Prop} {ls : Array Slot} {rest : List Value} {Qc : Array Value → State → Outcome → State → Prop} {XC : String → State → State → Prop}
    {pc : Nat} {own E : String} {ce : Cell} {q : Addr} {mc ms : Nat} (hown : s.vm.findClass own = some m.cls) (hlocks : meth.locks = false)
    (hpass : ∀ z ∈ c.exceptionTable.toList, covers z pc = false ∨ (z.catchType ≠ 0 ∧ ∃ nm : String, (Cond.classLink own z.catchType nm).before args s = true ∧ va_Nc E nm s)) (hcell : H[q]? = some ce) (hv : ce.vm = .none) (hcl : s.vm.findClass E = some ce.cls)
    (hx : ∀ t : State, t.heap = H → s.vm.Alike t.vm → XC E s t) (hf : ∀ z ∈ locs, free z.base) (hc : cells ≤ mc) (hs : slots ≤ ms) :
    vx_W p l e R s m args below meth c H locs cells slots (vx_MQ below Qc XC args s mc ms free) (F0 m pc ls rest) q := by
  intro T hT X
  have hpl : e.platform.magicAccessors = ({} : Platform).magicAccessors := by rw [X.admits.platform]
  obtain ⟨vm', hW', X', st⟩ := X.outThrough hlocks q (g := F0 m pc ls rest) rfl rfl rfl (cell := ce) (by rw [hT]; exact hcell) (by rw [hv]; rfl)
    (by obtain ⟨k9, h9, -⟩ := Vm.findClass_spec hcl; exact ⟨k9, h9⟩) (fun z hz => by
      rcases hpass z hz with h | ⟨hz0, nm, hl1, hn1⟩
      · exact Or.inl h
      · obtain ⟨c6, hc6, hcl6⟩ := Cond.classLink_spec hown hl1 e.platform hpl
        obtain ⟨a8, b8, h1, h2, h3⟩ := hn1
        cases Option.some.inj (h1.symm.trans hcl)
        cases Option.some.inj (h2.symm.trans hc6)
        exact Or.inr ⟨hz0, _, hcl6, h3⟩)
  obtain ⟨g₀, hfr⟩ := X'.frames_eq
  have hcell9 : ((T.setVm vm').setFrames (.throwing q :: below)).heap[q]? = some ce := by
    show T.heap[q]? = some ce
    rw [hT]; exact hcell
  have hend : Ended ((T.setVm vm').setFrames (.throwing q :: below)) below (.threw q) := State.frames_setFrames _ (State.cur_lt_of_frames hfr)
  refine ⟨(T.setVm vm').setFrames (.throwing q :: below), ?_, .threw q, X'.here.running, hend, Or.inr ⟨q, rfl, E, ce, locs, hx _ hT (X'.ends _).1.alike, hcell9, hv, hcl, (X'.ends _).1, (X'.ends _).2.mono hc hs, hf⟩⟩
  rw [X.pushThrowing_eq]
  exact st
/-- a thing of a world lies in the heap -/
theorem vx_lt {D : va_G} {cl : List vw_C} {ws : va_W} {H1 : Heap} (h : va_P D cl ws H1) {k : Nat} {q : Nat × va_E} (hk : ws[k]? = some q) : q.1 < H1.size := (h k q hk).lt
end VXS
/-! ===== END ===== -/
/-! ===== BEGIN methods with a table of their own: called by a name, returning or throwing ===== -/
section VXH
/-! vx_backW, vx_callVX, vx_callSX, vx_callVW, vx_runVW, vx_runVX, vx_runSX, vx_ofWH follow the same proofs as their sisters above (Free/Laws.lean, Shelf42/LK1.lean); vx_outP calls Shelf42/NT130.lean (outThrough). -/
section
variable {l : Launch} {R : Room} {p : Program} {e : Env} {below : List Frame} {s : State} {sargs : Array Value} {y : MethodName} {len W9 : Nat}
theorem vx_backW {ws : List Cond} {rm : Room} {Pc : Array Value → State → Prop} {Qc : Array Value → State → Outcome → State → Prop} {XC : String → State → State → Prop} {mc ms : Nat} {free : Addr → Prop} {bytes : ByteArray} {maxL : Nat} {ret : Option FieldType} {hh : List (Nat × Nat × Nat × Nat)}
    (hM : vx_Met l y ws rm Pc Qc XC mc ms free) (hblind : FrameBlind Pc) (hrc : rm.cells = mc) (hrs : rm.slots = ms)
    (hframes : rm.frames + 1 ≤ R.frames) (hlocals : W9 + (maxL + 11) + rm.locals ≤ R.locals)
    (hws : ∀ w ∈ ws, ∀ a' U, s.WarmedH U.vm → w.before a' U = true) (hcode : Cond.codeWith y bytes maxL ret hh ∈ ws) (hinit : ∀ a' U, s.WarmedH U.vm → (Cond.initialized y.cls).before a' U = true) :
    vx_Back l R p e below s sargs y len W9 (PreOf R mc ms Pc) (PostOf Qc mc ms free) (vx_Post XC mc ms free) := by
  intro m meth c A g ig mk a X hg hsize hdg hW hn hp
  have h1 : (headSpec ws rm).pre.before a A.U = true := atoms_intro fun w hw => hws w hw _ _ X.warmed
  have h2 : (Cond.codeWith y bytes maxL ret hh).before a A.U = true := hws _ hcode _ _ X.warmed
  have h3 : (Cond.initialized y.cls).before a A.U = true := hinit _ _ X.warmed
  have h4 : A.cells + (headSpec ws rm).room.cells ≤ R.cells := by rw [show (headSpec ws rm).room.cells = mc from hrc]; exact hp.1
  have h5 : A.slots + (headSpec ws rm).room.slots ≤ R.slots := by rw [show (headSpec ws rm).room.slots = ms from hrs]; exact hp.2.1
  have hPc : Pc a (A.U.calling g mk a) := hblind _ _ _ _ hp.2.2
  obtain ⟨U, Ls, c0, s0⟩ := A
  dsimp only [Pt.U, Pt.locs, Pt.cells, Pt.slots] at h1 h2 h3 h4 h5 X hn hPc ⊢
  obtain ⟨m9, methY, cY, hn9, hmY, hcY, -, hlY, -⟩ := Cond.codeWith_spec h2
  cases Option.some.inj (hn9.symm.trans hn)
  obtain ⟨kY, hkY, -⟩ := className_of_methodNamed hn
  have hinitY : kY.init = .initialized := Cond.initialized_spec (findClass_of_methodNamed hn) hkY h3
  have h : At U g.method c below := by rw [hg]; exact X.here
  have hlocals9 : W9 + (maxL + 11) + (headSpec ws rm).room.locals ≤ R.locals := hlocals
  have happ : (headSpec ws rm).appliesLoose y e.platform (U.calling g mk a) = true :=
    Spec.appliesLoose_calling (g := g) h hdg hn hkY hinitY
      (X.room_calling (g := g) (R' := (headSpec ws rm).room) hsize hmY hcY hframes (by rw [hlY]; omega) h4 h5) h1
  obtain ⟨mid, hmid⟩ := h.above
  have hfr : (U.setTop g).frames = (.java g :: mid) ++ below := by rw [State.frames_setTop' g h.top, hmid]; rfl
  obtain ⟨o, s₂, hsteps, -, hend, hq⟩ := Steps.callFree hM p X.admits X.cas X.clock (acts := []) hfr happ hPc trivial
  have hq' : vx_Q Qc XC mc ms free a (U.calling g mk a) o s₂ := hq
  rw [State.frames_setTop' g h.top] at hend
  obtain ⟨g₀, hg0⟩ := Option.isSome_iff_exists.mp h.top
  obtain ⟨r, hr⟩ := State.topJava?_eq_some.mp hg0
  have hr' : (({ U with heap := s₂.heap, slotsUsed := s₂.slotsUsed } : State).setVm s₂.vm).frames = .java g₀ :: r := hr
  rcases hq' with ⟨hqc, L, hfe, hL⟩ | ⟨q, rfl, E, ce, L, hx, hce, hcv, hcl, hW₂, hsm, hL⟩
  · obtain ⟨⟨v, rfl⟩, hW₂, e2, q2, q3, q4, q5, q6⟩ := id hfe
    have e3 : s₂ = ({ (U.calling g mk a).setFrames s₂.frames with heap := s₂.heap, slotsUsed := s₂.slotsUsed } : State).setVm s₂.vm := by
      have : s₂ = ({ s₂ with vm := (U.calling g mk a).vm } : State).setVm s₂.vm := rfl
      rw [e2] at this
      exact this
    obtain ⟨c₂, i₂, len₂, hc₂, hd₂, hf₂⟩ := hend
    have hW' : U.WarmedH s₂.vm := hW₂
    have hcc : c₂ = c := by
      have h1 : s₂.code? g.method = U.code? g.method := by
        rw [State.code?_eq, State.code?_eq, hW'.alike.method?]
      exact Option.some.inj (hc₂.symm.trans (h1.trans h.code))
    subst hcc
    have hlen : len₂ = len := by rw [hdg] at hd₂; cases hd₂; rfl
    subst hlen
    have hs₂ : s₂ = (({ U with heap := s₂.heap, slotsUsed := s₂.slotsUsed } : State).setVm s₂.vm).setTop { g with pc := g.pc + len₂, stack := v.toList ++ g.stack } := by
      refine e3.trans ?_
      rw [hf₂, State.calling_eq h.top, State.setFrames_setFrames, State.setTop_of_frames _ hr', hr]
      rfl
    have hsame : U.sameButNew ({ U with heap := s₂.heap, slotsUsed := s₂.slotsUsed } : State) L mc ms := by
      refine ⟨?_, q2, q3, q4, q5, q6⟩
      obtain ⟨t, ht, -⟩ := State.frames_cons hr
      show ({ U with heap := s₂.heap, slotsUsed := s₂.slotsUsed } : State) = { U.setFrames U.frames with heap := s₂.heap, slotsUsed := s₂.slotsUsed }
      rw [State.setFrames_self ht]
    subst hg
    refine Or.inl ⟨v, ⟨(({ U with heap := s₂.heap, slotsUsed := s₂.slotsUsed } : State).setVm s₂.vm), Ls ++ L, c0 + mc, s0 + ms⟩,
      ⟨X.admits, X.cas, X.clock, X.frames, X.room, X.hears, X.method, X.code, (X.here.setHeapUsed s₂.heap s₂.slotsUsed).setVm hW'.alike, X.tail, State.WarmedH.trans X.warmed hW', X.limits, X.bytes, X.same.trans (hsame.setVm s.vm)⟩,
      ⟨g, mk, s₂, L, rfl, rfl, hqc, rfl, hL, rfl, rfl⟩, ?_⟩
    show Steps p.tables e below _ ((({ U with heap := s₂.heap, slotsUsed := s₂.slotsUsed } : State).setVm s₂.vm).setTop { g with pc := g.pc + len₂, stack := v.toList ++ g.stack })
    rw [← hs₂]
    exact hsteps
  · obtain ⟨e2, q2, q3, q4, q5, q6⟩ := id hsm
    have e3 : s₂ = ({ (U.calling g mk a).setFrames s₂.frames with heap := s₂.heap, slotsUsed := s₂.slotsUsed } : State).setVm s₂.vm := by
      have : s₂ = ({ s₂ with vm := (U.calling g mk a).vm } : State).setVm s₂.vm := rfl
      rw [e2] at this
      exact this
    have hf₂ : s₂.frames = .throwing q :: .java g :: U.frames.tail := hend
    have hW' : U.WarmedH s₂.vm := hW₂
    have hs₂ : s₂ = ((({ U with heap := s₂.heap, slotsUsed := s₂.slotsUsed } : State).setVm s₂.vm).setTop g).pushFrame (.throwing q) := by
      refine e3.trans ?_
      rw [hf₂, State.calling_eq h.top, State.setFrames_setFrames, State.pushFrame, State.frames_setTop _ hr', State.setTop_of_frames _ hr', State.setFrames_setFrames, hr]
      rfl
    have hsame : U.sameButNew ({ U with heap := s₂.heap, slotsUsed := s₂.slotsUsed } : State) L mc ms := by
      refine ⟨?_, q2, q3, q4, q5, q6⟩
      obtain ⟨t, ht, -⟩ := State.frames_cons hr
      show ({ U with heap := s₂.heap, slotsUsed := s₂.slotsUsed } : State) = { U.setFrames U.frames with heap := s₂.heap, slotsUsed := s₂.slotsUsed }
      rw [State.setFrames_self ht]
    subst hg
    refine Or.inr ⟨q, ⟨(({ U with heap := s₂.heap, slotsUsed := s₂.slotsUsed } : State).setVm s₂.vm), Ls ++ L, c0 + mc, s0 + ms⟩,
      ⟨X.admits, X.cas, X.clock, X.frames, X.room, X.hears, X.method, X.code, (X.here.setHeapUsed s₂.heap s₂.slotsUsed).setVm hW'.alike, X.tail, State.WarmedH.trans X.warmed hW', X.limits, X.bytes, X.same.trans (hsame.setVm s.vm)⟩,
      ⟨g, mk, s₂, L, E, ce, rfl, rfl, hx, hce, hcv, hcl, rfl, hL, rfl, rfl⟩, ?_⟩
    show Steps p.tables e below _ (((({ U with heap := s₂.heap, slotsUsed := s₂.slotsUsed } : State).setVm s₂.vm).setTop g).pushFrame (.throwing q))
    rw [← hs₂]
    exact hsteps
end
variable {p : Program} {l : Launch} {e : Env} {R : Room} {s : State} {m : MethodId} {args : Array Value} {below : List Frame} {meth : Method} {c : Code} {T : State} {H : Heap} {locs : List Loc} {cells slots : Nat}
theorem vx_callVX (X : Stand p l e R s m args below meth c T locs cells slots) (hexec : p.tables.exec = Jvm.exec) {own C : String} {index : Nat} {y : MethodName} {bytes : ByteArray} {maxL : Nat} {ret : Option FieldType} {hh : List (Nat × Nat × Nat × Nat)}
    (hown : s.vm.findClass own = some m.cls) (hlink : (Cond.methodLink own index y).before args s = true) (hinst : (Cond.instanceMethod y).before args s = true) (hsel : (Cond.selects C y y).before args s = true)
    (hcode : (Cond.codeWith y bytes maxL ret hh).before args s = true) (hy : y.cls ≠ "java/lang/invoke/MethodHandle" ∧ y.cls ≠ "java/lang/invoke/VarHandle")
    {W9 : Nat} {Pre : Pt → Array Value → Prop} {Post : Pt → Array Value → Option Value → Pt → Prop} {PostX : Pt → Array Value → Addr → Pt → Prop} (hK : vx_Back l R p e below s args y 3 W9 Pre Post PostX)
    {b : Addr} {cellB : Cell} (hcell : T.heap[b]? = some cellB) (hobj : cellB.vm.isStatics = false) (hcls : s.vm.findClass C = some cellB.cls)
    {g : JFrame} (hg : g.method = m) (hsize : g.locals.size = c.maxLocals) {argsL rest : List Value} (hlen : ∀ sig, parseMethodDescriptor y.desc = some sig → argsL.length = sig.parameters.length)
    (hstack : g.stack = argsL.reverse ++ .ref b :: rest) (hW : 2 * g.monitorRoom + (rest.map fun v => v.category).sum ≤ W9) (hdg : decode c.code g.pc = .ok (.invokevirtual index, 3))
    (hpre : ∀ vm₁, s.WarmedH vm₁ → Pre ⟨T.setVm vm₁, locs, cells, slots⟩ (Value.ref b :: argsL).toArray) :
    (∃ (v : Option Value) (vm₁ : Vm) (B : Pt), s.WarmedH vm₁ ∧ Stand p l e R s m args below meth c B.U B.locs B.cells B.slots ∧ Post ⟨T.setVm vm₁, locs, cells, slots⟩ (Value.ref b :: argsL).toArray v B ∧
      ∀ target, Steps p.tables e below (B.U.setTop { g with pc := g.pc + 3, stack := v.toList ++ rest }) target → Steps p.tables e below (T.setTop g) target) ∨
    (∃ (q : Addr) (vm₁ : Vm) (B : Pt), s.WarmedH vm₁ ∧ Stand p l e R s m args below meth c B.U B.locs B.cells B.slots ∧ PostX ⟨T.setVm vm₁, locs, cells, slots⟩ (Value.ref b :: argsL).toArray q B ∧
      Steps p.tables e below (T.setTop g) ((B.U.setTop { g with stack := rest }).pushFrame (.throwing q))) := by
  obtain ⟨mk, methM, hnamed, hmethM, hstM, habM⟩ := Cond.instanceMethod_spec hinst
  obtain ⟨m8, methM', cM, hn8, hmethM', -, -, -, -, -, -, hsigM⟩ := Cond.codeWith_spec hcode
  cases Option.some.inj (hn8.symm.trans hnamed)
  cases hmethM.symm.trans hmethM'
  obtain ⟨c2, r2, m2, q1, q2, q3, q4, kP, hkP, hkPi⟩ := Cond.selects_spec hsel
  cases hcls.symm.trans q1
  cases (State.methodFound?_of_named hnamed hy).symm.trans q2
  cases hnamed.symm.trans q3
  have hselP : selectMethod e.platform s.vm cellB.cls mk = .method mk := by rw [Launch.admits_selectMethod X.admits]; exact q4
  obtain ⟨vm₁, X₁, hstep₁⟩ := X.invokevirtual hexec hown hlink hnamed hmethM hstM hkP hkPi hy (a := b) (cell := cellB) hcell
    (fun z h => by rw [h] at hobj; cases hobj) hselP hmethM habM hkP hkPi (g := g) hg (argsL := argsL) (rest := rest) (hlen _ hsigM) hstack hdg
  rcases hK m meth c ⟨T.setVm vm₁, locs, cells, slots⟩ { g with stack := rest } (.invokevirtual index) mk (Value.ref b :: argsL).toArray X₁ hg hsize hdg hW (X₁.named hnamed) (hpre vm₁ X₁.warmed) with ⟨v, B, X', hpost, hsteps⟩ | ⟨q, B, X', hpost, hsteps⟩
  · exact Or.inl ⟨v, vm₁, B, X₁.warmed, X', hpost, fun target h => hstep₁ _ fun acts => by rw [doInvoke_state]; exact hsteps.trans h⟩
  · exact Or.inr ⟨q, vm₁, B, X₁.warmed, X', hpost, hstep₁ _ fun acts => by rw [doInvoke_state]; exact hsteps⟩
theorem vx_callSX (X : Stand p l e R s m args below meth c T locs cells slots) (hexec : p.tables.exec = Jvm.exec) {own : String} {index : Nat} {y : MethodName} {bytes : ByteArray} {maxL : Nat} {ret : Option FieldType} {hh : List (Nat × Nat × Nat × Nat)}
    (hown : s.vm.findClass own = some m.cls) (hlink : (Cond.methodLink own index y).before args s = true) (hstat : (Cond.static y).before args s = true) (hinit : (Cond.initialized y.cls).before args s = true)
    (hcode : (Cond.codeWith y bytes maxL ret hh).before args s = true) (hy : y.cls ≠ "java/lang/invoke/MethodHandle" ∧ y.cls ≠ "java/lang/invoke/VarHandle")
    {W9 : Nat} {Pre : Pt → Array Value → Prop} {Post : Pt → Array Value → Option Value → Pt → Prop} {PostX : Pt → Array Value → Addr → Pt → Prop} (hK : vx_Back l R p e below s args y 3 W9 Pre Post PostX)
    {g : JFrame} (hg : g.method = m) (hsize : g.locals.size = c.maxLocals) {argsL rest : List Value} (hlen : ∀ sig, parseMethodDescriptor y.desc = some sig → argsL.length = sig.parameters.length)
    (hstack : g.stack = argsL.reverse ++ rest) (hW : 2 * g.monitorRoom + (rest.map fun v => v.category).sum ≤ W9) (hdg : decode c.code g.pc = .ok (.invokestatic index, 3))
    (hpre : ∀ vm₁, s.WarmedH vm₁ → Pre ⟨T.setVm vm₁, locs, cells, slots⟩ argsL.toArray) :
    (∃ (v : Option Value) (vm₁ : Vm) (B : Pt), s.WarmedH vm₁ ∧ Stand p l e R s m args below meth c B.U B.locs B.cells B.slots ∧ Post ⟨T.setVm vm₁, locs, cells, slots⟩ argsL.toArray v B ∧
      ∀ target, Steps p.tables e below (B.U.setTop { g with pc := g.pc + 3, stack := v.toList ++ rest }) target → Steps p.tables e below (T.setTop g) target) ∨
    (∃ (q : Addr) (vm₁ : Vm) (B : Pt), s.WarmedH vm₁ ∧ Stand p l e R s m args below meth c B.U B.locs B.cells B.slots ∧ PostX ⟨T.setVm vm₁, locs, cells, slots⟩ argsL.toArray q B ∧
      Steps p.tables e below (T.setTop g) ((B.U.setTop { g with stack := rest }).pushFrame (.throwing q))) := by
  obtain ⟨mk, methM, cM, hnamed, hmethM, -, -, -, -, -, -, hsigM⟩ := Cond.codeWith_spec hcode
  have hstatic : methM.isStatic = true := Cond.static_spec hnamed hmethM hstat
  obtain ⟨kP, hkP, -⟩ := className_of_methodNamed hnamed
  have hinitP : kP.init = .initialized := Cond.initialized_spec (findClass_of_methodNamed hnamed) hkP hinit
  obtain ⟨vm₁, X₁, hstep₁⟩ := X.invokestatic hexec hown hlink hnamed hmethM hstatic hkP hinitP hy (g := g) hg (argsL := argsL) (rest := rest) (hlen _ hsigM) hstack hdg
  rcases hK m meth c ⟨T.setVm vm₁, locs, cells, slots⟩ { g with stack := rest } (.invokestatic index) mk argsL.toArray X₁ hg hsize hdg hW (X₁.named hnamed) (hpre vm₁ X₁.warmed) with ⟨v, B, X', hpost, hsteps⟩ | ⟨q, B, X', hpost, hsteps⟩
  · exact Or.inl ⟨v, vm₁, B, X₁.warmed, X', hpost, fun target h => hstep₁ _ fun acts => by rw [doInvoke_state]; exact hsteps.trans h⟩
  · exact Or.inr ⟨q, vm₁, B, X₁.warmed, X', hpost, hstep₁ _ fun acts => by rw [doInvoke_state]; exact hsteps⟩
theorem vx_callVW (X : Stand p l e R s m args below meth c T locs cells slots) (hexec : p.tables.exec = Jvm.exec) {own C : String} {index : Nat} {y : MethodName} {bytes : ByteArray} {maxL : Nat} {ret : Option FieldType} {hh : List (Nat × Nat × Nat × Nat)}
    (hown : s.vm.findClass own = some m.cls) (hlink : (Cond.methodLink own index y).before args s = true) (hinst : (Cond.instanceMethod y).before args s = true) (hsel : (Cond.selects C y y).before args s = true)
    (hcode : (Cond.codeWith y bytes maxL ret hh).before args s = true) (hy : y.cls ≠ "java/lang/invoke/MethodHandle" ∧ y.cls ≠ "java/lang/invoke/VarHandle")
    {W9 : Nat} {Pre : Pt → Array Value → Prop} {Post : Pt → Array Value → Option Value → Pt → Prop} (hK : Back l R p e below s args y 3 W9 Pre Post)
    {b : Addr} {cellB : Cell} (hcell : T.heap[b]? = some cellB) (hobj : cellB.vm.isStatics = false) (hcls : s.vm.findClass C = some cellB.cls)
    {g : JFrame} (hg : g.method = m) (hsize : g.locals.size = c.maxLocals) {argsL rest : List Value} (hlen : ∀ sig, parseMethodDescriptor y.desc = some sig → argsL.length = sig.parameters.length)
    (hstack : g.stack = argsL.reverse ++ .ref b :: rest) (hW : 2 * g.monitorRoom + (rest.map fun v => v.category).sum ≤ W9) (hdg : decode c.code g.pc = .ok (.invokevirtual index, 3))
    (hpre : ∀ vm₁, s.WarmedH vm₁ → Pre ⟨T.setVm vm₁, locs, cells, slots⟩ (Value.ref b :: argsL).toArray) :
    ∃ (v : Option Value) (vm₁ : Vm) (B : Pt), s.WarmedH vm₁ ∧ Stand p l e R s m args below meth c B.U B.locs B.cells B.slots ∧ Post ⟨T.setVm vm₁, locs, cells, slots⟩ (Value.ref b :: argsL).toArray v B ∧
      ∀ target, Steps p.tables e below (B.U.setTop { g with pc := g.pc + 3, stack := v.toList ++ rest }) target → Steps p.tables e below (T.setTop g) target := by
  obtain ⟨mk, methM, hnamed, hmethM, hstM, habM⟩ := Cond.instanceMethod_spec hinst
  obtain ⟨m8, methM', cM, hn8, hmethM', -, -, -, -, -, -, hsigM⟩ := Cond.codeWith_spec hcode
  cases Option.some.inj (hn8.symm.trans hnamed)
  cases hmethM.symm.trans hmethM'
  obtain ⟨c2, r2, m2, q1, q2, q3, q4, kP, hkP, hkPi⟩ := Cond.selects_spec hsel
  cases hcls.symm.trans q1
  cases (State.methodFound?_of_named hnamed hy).symm.trans q2
  cases hnamed.symm.trans q3
  have hselP : selectMethod e.platform s.vm cellB.cls mk = .method mk := by rw [Launch.admits_selectMethod X.admits]; exact q4
  obtain ⟨vm₁, X₁, hstep₁⟩ := X.invokevirtual hexec hown hlink hnamed hmethM hstM hkP hkPi hy (a := b) (cell := cellB) hcell
    (fun z h => by rw [h] at hobj; cases hobj) hselP hmethM habM hkP hkPi (g := g) hg (argsL := argsL) (rest := rest) (hlen _ hsigM) hstack hdg
  obtain ⟨v, B, X', hpost, hsteps⟩ := hK m meth c ⟨T.setVm vm₁, locs, cells, slots⟩ { g with stack := rest } (.invokevirtual index) mk (Value.ref b :: argsL).toArray X₁ hg hsize hdg hW (X₁.named hnamed) (hpre vm₁ X₁.warmed)
  exact ⟨v, vm₁, B, X₁.warmed, X', hpost, fun target h => hstep₁ _ fun acts => by rw [doInvoke_state]; exact hsteps.trans h⟩
abbrev vx_CVW (R : Room) (s : State) (args : Array Value) (own C : String) (index : Nat) (y : MethodName) (bytes : ByteArray) (maxL : Nat) (ret : Option FieldType) (hh : List (Nat × Nat × Nat × Nat)) (ws : List Cond) (rm : Room) (mc ms n : Nat) : Prop :=
  (rm.cells = mc ∧ rm.slots = ms ∧ rm.frames + 1 ≤ R.frames ∧ 8 + (maxL + 11) + rm.locals ≤ R.locals ∧ (∀ w ∈ ws, ∀ (a' : Array Value) (U : State), s.WarmedH U.vm → w.before a' U = true) ∧ Cond.codeWith y bytes maxL ret hh ∈ ws) ∧
  (Cond.codeWith y bytes maxL ret hh).before args s = true ∧ (Cond.initialized y.cls).before args s = true ∧ (y.cls ≠ "java/lang/invoke/MethodHandle" ∧ y.cls ≠ "java/lang/invoke/VarHandle") ∧
  (∀ sig, parseMethodDescriptor y.desc = some sig → n = sig.parameters.length) ∧ (Cond.methodLink own index y).before args s = true ∧ (Cond.instanceMethod y).before args s = true ∧ (Cond.selects C y y).before args s = true
theorem vx_cwVW {own C : String} {index maxL mc ms : Nat} {y : MethodName} {bytes : ByteArray} {ret : Option FieldType} {hh : List (Nat × Nat × Nat × Nat)} {Ts ws ws' : List Cond} {rm : Room} (n : Nat) (ht : ∀ w ∈ Ts, w.before args s = true) (hT : GoodIn Ts (wsV own index C y ws)) (hw : ws = Cond.codeWith y bytes maxL ret hh :: ws') (hrc : rm.cells = mc) (hrs : rm.slots = ms)
    (hd : y.cls = C ∧ y.cls ≠ "java/lang/invoke/MethodHandle" ∧ y.cls ≠ "java/lang/invoke/VarHandle" ∧ (parseMethodDescriptor y.desc).map (fun d => d.parameters.length) = some n) (hR : rm.frames + 1 ≤ R.frames ∧ 8 + (maxL + 11) + rm.locals ≤ R.locals) :
    vx_CVW R s args own C index y bytes maxL ret hh ws rm mc ms n := by
  obtain ⟨hC, hd⟩ := hd
  subst hC
  have ok : ∀ w ∈ wsV own index y.cls y ws, w.before args s = true := fun w h => ht w (hT w h).1
  have hG : GoodIn Ts ws := fun w h => hT w (by unfold wsV; exact List.mem_append_right _ h)
  have hc : Cond.codeWith y bytes maxL ret hh ∈ ws := by rw [hw]; exact List.mem_cons_self
  refine ⟨⟨hrc, hrs, hR.1, hR.2, pay_in ht hG, hc⟩, ht _ (hG _ hc).1, ok _ (by simp [wsV]), ⟨hd.1, hd.2.1⟩, fun sig h => ?_, ok _ (by simp [wsV]), ok _ (by simp [wsV]), ok _ (by simp [wsV])⟩
  have h2 := hd.2.2
  rw [h] at h2
  exact (Option.some.inj h2).symm
theorem vx_runVW {y : MethodName} {bytes cc : ByteArray} {maxL nL mc ms n index : Nat} {ret : Option FieldType} {hh : List (Nat × Nat × Nat × Nat)} {ws : List Cond} {rm : Room} {Pc : Array Value → State → Prop} {Qc : Array Value → State → Outcome → State → Prop} {free : Addr → Prop} {Ts : List Cond} {own C : String} {b : Addr} {As rest : List Value} {g : JFrame}
    (S : CallFix p m c cc nL s args Ts own) (hM : Met l y ws rm Pc Qc mc ms free) (cw : vx_CVW R s args own C index y bytes maxL ret hh ws rm mc ms n) (hp : PreV s H C b Pc As)
    (hg : g.method = m) (hn : As.length = n) (hsize : g.locals.size = nL) (hstack : g.stack = As.reverse ++ .ref b :: rest) (hW : 2 * g.monitorRoom + (rest.map fun v => v.category).sum ≤ 8) (hdg : decode cc g.pc = .ok (.invokevirtual index, 3)) (hf : cells + mc ≤ R.cells ∧ slots + ms ≤ R.slots) :
    va_Run p l e R s m args below meth c H locs cells slots mc ms g rest (Qc (Value.ref b :: As).toArray) free := by
  obtain ⟨⟨hrc, hrs, hfr, hlo, hws, hcw⟩, hcode, hini, hy, hlen, hl, hin, hse⟩ := cw
  have hK : Back l R p e below s args y 3 8 (PreOf R mc ms Pc) (PostOf Qc mc ms free) := va_backW (hh := hh) (bytes := bytes) (maxL := maxL) (ret := ret) hM hp.1 hrc hrs hfr hlo hws hcw (fun a' U hW => word_at hW (Or.inl (by first | rfl | simp [Cond.onTables, Cond.keeps, Cond.steady])) hini)
  obtain ⟨hx, hb, hml, ho, -⟩ := S
  obtain ⟨-, ⟨cellB, hcB, hoB, hclB⟩, hPc⟩ := hp
  intro T hT X
  obtain ⟨v, vm₁, ⟨U', l2, c2, s2⟩, hW₁, X', ⟨g', mk, t, L, e1, e2, hq, h1, hL, h2, h3⟩, st⟩ := vx_callVW X hx (C := C) (hh := hh) (bytes := bytes) (maxL := maxL) (ret := ret) ho hl hin hse hcode hy hK (by rw [hT]; exact hcB) hoB hclB hg (hsize.trans hml.symm) (argsL := As) (rest := rest) (fun sig h => hn.trans (hlen sig h)) hstack hW (by rw [hb]; exact hdg)
    (fun vm₁ hW₁ => ⟨hf.1, hf.2, hPc (T.setVm vm₁) hT hW₁⟩)
  dsimp only [Pt.U, Pt.locs, Pt.cells, Pt.slots] at X' e1 e2 h1 h2 h3 st
  subst h1; subst h2; subst h3
  exact ⟨v, (T.setVm vm₁).calling g' mk (Value.ref b :: As).toArray, t, U', L, hT, X', hL, e1, e2, hq, st⟩
section
variable {y : MethodName} {bytes cc : ByteArray} {maxL nL mc ms n index : Nat} {ret : Option FieldType} {ws : List Cond} {rm : Room} {Pc : Array Value → State → Prop} {Qc : Array Value → State → Outcome → State → Prop} {XC : String → State → State → Prop} {free : Addr → Prop} {Ts : List Cond} {own C : String} {b : Addr} {As rest : List Value} {g : JFrame}
theorem vx_runVX {hh : List (Nat × Nat × Nat × Nat)} (S : CallFix p m c cc nL s args Ts own) (hM : vx_Met l y ws rm Pc Qc XC mc ms free) (cw : vx_CVW R s args own C index y bytes maxL ret hh ws rm mc ms n) (hp : PreV s H C b Pc As)
    (hg : g.method = m) (hn : As.length = n) (hsize : g.locals.size = nL) (hstack : g.stack = As.reverse ++ .ref b :: rest) (hW : 2 * g.monitorRoom + (rest.map fun v => v.category).sum ≤ 8) (hdg : decode cc g.pc = .ok (.invokevirtual index, 3)) (hf : cells + mc ≤ R.cells ∧ slots + ms ≤ R.slots) :
    vx_Run p l e R s m args below meth c H locs cells slots mc ms g rest (Qc (Value.ref b :: As).toArray) XC free := by
  obtain ⟨⟨hrc, hrs, hfr, hlo, hws, hcw⟩, hcode, hini, hy, hlen, hl, hin, hse⟩ := cw
  have hK : vx_Back l R p e below s args y 3 8 (PreOf R mc ms Pc) (PostOf Qc mc ms free) (vx_Post XC mc ms free) := vx_backW (hh := hh) (bytes := bytes) (maxL := maxL) (ret := ret) hM hp.1 hrc hrs hfr hlo hws hcw (fun a' U hW => word_at hW (Or.inl (by first | rfl | simp [Cond.onTables, Cond.keeps, Cond.steady])) hini)
  obtain ⟨hx, hb, hml, ho, -⟩ := S
  obtain ⟨-, ⟨cellB, hcB, hoB, hclB⟩, hPc⟩ := hp
  intro T hT X
  rcases vx_callVX X hx (C := C) (hh := hh) (bytes := bytes) (maxL := maxL) (ret := ret) ho hl hin hse hcode hy hK (by rw [hT]; exact hcB) hoB hclB hg (hsize.trans hml.symm) (argsL := As) (rest := rest) (fun sig h => hn.trans (hlen sig h)) hstack hW (by rw [hb]; exact hdg)
    (fun vm₁ hW₁ => ⟨hf.1, hf.2, hPc (T.setVm vm₁) hT hW₁⟩) with ⟨v, vm₁, ⟨U', l2, c2, s2⟩, hW₁, X', ⟨g', mk, t, L, e1, e2, hq, h1, hL, h2, h3⟩, st⟩ | ⟨q, vm₁, ⟨U', l2, c2, s2⟩, hW₁, X', ⟨g', mk, t, L, E, ce, e1, e2, hq, hce, hcv, hcl, h1, hL, h2, h3⟩, st⟩
  · dsimp only [Pt.U, Pt.locs, Pt.cells, Pt.slots] at X' e1 e2 h1 h2 h3 st
    subst h1; subst h2; subst h3
    exact Or.inl ⟨v, (T.setVm vm₁).calling g' mk (Value.ref b :: As).toArray, t, U', L, hT, X', hL, e1, e2, hq, st⟩
  · dsimp only [Pt.U, Pt.locs, Pt.cells, Pt.slots] at X' e1 e2 h1 h2 h3 st hcl
    subst h1; subst h2; subst h3
    exact Or.inr ⟨q, (T.setVm vm₁).calling g' mk (Value.ref b :: As).toArray, t, U', L, E, ce, hT, X', hL, e1, e2, hq, hce, hcv, vx_cls hW₁ hcl, st⟩
theorem vx_runSX {hh : List (Nat × Nat × Nat × Nat)} (S : CallFix p m c cc nL s args Ts own) (hM : vx_Met l y ws rm Pc Qc XC mc ms free) (cw : vx_CSW R s args own index y bytes maxL ret hh ws rm mc ms n) (hp : PreS s H Pc As)
    (hg : g.method = m) (hn : As.length = n) (hsize : g.locals.size = nL) (hstack : g.stack = As.reverse ++ rest) (hW : 2 * g.monitorRoom + (rest.map fun v => v.category).sum ≤ 8) (hdg : decode cc g.pc = .ok (.invokestatic index, 3)) (hf : cells + mc ≤ R.cells ∧ slots + ms ≤ R.slots) :
    vx_Run p l e R s m args below meth c H locs cells slots mc ms g rest (Qc As.toArray) XC free := by
  obtain ⟨⟨hrc, hrs, hfr, hlo, hws, hcw⟩, hcode, hini, hy, hlen, hl, hstt⟩ := cw
  have hK : vx_Back l R p e below s args y 3 8 (PreOf R mc ms Pc) (PostOf Qc mc ms free) (vx_Post XC mc ms free) := vx_backW (hh := hh) (bytes := bytes) (maxL := maxL) (ret := ret) hM hp.1 hrc hrs hfr hlo hws hcw (fun a' U hW => word_at hW (Or.inl (by first | rfl | simp [Cond.onTables, Cond.keeps, Cond.steady])) hini)
  obtain ⟨hx, hb, hml, ho, -⟩ := S
  intro T hT X
  rcases vx_callSX X hx (hh := hh) (bytes := bytes) (maxL := maxL) (ret := ret) ho hl hstt hini hcode hy hK hg (hsize.trans hml.symm) (argsL := As) (rest := rest) (fun sig h => hn.trans (hlen sig h)) hstack hW (by rw [hb]; exact hdg)
    (fun vm₁ hW₁ => ⟨hf.1, hf.2, hp.2 (T.setVm vm₁) hT hW₁⟩) with ⟨v, vm₁, ⟨U', l2, c2, s2⟩, hW₁, X', ⟨g', mk, t, L, e1, e2, hq, h1, hL, h2, h3⟩, st⟩ | ⟨q, vm₁, ⟨U', l2, c2, s2⟩, hW₁, X', ⟨g', mk, t, L, E, ce, e1, e2, hq, hce, hcv, hcl, h1, hL, h2, h3⟩, st⟩
  · dsimp only [Pt.U, Pt.locs, Pt.cells, Pt.slots] at X' e1 e2 h1 h2 h3 st
    subst h1; subst h2; subst h3
    exact Or.inl ⟨v, (T.setVm vm₁).calling g' mk As.toArray, t, U', L, hT, X', hL, e1, e2, hq, st⟩
  · dsimp only [Pt.U, Pt.locs, Pt.cells, Pt.slots] at X' e1 e2 h1 h2 h3 st hcl
    subst h1; subst h2; subst h3
    exact Or.inr ⟨q, (T.setVm vm₁).calling g' mk As.toArray, t, U', L, E, ce, hT, X', hL, e1, e2, hq, hce, hcv, vx_cls hW₁ hcl, st⟩
end
end VXH
theorem vx_ofWH {l : Launch} {y : MethodName} {ws ws' : List Cond} {rm : Room} {Pc : Array Value → State → Prop} {Qc : Array Value → State → Outcome → State → Prop} {XC : String → State → State → Prop} {mc ms : Nat} {free : Addr → Prop} {cc : ByteArray} {maxL : Nat} {ret : Option FieldType} {hh : List (Nat × Nat × Nat × Nat)}
    (hy : plainName y.cls = true) (hw : ws = Cond.codeWith y cc maxL ret hh :: ws')
    (body : ∀ p e s m args below meth c s₁, BodyLoose p l y (headSpec ws rm) cc maxL ret e s m args below meth c s₁ → c.maxLocals = maxL → Pc args s →
      W p l e (headSpec ws rm).room s m args below meth c s.heap [] 0 0 (vx_MQ below Qc XC args s mc ms free) (entryFrame m args maxL)) : vx_Met l y ws rm Pc Qc XC mc ms free := by
  refine MetFree.of_bodyS (code := cc) (maxLocals := maxL) (ret := ret) hy ?_ ?_
  · intro args s m h hn
    obtain ⟨m9, meth, c, hn9, h1, h2, h3, h4, -, h5, h6, -⟩ := Cond.codeWith_spec (atoms_spec (ws := ws) h _ (by rw [hw]; exact List.mem_cons_self))
    cases hn.symm.trans hn9
    exact ⟨meth, c, h1, h2, h3, h4, h5, h6⟩
  · intro p e s m args below meth c s₁ B hml hP _
    have hh0 : s₁.heap = s.heap := by rw [B.state]; rfl
    obtain ⟨t, a1, o, b1, b2, b3⟩ := body p e s m args below meth c s₁ B hml hP s₁ hh0 (Stand.of_body B)
    exact ⟨t, o, a1, b1, b2, b3⟩
/-! ===== END ===== -/
end
section
/-! Names, by the program wip/whole/gen_names.py out of the claim: classes with their fields, methods, words by their places. -/
def q_good : List Cond := lw_tbl.filter goodWord
def q_fw (w : Cond) : Bool := w.faceAtom && w.onTables
def q_face : List Cond := lw_tbl.filter q_fw
theorem q_in {w : Cond} (i : Nat) (h : lw_tbl[i]? = some w) (g : goodWord w = true) : w ∈ q_good := List.mem_filter.mpr ⟨List.mem_of_getElem? h, g⟩
def q_R0 : String := "ZnodeService$Entry"
def q_T0 : u_T := fun k => match k with
  | 0 => ("ZnodeService$Entry", "kind", "I", true)
  | 1 => ("ZnodeService$Entry", "path", "I", true)
  | 2 => ("ZnodeService$Entry", "data", "I", true)
  | 3 => ("ZnodeService$Entry", "owner", "I", true)
  | _ => ("ZnodeService$Entry", "inSequence", "Z", true)
def q_ty0 : Nat → FieldType := fun k => match k with
  | 0 => .int
  | 1 => .int
  | 2 => .int
  | 3 => .int
  | _ => .boolean
theorem q_nm0 : ∀ a, a < 5 → ∀ b, b < 5 → a ≠ b → (q_T0 a).2.1 ≠ (q_T0 b).2.1 := by decide +kernel
theorem q_tk0 : ∀ k, k < 5 → parseFieldDescriptor (q_T0 k).2.2.1 = some (q_ty0 k) := by decide +kernel
theorem q_ws0 : ∀ w ∈ u_ws q_R0 q_T0 5, w ∈ q_good := by decide +kernel
def q_R1 : String := "ZnodeService$Server"
def q_T1 : u_T := fun k => match k with
  | 0 => ("ZnodeService$Server", "log", "[LZnodeService$Entry;", true)
  | 1 => ("ZnodeService$Server", "tree", "LZnodeService$Tree;", true)
  | 2 => ("ZnodeService$Server", "length", "I", false)
  | 3 => ("ZnodeService$Server", "applied", "I", false)
  | 4 => ("ZnodeService$Server", "age", "I", false)
  | 5 => ("ZnodeService$Server", "up", "Z", false)
  | _ => ("ZnodeService$Server", "alone", "Z", false)
def q_ty1 : Nat → FieldType := fun k => match k with
  | 0 => .array (.object "ZnodeService$Entry")
  | 1 => .object "ZnodeService$Tree"
  | 2 => .int
  | 3 => .int
  | 4 => .int
  | 5 => .boolean
  | _ => .boolean
theorem q_nm1 : ∀ a, a < 7 → ∀ b, b < 7 → a ≠ b → (q_T1 a).2.1 ≠ (q_T1 b).2.1 := by decide +kernel
theorem q_tk1 : ∀ k, k < 7 → parseFieldDescriptor (q_T1 k).2.2.1 = some (q_ty1 k) := by decide +kernel
theorem q_ws1 : ∀ w ∈ u_ws q_R1 q_T1 7, w ∈ q_good := by decide +kernel
def q_R2 : String := "ZnodeService$Session"
def q_T2 : u_T := fun k => match k with
  | 0 => ("ZnodeService$Session", "watches", "[I", true)
  | 1 => ("ZnodeService$Session", "events", "[I", true)
  | 2 => ("ZnodeService$Session", "eventCount", "I", false)
  | 3 => ("ZnodeService$Session", "open", "Z", false)
  | 4 => ("ZnodeService$Session", "due", "Z", false)
  | 5 => ("ZnodeService$Session", "server", "I", false)
  | 6 => ("ZnodeService$Session", "timeout", "I", false)
  | _ => ("ZnodeService$Session", "heard", "I", false)
def q_ty2 : Nat → FieldType := fun k => match k with
  | 0 => .array (.int)
  | 1 => .array (.int)
  | 2 => .int
  | 3 => .boolean
  | 4 => .boolean
  | 5 => .int
  | 6 => .int
  | _ => .int
theorem q_nm2 : ∀ a, a < 8 → ∀ b, b < 8 → a ≠ b → (q_T2 a).2.1 ≠ (q_T2 b).2.1 := by decide +kernel
theorem q_tk2 : ∀ k, k < 8 → parseFieldDescriptor (q_T2 k).2.2.1 = some (q_ty2 k) := by decide +kernel
theorem q_ws2 : ∀ w ∈ u_ws q_R2 q_T2 8, w ∈ q_good := by decide +kernel
def q_R3 : String := "ZnodeService$Tree"
def q_T3 : u_T := fun k => match k with
  | 0 => ("ZnodeService$Tree", "data", "[I", true)
  | 1 => ("ZnodeService$Tree", "version", "[I", true)
  | 2 => ("ZnodeService$Tree", "owner", "[I", true)
  | _ => ("ZnodeService$Tree", "next", "[I", true)
def q_ty3 : Nat → FieldType := fun k => match k with
  | 0 => .array (.int)
  | 1 => .array (.int)
  | 2 => .array (.int)
  | _ => .array (.int)
theorem q_nm3 : ∀ a, a < 4 → ∀ b, b < 4 → a ≠ b → (q_T3 a).2.1 ≠ (q_T3 b).2.1 := by decide +kernel
theorem q_tk3 : ∀ k, k < 4 → parseFieldDescriptor (q_T3 k).2.2.1 = some (q_ty3 k) := by decide +kernel
theorem q_ws3 : ∀ w ∈ u_ws q_R3 q_T3 4, w ∈ q_good := by decide +kernel
def q_R4 : String := "ZnodeService"
def q_T4 : u_T := fun k => match k with
  | 0 => ("ZnodeService", "servers", "[LZnodeService$Server;", true)
  | 1 => ("ZnodeService", "sessions", "[LZnodeService$Session;", true)
  | 2 => ("ZnodeService", "planned", "LZnodeService$Tree;", true)
  | 3 => ("ZnodeService", "leader", "I", false)
  | 4 => ("ZnodeService", "epoch", "I", false)
  | _ => ("ZnodeService", "time", "I", false)
def q_ty4 : Nat → FieldType := fun k => match k with
  | 0 => .array (.object "ZnodeService$Server")
  | 1 => .array (.object "ZnodeService$Session")
  | 2 => .object "ZnodeService$Tree"
  | 3 => .int
  | 4 => .int
  | _ => .int
theorem q_nm4 : ∀ a, a < 6 → ∀ b, b < 6 → a ≠ b → (q_T4 a).2.1 ≠ (q_T4 b).2.1 := by decide +kernel
theorem q_tk4 : ∀ k, k < 6 → parseFieldDescriptor (q_T4 k).2.2.1 = some (q_ty4 k) := by decide +kernel
theorem q_ws4 : ∀ w ∈ u_ws q_R4 q_T4 6, w ∈ q_good := by decide +kernel
def q_R5 : String := "ZnodeServiceModel"
def q_T5 : u_T := fun k => match k with
  | 0 => ("ZnodeServiceModel", "failed", "I", false)
  | 1 => ("ZnodeServiceModel", "kind", "[I", true)
  | 2 => ("ZnodeServiceModel", "path", "[I", true)
  | 3 => ("ZnodeServiceModel", "data", "[I", true)
  | 4 => ("ZnodeServiceModel", "session", "[I", true)
  | 5 => ("ZnodeServiceModel", "length", "[I", true)
  | 6 => ("ZnodeServiceModel", "applied", "[I", true)
  | 7 => ("ZnodeServiceModel", "age", "[I", true)
  | 8 => ("ZnodeServiceModel", "down", "[Z", true)
  | 9 => ("ZnodeServiceModel", "cut", "[Z", true)
  | 10 => ("ZnodeServiceModel", "leader", "I", false)
  | 11 => ("ZnodeServiceModel", "epoch", "I", false)
  | 12 => ("ZnodeServiceModel", "time", "I", false)
  | 13 => ("ZnodeServiceModel", "open", "[Z", true)
  | 14 => ("ZnodeServiceModel", "due", "[Z", true)
  | 15 => ("ZnodeServiceModel", "at", "[I", true)
  | 16 => ("ZnodeServiceModel", "timeout", "[I", true)
  | 17 => ("ZnodeServiceModel", "heard", "[I", true)
  | 18 => ("ZnodeServiceModel", "dataWatch", "[Z", true)
  | 19 => ("ZnodeServiceModel", "childWatch", "[Z", true)
  | 20 => ("ZnodeServiceModel", "event", "[I", true)
  | 21 => ("ZnodeServiceModel", "events", "[I", true)
  | 22 => ("ZnodeServiceModel", "there", "[Z", true)
  | 23 => ("ZnodeServiceModel", "value", "[I", true)
  | 24 => ("ZnodeServiceModel", "version", "[I", true)
  | 25 => ("ZnodeServiceModel", "next", "[I", true)
  | _ => ("ZnodeServiceModel", "owner", "[I", true)
def q_ty5 : Nat → FieldType := fun k => match k with
  | 0 => .int
  | 1 => .array (.int)
  | 2 => .array (.int)
  | 3 => .array (.int)
  | 4 => .array (.int)
  | 5 => .array (.int)
  | 6 => .array (.int)
  | 7 => .array (.int)
  | 8 => .array (.boolean)
  | 9 => .array (.boolean)
  | 10 => .int
  | 11 => .int
  | 12 => .int
  | 13 => .array (.boolean)
  | 14 => .array (.boolean)
  | 15 => .array (.int)
  | 16 => .array (.int)
  | 17 => .array (.int)
  | 18 => .array (.boolean)
  | 19 => .array (.boolean)
  | 20 => .array (.int)
  | 21 => .array (.int)
  | 22 => .array (.boolean)
  | 23 => .array (.int)
  | 24 => .array (.int)
  | 25 => .array (.int)
  | _ => .array (.int)
theorem q_nm5 : ∀ a, a < 27 → ∀ b, b < 27 → a ≠ b → (q_T5 a).2.1 ≠ (q_T5 b).2.1 := by decide +kernel
theorem q_tk5 : ∀ k, k < 27 → parseFieldDescriptor (q_T5 k).2.2.1 = some (q_ty5 k) := by decide +kernel
theorem q_ws5 : ∀ w ∈ u_ws q_R5 q_T5 27, w ∈ q_good := by decide +kernel
abbrev q_cl : List vw_C := [(q_R0, q_T0, 5), (q_R1, q_T1, 7), (q_R2, q_T2, 8), (q_R3, q_T3, 4), (q_R4, q_T4, 6), (q_R5, q_T5, 27)]
abbrev q_M : Type := MethodName × ByteArray × Nat × Option FieldType × List (Nat × Nat × Nat × Nat)
def m_zs_init : q_M := (⟨"ZnodeService", "<init>", "()V"⟩, prog_1_method_1_code, 2, none, [])
def m_tr_init : q_M := (⟨"ZnodeService$Tree", "<init>", "()V"⟩, prog_5_method_1_code, 1, none, [])
def m_ar_fill : q_M := (⟨"java/util/Arrays", "fill", "([II)V"⟩, prog_15_method_103_code, 4, none, [])
def m_sv_init : q_M := (⟨"ZnodeService$Server", "<init>", "()V"⟩, prog_3_method_1_code, 1, none, [])
def m_ss_init : q_M := (⟨"ZnodeService$Session", "<init>", "()V"⟩, prog_4_method_1_code, 1, none, [])
def m_lw_open : q_M := (⟨"ZnodeServiceLaw", "open", "(LZnodeService;III[J)I"⟩, method_3_code, 6, (some .int), [(0, 12, 15, 13), (0, 12, 19, 15)])
def m_zs_open : q_M := (⟨"ZnodeService", "open", "(III)I"⟩, prog_1_method_2_code, 5, (some .int), [])
def m_zs_requireSession : q_M := (⟨"ZnodeService", "requireSession", "(I)V"⟩, prog_1_method_22_code, 1, none, [])
def m_zs_requireRange : q_M := (⟨"ZnodeService", "requireRange", "(III)V"⟩, prog_1_method_21_code, 3, none, [])
def m_zs_requireServer : q_M := (⟨"ZnodeService", "requireServer", "(I)V"⟩, prog_1_method_23_code, 1, none, [])
def m_zs_isLinked : q_M := (⟨"ZnodeService", "isLinked", "(I)Z"⟩, prog_1_method_33_code, 2, (some .boolean), [])
def m_sv_isOnline : q_M := (⟨"ZnodeService$Server", "isOnline", "()Z"⟩, prog_3_method_2_code, 1, (some .boolean), [])
def m_zs_hasQuorum : q_M := (⟨"ZnodeService", "hasQuorum", "()Z"⟩, prog_1_method_34_code, 3, (some .boolean), [])
def m_ss_start : q_M := (⟨"ZnodeService$Session", "start", "(III)V"⟩, prog_4_method_3_code, 4, none, [])
def m_lw_close : q_M := (⟨"ZnodeServiceLaw", "close", "(LZnodeService;I[J)I"⟩, method_4_code, 4, (some .int), [(0, 9, 12, 13), (0, 9, 15, 15)])
def m_zs_close : q_M := (⟨"ZnodeService", "close", "(I)I"⟩, prog_1_method_3_code, 3, (some .int), [])
def m_zs_requireReach : q_M := (⟨"ZnodeService", "requireReach", "(I)V"⟩, prog_1_method_28_code, 4, none, [])
def m_zs_requireQuorum : q_M := (⟨"ZnodeService", "requireQuorum", "()V"⟩, prog_1_method_29_code, 1, none, [])
def m_tr_countOwned : q_M := (⟨"ZnodeService$Tree", "countOwned", "(I)I"⟩, prog_5_method_10_code, 4, (some .int), [])
def m_ss_end : q_M := (⟨"ZnodeService$Session", "end", "()V"⟩, prog_4_method_4_code, 1, none, [])
def m_ss_dropWatches : q_M := (⟨"ZnodeService$Session", "dropWatches", "()V"⟩, prog_4_method_6_code, 1, none, [])
def m_zs_closeDueSessions : q_M := (⟨"ZnodeService", "closeDueSessions", "()V"⟩, prog_1_method_42_code, 2, none, [])
def m_en_init : q_M := (⟨"ZnodeService$Entry", "<init>", "(IIIIZ)V"⟩, prog_2_method_1_code, 6, none, [])
def m_zs_appendAndPlan : q_M := (⟨"ZnodeService", "appendAndPlan", "(LZnodeService$Entry;)V"⟩, prog_1_method_38_code, 2, none, [])
def m_sv_append : q_M := (⟨"ZnodeService$Server", "append", "(LZnodeService$Entry;)V"⟩, prog_3_method_4_code, 2, none, [])
def m_tr_play : q_M := (⟨"ZnodeService$Tree", "play", "(LZnodeService$Entry;)V"⟩, prog_5_method_4_code, 2, none, [])
def m_tr_makeNode : q_M := (⟨"ZnodeService$Tree", "makeNode", "(LZnodeService$Entry;)V"⟩, prog_5_method_5_code, 4, none, [])
def m_zs_parentOf : q_M := (⟨"ZnodeService", "parentOf", "(I)I"⟩, prog_1_method_35_code, 1, (some .int), [])
def m_zs_childOf : q_M := (⟨"ZnodeService", "childOf", "(II)I"⟩, prog_1_method_36_code, 2, (some .int), [])
def m_tr_dropNode : q_M := (⟨"ZnodeService$Tree", "dropNode", "(I)V"⟩, prog_5_method_6_code, 2, none, [])
def m_tr_dropOwned : q_M := (⟨"ZnodeService$Tree", "dropOwned", "(I)V"⟩, prog_5_method_7_code, 3, none, [])
def m_zs_spread : q_M := (⟨"ZnodeService", "spread", "()V"⟩, prog_1_method_40_code, 3, none, [])
def m_sv_follow : q_M := (⟨"ZnodeService$Server", "follow", "(LZnodeService$Server;I)V"⟩, prog_3_method_5_code, 4, none, [])
def m_zs_applyLog : q_M := (⟨"ZnodeService", "applyLog", "(I)V"⟩, prog_1_method_41_code, 6, none, [])
def m_zs_isAt : q_M := (⟨"ZnodeService", "isAt", "(II)Z"⟩, prog_1_method_32_code, 3, (some .boolean), [])
def m_ss_hear : q_M := (⟨"ZnodeService$Session", "hear", "(LZnodeService$Entry;LZnodeService$Tree;)V"⟩, prog_4_method_7_code, 4, none, [])
def m_ss_tellOf : q_M := (⟨"ZnodeService$Session", "tellOf", "(II)V"⟩, prog_4_method_8_code, 3, none, [])
def m_ss_tellWatches : q_M := (⟨"ZnodeService$Session", "tellWatches", "(III)V"⟩, prog_4_method_9_code, 4, none, [])
def m_lw_ping : q_M := (⟨"ZnodeServiceLaw", "ping", "(LZnodeService;I[J)I"⟩, method_5_code, 4, (some .int), [(0, 9, 12, 13), (0, 9, 15, 15)])
def m_zs_ping : q_M := (⟨"ZnodeService", "ping", "(I)I"⟩, prog_1_method_4_code, 2, (some .int), [])
def m_lw_move : q_M := (⟨"ZnodeServiceLaw", "move", "(LZnodeService;II[J)I"⟩, method_6_code, 5, (some .int), [(0, 10, 13, 13), (0, 10, 17, 15)])
def m_zs_move : q_M := (⟨"ZnodeService", "move", "(II)I"⟩, prog_1_method_5_code, 5, (some .int), [])
def m_zs_requireOpen : q_M := (⟨"ZnodeService", "requireOpen", "(I)V"⟩, prog_1_method_27_code, 2, none, [])
def m_lw_create : q_M := (⟨"ZnodeServiceLaw", "create", "(LZnodeService;IIII[J)I"⟩, method_7_code, 7, (some .int), [(0, 14, 17, 13), (0, 14, 21, 15), (0, 14, 25, 32), (0, 14, 29, 34), (0, 14, 33, 36)])
def m_zs_create : q_M := (⟨"ZnodeService", "create", "(IIII)I"⟩, prog_1_method_6_code, 9, (some .int), [])
def m_zs_requireNode : q_M := (⟨"ZnodeService", "requireNode", "(LZnodeService$Tree;I)V"⟩, prog_1_method_26_code, 2, none, [])
def m_tr_has : q_M := (⟨"ZnodeService$Tree", "has", "(I)Z"⟩, prog_5_method_3_code, 2, (some .boolean), [])
def m_zs_proposeChange : q_M := (⟨"ZnodeService", "proposeChange", "(LZnodeService$Entry;)V"⟩, prog_1_method_37_code, 2, none, [])
def m_lw_set : q_M := (⟨"ZnodeServiceLaw", "set", "(LZnodeService;IIII[J)I"⟩, method_8_code, 7, (some .int), [(0, 14, 17, 13), (0, 14, 21, 15), (0, 14, 25, 32)])
def m_zs_set : q_M := (⟨"ZnodeService", "set", "(IIII)I"⟩, prog_1_method_7_code, 5, (some .int), [])
def m_zs_requirePath : q_M := (⟨"ZnodeService", "requirePath", "(I)V"⟩, prog_1_method_24_code, 1, none, [])
def m_zs_requireVersion : q_M := (⟨"ZnodeService", "requireVersion", "(I)V"⟩, prog_1_method_25_code, 1, none, [])
def m_zs_isOtherVersion : q_M := (⟨"ZnodeService", "isOtherVersion", "(II)Z"⟩, prog_1_method_31_code, 3, (some .boolean), [])
def m_lw_delete : q_M := (⟨"ZnodeServiceLaw", "delete", "(LZnodeService;III[J)I"⟩, method_9_code, 6, (some .int), [(0, 12, 15, 13), (0, 12, 19, 15), (0, 12, 23, 32), (0, 12, 27, 34)])
def m_zs_delete : q_M := (⟨"ZnodeService", "delete", "(III)I"⟩, prog_1_method_8_code, 5, (some .int), [])
def m_tr_childrenOf : q_M := (⟨"ZnodeService$Tree", "childrenOf", "(I)I"⟩, prog_5_method_8_code, 4, (some .int), [])
def m_lw_get : q_M := (⟨"ZnodeServiceLaw", "get", "(LZnodeService;IIZ[J)I"⟩, method_10_code, 6, (some .int), [(0, 12, 15, 13), (0, 12, 19, 15), (0, 12, 23, 32)])
def m_zs_get : q_M := (⟨"ZnodeService", "get", "(IIZ)I"⟩, prog_1_method_9_code, 5, (some .int), [])
def m_zs_treeOf : q_M := (⟨"ZnodeService", "treeOf", "(I)LZnodeService$Tree;"⟩, prog_1_method_30_code, 3, (some (.object "ZnodeService$Tree")), [])
def m_ss_watch : q_M := (⟨"ZnodeService$Session", "watch", "(II)V"⟩, prog_4_method_5_code, 3, none, [])
def m_lw_exists : q_M := (⟨"ZnodeServiceLaw", "exists", "(LZnodeService;IIZ[J)I"⟩, method_11_code, 6, (some .int), [(0, 19, 22, 13), (0, 19, 26, 15)])
def m_zs_exists : q_M := (⟨"ZnodeService", "exists", "(IIZ)Z"⟩, prog_1_method_10_code, 5, (some .boolean), [])
def m_lw_children : q_M := (⟨"ZnodeServiceLaw", "children", "(LZnodeService;IIZ[J)I"⟩, method_12_code, 6, (some .int), [(0, 12, 15, 13), (0, 12, 19, 15), (0, 12, 23, 32)])
def m_zs_children : q_M := (⟨"ZnodeService", "children", "(IIZ)I"⟩, prog_1_method_11_code, 5, (some .int), [])
def m_lw_fact : q_M := (⟨"ZnodeServiceLaw", "fact", "(LZnodeService;III[J)I"⟩, method_13_code, 6, (some .int), [(0, 12, 15, 13), (0, 12, 19, 15), (0, 12, 23, 32)])
def m_zs_fact : q_M := (⟨"ZnodeService", "fact", "(III)I"⟩, prog_1_method_12_code, 5, (some .int), [])
def m_lw_event : q_M := (⟨"ZnodeServiceLaw", "event", "(LZnodeService;I[J)I"⟩, method_14_code, 4, (some .int), [(0, 9, 12, 13), (0, 9, 15, 15), (0, 9, 18, 32)])
def m_zs_event : q_M := (⟨"ZnodeService", "event", "(I)I"⟩, prog_1_method_13_code, 2, (some .int), [])
def m_ss_takeEvent : q_M := (⟨"ZnodeService$Session", "takeEvent", "()I"⟩, prog_4_method_10_code, 3, (some .int), [])
def m_lw_crash : q_M := (⟨"ZnodeServiceLaw", "crash", "(LZnodeService;I[J)I"⟩, method_15_code, 4, (some .int), [(0, 9, 12, 13), (0, 9, 15, 15)])
def m_zs_crash : q_M := (⟨"ZnodeService", "crash", "(I)I"⟩, prog_1_method_14_code, 4, (some .int), [])
def m_lw_restart : q_M := (⟨"ZnodeServiceLaw", "restart", "(LZnodeService;I[J)I"⟩, method_16_code, 4, (some .int), [(0, 9, 12, 13), (0, 9, 15, 15)])
def m_zs_restart : q_M := (⟨"ZnodeService", "restart", "(I)I"⟩, prog_1_method_15_code, 4, (some .int), [])
def m_lw_alone : q_M := (⟨"ZnodeServiceLaw", "alone", "(LZnodeService;IZ[J)I"⟩, method_17_code, 5, (some .int), [(0, 10, 13, 13)])
def m_zs_alone : q_M := (⟨"ZnodeService", "alone", "(IZ)I"⟩, prog_1_method_16_code, 4, (some .int), [])
def m_lw_elect : q_M := (⟨"ZnodeServiceLaw", "elect", "(LZnodeService;[J)I"⟩, method_18_code, 3, (some .int), [(0, 8, 11, 15)])
def m_zs_elect : q_M := (⟨"ZnodeService", "elect", "()I"⟩, prog_1_method_17_code, 4, (some .int), [])
def m_sv_leadsBefore : q_M := (⟨"ZnodeService$Server", "leadsBefore", "(LZnodeService$Server;)Z"⟩, prog_3_method_3_code, 2, (some .boolean), [])
def m_zs_planAnew : q_M := (⟨"ZnodeService", "planAnew", "(LZnodeService$Server;)V"⟩, prog_1_method_39_code, 3, none, [])
def m_tr_clear : q_M := (⟨"ZnodeService$Tree", "clear", "()V"⟩, prog_5_method_2_code, 1, none, [])
def m_lw_tick : q_M := (⟨"ZnodeServiceLaw", "tick", "(LZnodeService;I[J)I"⟩, method_19_code, 4, (some .int), [(0, 9, 12, 13)])
def m_zs_tick : q_M := (⟨"ZnodeService", "tick", "(I)I"⟩, prog_1_method_18_code, 5, (some .int), [])
def m_lw_state : q_M := (⟨"ZnodeServiceLaw", "state", "(LZnodeService;II[J)I"⟩, method_20_code, 5, (some .int), [(0, 10, 13, 13)])
def m_zs_state : q_M := (⟨"ZnodeService", "state", "(II)I"⟩, prog_1_method_19_code, 4, (some .int), [])
def m_tr_countNodes : q_M := (⟨"ZnodeService$Tree", "countNodes", "()I"⟩, prog_5_method_9_code, 3, (some .int), [])
def m_lw_count : q_M := (⟨"ZnodeServiceLaw", "count", "(LZnodeService;I[J)I"⟩, method_21_code, 4, (some .int), [(0, 9, 12, 13)])
def m_zs_count : q_M := (⟨"ZnodeService", "count", "(I)I"⟩, prog_1_method_20_code, 2, (some .int), [])
def m_ss_standing : q_M := (⟨"ZnodeService$Session", "standing", "()I"⟩, prog_4_method_2_code, 1, (some .int), [])
def m_md_init : q_M := (⟨"ZnodeServiceModel", "<init>", "()V"⟩, prog_7_method_1_code, 2, none, [])
def m_md_thrown : q_M := (⟨"ZnodeServiceModel", "thrown", "()I"⟩, prog_7_method_2_code, 1, (some .int), [])
def m_md_open : q_M := (⟨"ZnodeServiceModel", "open", "(III)I"⟩, prog_7_method_25_code, 4, (some .int), [])
def m_md_out : q_M := (⟨"ZnodeServiceModel", "out", "(II)Z"⟩, prog_7_method_4_code, 3, (some .boolean), [])
def m_md_fail : q_M := (⟨"ZnodeServiceModel", "fail", "(I)I"⟩, prog_7_method_3_code, 2, (some .int), [])
def m_md_linked : q_M := (⟨"ZnodeServiceModel", "linked", "(I)Z"⟩, prog_7_method_14_code, 2, (some .boolean), [])
def m_md_fit : q_M := (⟨"ZnodeServiceModel", "fit", "(I)Z"⟩, prog_7_method_13_code, 2, (some .boolean), [])
def m_md_quorum : q_M := (⟨"ZnodeServiceModel", "quorum", "()Z"⟩, prog_7_method_15_code, 3, (some .boolean), [])
def m_md_end : q_M := (⟨"ZnodeServiceModel", "end", "(I)I"⟩, prog_7_method_20_code, 3, (some .int), [])
def m_md_planned : q_M := (⟨"ZnodeServiceModel", "planned", "()V"⟩, prog_7_method_19_code, 1, none, [])
def m_md_grow : q_M := (⟨"ZnodeServiceModel", "grow", "(II)V"⟩, prog_7_method_8_code, 4, none, [])
def m_md_plant : q_M := (⟨"ZnodeServiceModel", "plant", "()V"⟩, prog_7_method_5_code, 2, none, [])
def m_md_done : q_M := (⟨"ZnodeServiceModel", "done", "(II)V"⟩, prog_7_method_7_code, 5, none, [])
def m_md_parent : q_M := (⟨"ZnodeServiceModel", "parent", "(I)I"⟩, prog_7_method_6_code, 2, (some .int), [])
def m_md_tell : q_M := (⟨"ZnodeServiceModel", "tell", "(III)V"⟩, prog_7_method_10_code, 8, none, [])
def m_md_put : q_M := (⟨"ZnodeServiceModel", "put", "(II)V"⟩, prog_7_method_9_code, 3, none, [])
def m_md_owned : q_M := (⟨"ZnodeServiceModel", "owned", "(I)I"⟩, prog_7_method_12_code, 4, (some .int), [])
def m_md_propose : q_M := (⟨"ZnodeServiceModel", "propose", "(IIII)V"⟩, prog_7_method_18_code, 6, none, [])
def m_md_spread : q_M := (⟨"ZnodeServiceModel", "spread", "()V"⟩, prog_7_method_17_code, 3, none, [])
def m_md_copyEntry : q_M := (⟨"ZnodeServiceModel", "copyEntry", "(II)V"⟩, prog_7_method_16_code, 3, none, [])
def m_md_close : q_M := (⟨"ZnodeServiceModel", "close", "(I)I"⟩, prog_7_method_26_code, 3, (some .int), [])
def m_md_reaches : q_M := (⟨"ZnodeServiceModel", "reaches", "(I)Z"⟩, prog_7_method_22_code, 2, (some .boolean), [])
def m_md_connected : q_M := (⟨"ZnodeServiceModel", "connected", "(I)Z"⟩, prog_7_method_21_code, 2, (some .boolean), [])
def m_md_finish : q_M := (⟨"ZnodeServiceModel", "finish", "(I)V"⟩, prog_7_method_24_code, 2, none, [])
def m_md_forget : q_M := (⟨"ZnodeServiceModel", "forget", "(I)V"⟩, prog_7_method_23_code, 3, none, [])
def m_md_ping : q_M := (⟨"ZnodeServiceModel", "ping", "(I)I"⟩, prog_7_method_27_code, 2, (some .int), [])
def m_md_move : q_M := (⟨"ZnodeServiceModel", "move", "(II)I"⟩, prog_7_method_28_code, 4, (some .int), [])
def m_md_create : q_M := (⟨"ZnodeServiceModel", "create", "(IIII)I"⟩, prog_7_method_29_code, 7, (some .int), [])
def m_md_set : q_M := (⟨"ZnodeServiceModel", "set", "(IIII)I"⟩, prog_7_method_30_code, 6, (some .int), [])
def m_md_delete : q_M := (⟨"ZnodeServiceModel", "delete", "(III)I"⟩, prog_7_method_31_code, 5, (some .int), [])
def m_md_childrenOf : q_M := (⟨"ZnodeServiceModel", "childrenOf", "(I)I"⟩, prog_7_method_11_code, 4, (some .int), [])
def m_md_get : q_M := (⟨"ZnodeServiceModel", "get", "(IIZ)I"⟩, prog_7_method_33_code, 5, (some .int), [])
def m_md_look : q_M := (⟨"ZnodeServiceModel", "look", "(III)I"⟩, prog_7_method_32_code, 4, (some .int), [])
def m_md_exists : q_M := (⟨"ZnodeServiceModel", "exists", "(IIZ)Z"⟩, prog_7_method_34_code, 5, (some .boolean), [])
def m_md_children : q_M := (⟨"ZnodeServiceModel", "children", "(IIZ)I"⟩, prog_7_method_35_code, 5, (some .int), [])
def m_md_fact : q_M := (⟨"ZnodeServiceModel", "fact", "(III)I"⟩, prog_7_method_36_code, 4, (some .int), [])
def m_md_event : q_M := (⟨"ZnodeServiceModel", "event", "(I)I"⟩, prog_7_method_37_code, 4, (some .int), [])
def m_md_crash : q_M := (⟨"ZnodeServiceModel", "crash", "(I)I"⟩, prog_7_method_38_code, 3, (some .int), [])
def m_md_restart : q_M := (⟨"ZnodeServiceModel", "restart", "(I)I"⟩, prog_7_method_39_code, 2, (some .int), [])
def m_md_alone : q_M := (⟨"ZnodeServiceModel", "alone", "(IZ)I"⟩, prog_7_method_40_code, 4, (some .int), [])
def m_md_elect : q_M := (⟨"ZnodeServiceModel", "elect", "()I"⟩, prog_7_method_41_code, 5, (some .int), [])
def m_md_tick : q_M := (⟨"ZnodeServiceModel", "tick", "(I)I"⟩, prog_7_method_42_code, 4, (some .int), [])
def m_md_state : q_M := (⟨"ZnodeServiceModel", "state", "(II)I"⟩, prog_7_method_43_code, 5, (some .int), [])
def m_md_count : q_M := (⟨"ZnodeServiceModel", "count", "(I)I"⟩, prog_7_method_44_code, 2, (some .int), [])
def m_lw_law : q_M := (⟨"ZnodeServiceLaw", "law", "([I)Z"⟩, code, 7, (some .boolean), [])
end
section
/-! Words of the tables, by their places (wip/whole/gen_names.py). -/
theorem k_0 : Cond.initialized "ZnodeServiceLaw" ∈ q_good := q_in 40 (by decide +kernel) (by decide +kernel)
theorem k_1 : Cond.initialized "ZnodeService" ∈ q_good := q_in 41 (by decide +kernel) (by decide +kernel)
theorem k_2 : Cond.initialized "ZnodeService$Tree" ∈ q_good := q_in 42 (by decide +kernel) (by decide +kernel)
theorem k_3 : Cond.initialized "java/util/Arrays" ∈ q_good := q_in 43 (by decide +kernel) (by decide +kernel)
theorem k_4 : Cond.initialized "ZnodeService$Server" ∈ q_good := q_in 44 (by decide +kernel) (by decide +kernel)
theorem k_5 : Cond.initialized "ZnodeService$Session" ∈ q_good := q_in 45 (by decide +kernel) (by decide +kernel)
theorem k_6 : Cond.initialized "ZnodeServiceModel" ∈ q_good := q_in 46 (by decide +kernel) (by decide +kernel)
theorem k_7 : Cond.initialized "java/lang/Throwable" ∈ q_good := q_in 47 (by decide +kernel) (by decide +kernel)
theorem k_8 : Cond.initialized "java/lang/Exception" ∈ q_good := q_in 48 (by decide +kernel) (by decide +kernel)
theorem k_9 : Cond.initialized "java/lang/RuntimeException" ∈ q_good := q_in 49 (by decide +kernel) (by decide +kernel)
theorem k_10 : Cond.initialized "java/lang/IllegalArgumentException" ∈ q_good := q_in 50 (by decide +kernel) (by decide +kernel)
theorem k_11 : Cond.initialized "java/lang/IllegalStateException" ∈ q_good := q_in 51 (by decide +kernel) (by decide +kernel)
theorem k_12 : Cond.initialized "ZnodeService$Entry" ∈ q_good := q_in 52 (by decide +kernel) (by decide +kernel)
theorem k_13 : Cond.initialized "java/util/NoSuchElementException" ∈ q_good := q_in 53 (by decide +kernel) (by decide +kernel)
theorem k_14 : Cond.initialized "java/lang/UnsupportedOperationException" ∈ q_good := q_in 54 (by decide +kernel) (by decide +kernel)
theorem k_15 : Cond.initialized "java/lang/IndexOutOfBoundsException" ∈ q_good := q_in 55 (by decide +kernel) (by decide +kernel)
theorem k_16 : Cond.classLink "ZnodeServiceLaw" 8 "ZnodeService" ∈ q_good := q_in 56 (by decide +kernel) (by decide +kernel)
theorem k_17 : Cond.instantiable "ZnodeService" 6 ∈ q_good := q_in 57 (by decide +kernel) (by decide +kernel)
theorem k_18 : Cond.methodLink "ZnodeServiceLaw" 84 ⟨"ZnodeService", "<init>", "()V"⟩ ∈ q_good := q_in 58 (by decide +kernel) (by decide +kernel)
theorem k_19 : Cond.instanceMethod ⟨"ZnodeService", "<init>", "()V"⟩ ∈ q_good := q_in 59 (by decide +kernel) (by decide +kernel)
theorem k_20 : Cond.code ⟨"ZnodeService", "<init>", "()V"⟩ prog_1_method_1_code 2 (Option.none : Option Jvm.ClassFile.FieldType) ∈ q_good := q_in 60 (by decide +kernel) (by decide +kernel)
theorem k_21 : Cond.methodLink "ZnodeService" 3 ⟨"java/lang/Object", "<init>", "()V"⟩ ∈ q_good := q_in 61 (by decide +kernel) (by decide +kernel)
theorem k_22 : Cond.instanceMethod ⟨"java/lang/Object", "<init>", "()V"⟩ ∈ q_good := q_in 62 (by decide +kernel) (by decide +kernel)
theorem k_23 : Cond.code ⟨"java/lang/Object", "<init>", "()V"⟩ object_method_1_code 1 (Option.none : Option Jvm.ClassFile.FieldType) ∈ q_good := q_in 63 (by decide +kernel) (by decide +kernel)
theorem k_24 : Cond.classLink "ZnodeService" 9 "ZnodeService$Server" ∈ q_good := q_in 64 (by decide +kernel) (by decide +kernel)
theorem k_26 : Cond.classLink "ZnodeService" 15 "ZnodeService$Session" ∈ q_good := q_in 66 (by decide +kernel) (by decide +kernel)
theorem k_28 : Cond.classLink "ZnodeService" 21 "ZnodeService$Tree" ∈ q_good := q_in 68 (by decide +kernel) (by decide +kernel)
theorem k_29 : Cond.instantiable "ZnodeService$Tree" 4 ∈ q_good := q_in 69 (by decide +kernel) (by decide +kernel)
theorem k_30 : Cond.methodLink "ZnodeService" 23 ⟨"ZnodeService$Tree", "<init>", "()V"⟩ ∈ q_good := q_in 70 (by decide +kernel) (by decide +kernel)
theorem k_31 : Cond.instanceMethod ⟨"ZnodeService$Tree", "<init>", "()V"⟩ ∈ q_good := q_in 71 (by decide +kernel) (by decide +kernel)
theorem k_32 : Cond.code ⟨"ZnodeService$Tree", "<init>", "()V"⟩ prog_5_method_1_code 1 (Option.none : Option Jvm.ClassFile.FieldType) ∈ q_good := q_in 72 (by decide +kernel) (by decide +kernel)
theorem k_33 : Cond.methodLink "ZnodeService$Tree" 3 ⟨"java/lang/Object", "<init>", "()V"⟩ ∈ q_good := q_in 73 (by decide +kernel) (by decide +kernel)
theorem k_34 : Cond.methodLink "ZnodeService$Tree" 24 ⟨"java/util/Arrays", "fill", "([II)V"⟩ ∈ q_good := q_in 74 (by decide +kernel) (by decide +kernel)
theorem k_35 : Cond.static ⟨"java/util/Arrays", "fill", "([II)V"⟩ ∈ q_good := q_in 75 (by decide +kernel) (by decide +kernel)
theorem k_36 : Cond.code ⟨"java/util/Arrays", "fill", "([II)V"⟩ prog_15_method_103_code 4 (Option.none : Option Jvm.ClassFile.FieldType) ∈ q_good := q_in 76 (by decide +kernel) (by decide +kernel)
theorem k_37 : Cond.fieldLink "ZnodeService$Tree" 9 "ZnodeService$Tree" "data" "[I" ∈ q_good := q_in 77 (by decide +kernel) (by decide +kernel)
theorem k_38 : Cond.fieldLink "ZnodeService" 166 "ZnodeService$Tree" "data" "[I" ∈ q_good := q_in 78 (by decide +kernel) (by decide +kernel)
theorem k_39 : Cond.fieldLink "ZnodeService$Tree" 15 "ZnodeService$Tree" "version" "[I" ∈ q_good := q_in 79 (by decide +kernel) (by decide +kernel)
theorem k_40 : Cond.fieldLink "ZnodeService" 152 "ZnodeService$Tree" "version" "[I" ∈ q_good := q_in 80 (by decide +kernel) (by decide +kernel)
theorem k_41 : Cond.fieldLink "ZnodeService$Tree" 18 "ZnodeService$Tree" "owner" "[I" ∈ q_good := q_in 81 (by decide +kernel) (by decide +kernel)
theorem k_42 : Cond.fieldLink "ZnodeService" 113 "ZnodeService$Tree" "owner" "[I" ∈ q_good := q_in 82 (by decide +kernel) (by decide +kernel)
theorem k_43 : Cond.fieldLink "ZnodeService$Session" 59 "ZnodeService$Tree" "owner" "[I" ∈ q_good := q_in 83 (by decide +kernel) (by decide +kernel)
theorem k_44 : Cond.fieldLink "ZnodeService$Tree" 21 "ZnodeService$Tree" "next" "[I" ∈ q_good := q_in 84 (by decide +kernel) (by decide +kernel)
theorem k_45 : Cond.fieldLink "ZnodeService" 117 "ZnodeService$Tree" "next" "[I" ∈ q_good := q_in 85 (by decide +kernel) (by decide +kernel)
theorem k_55 : Cond.arrayClass FieldType.int ∈ q_good := q_in 95 (by decide +kernel) (by decide +kernel)
theorem k_56 : Cond.instantiable "ZnodeService$Server" 7 ∈ q_good := q_in 96 (by decide +kernel) (by decide +kernel)
theorem k_58 : Cond.instanceMethod ⟨"ZnodeService$Server", "<init>", "()V"⟩ ∈ q_good := q_in 98 (by decide +kernel) (by decide +kernel)
theorem k_59 : Cond.code ⟨"ZnodeService$Server", "<init>", "()V"⟩ prog_3_method_1_code 1 (Option.none : Option Jvm.ClassFile.FieldType) ∈ q_good := q_in 99 (by decide +kernel) (by decide +kernel)
theorem k_60 : Cond.methodLink "ZnodeService$Server" 3 ⟨"java/lang/Object", "<init>", "()V"⟩ ∈ q_good := q_in 100 (by decide +kernel) (by decide +kernel)
theorem k_61 : Cond.classLink "ZnodeService$Server" 9 "ZnodeService$Entry" ∈ q_good := q_in 101 (by decide +kernel) (by decide +kernel)
theorem k_63 : Cond.classLink "ZnodeService$Server" 17 "ZnodeService$Tree" ∈ q_good := q_in 103 (by decide +kernel) (by decide +kernel)
theorem k_64 : Cond.methodLink "ZnodeService$Server" 19 ⟨"ZnodeService$Tree", "<init>", "()V"⟩ ∈ q_good := q_in 104 (by decide +kernel) (by decide +kernel)
theorem k_65 : Cond.fieldLink "ZnodeService$Server" 11 "ZnodeService$Server" "log" "[LZnodeService$Entry;" ∈ q_good := q_in 105 (by decide +kernel) (by decide +kernel)
theorem k_66 : Cond.fieldLink "ZnodeService" 232 "ZnodeService$Server" "log" "[LZnodeService$Entry;" ∈ q_good := q_in 106 (by decide +kernel) (by decide +kernel)
theorem k_67 : Cond.fieldLink "ZnodeService$Server" 20 "ZnodeService$Server" "tree" "LZnodeService$Tree;" ∈ q_good := q_in 107 (by decide +kernel) (by decide +kernel)
theorem k_68 : Cond.fieldLink "ZnodeService" 205 "ZnodeService$Server" "tree" "LZnodeService$Tree;" ∈ q_good := q_in 108 (by decide +kernel) (by decide +kernel)
theorem k_69 : Cond.fieldLink "ZnodeService$Server" 24 "ZnodeService$Server" "length" "I" ∈ q_good := q_in 109 (by decide +kernel) (by decide +kernel)
theorem k_70 : Cond.fieldLink "ZnodeService" 179 "ZnodeService$Server" "length" "I" ∈ q_good := q_in 110 (by decide +kernel) (by decide +kernel)
theorem k_71 : Cond.fieldLink "ZnodeService$Server" 28 "ZnodeService$Server" "applied" "I" ∈ q_good := q_in 111 (by decide +kernel) (by decide +kernel)
theorem k_72 : Cond.fieldLink "ZnodeService" 185 "ZnodeService$Server" "applied" "I" ∈ q_good := q_in 112 (by decide +kernel) (by decide +kernel)
theorem k_73 : Cond.fieldLink "ZnodeService$Server" 31 "ZnodeService$Server" "age" "I" ∈ q_good := q_in 113 (by decide +kernel) (by decide +kernel)
theorem k_74 : Cond.fieldLink "ZnodeService" 211 "ZnodeService$Server" "age" "I" ∈ q_good := q_in 114 (by decide +kernel) (by decide +kernel)
theorem k_75 : Cond.fieldLink "ZnodeService$Server" 34 "ZnodeService$Server" "up" "Z" ∈ q_good := q_in 115 (by decide +kernel) (by decide +kernel)
theorem k_76 : Cond.fieldLink "ZnodeService" 97 "ZnodeService$Server" "up" "Z" ∈ q_good := q_in 116 (by decide +kernel) (by decide +kernel)
theorem k_77 : Cond.fieldLink "ZnodeService$Server" 38 "ZnodeService$Server" "alone" "Z" ∈ q_good := q_in 117 (by decide +kernel) (by decide +kernel)
theorem k_78 : Cond.fieldLink "ZnodeService" 188 "ZnodeService$Server" "alone" "Z" ∈ q_good := q_in 118 (by decide +kernel) (by decide +kernel)
theorem k_94 : Cond.instantiable "ZnodeService$Session" 8 ∈ q_good := q_in 134 (by decide +kernel) (by decide +kernel)
theorem k_96 : Cond.instanceMethod ⟨"ZnodeService$Session", "<init>", "()V"⟩ ∈ q_good := q_in 136 (by decide +kernel) (by decide +kernel)
theorem k_97 : Cond.code ⟨"ZnodeService$Session", "<init>", "()V"⟩ prog_4_method_1_code 1 (Option.none : Option Jvm.ClassFile.FieldType) ∈ q_good := q_in 137 (by decide +kernel) (by decide +kernel)
theorem k_98 : Cond.methodLink "ZnodeService$Session" 3 ⟨"java/lang/Object", "<init>", "()V"⟩ ∈ q_good := q_in 138 (by decide +kernel) (by decide +kernel)
theorem k_99 : Cond.fieldLink "ZnodeService$Session" 9 "ZnodeService$Session" "watches" "[I" ∈ q_good := q_in 139 (by decide +kernel) (by decide +kernel)
theorem k_100 : Cond.fieldLink "ZnodeService$Session" 15 "ZnodeService$Session" "events" "[I" ∈ q_good := q_in 140 (by decide +kernel) (by decide +kernel)
theorem k_101 : Cond.fieldLink "ZnodeService$Session" 18 "ZnodeService$Session" "eventCount" "I" ∈ q_good := q_in 141 (by decide +kernel) (by decide +kernel)
theorem k_102 : Cond.fieldLink "ZnodeService" 91 "ZnodeService$Session" "eventCount" "I" ∈ q_good := q_in 142 (by decide +kernel) (by decide +kernel)
theorem k_103 : Cond.fieldLink "ZnodeService$Session" 22 "ZnodeService$Session" "open" "Z" ∈ q_good := q_in 143 (by decide +kernel) (by decide +kernel)
theorem k_104 : Cond.fieldLink "ZnodeService" 51 "ZnodeService$Session" "open" "Z" ∈ q_good := q_in 144 (by decide +kernel) (by decide +kernel)
theorem k_105 : Cond.fieldLink "ZnodeService$Session" 26 "ZnodeService$Session" "due" "Z" ∈ q_good := q_in 145 (by decide +kernel) (by decide +kernel)
theorem k_106 : Cond.fieldLink "ZnodeService" 55 "ZnodeService$Session" "due" "Z" ∈ q_good := q_in 146 (by decide +kernel) (by decide +kernel)
theorem k_107 : Cond.fieldLink "ZnodeService$Session" 29 "ZnodeService$Session" "server" "I" ∈ q_good := q_in 147 (by decide +kernel) (by decide +kernel)
theorem k_108 : Cond.fieldLink "ZnodeService" 100 "ZnodeService$Session" "server" "I" ∈ q_good := q_in 148 (by decide +kernel) (by decide +kernel)
theorem k_109 : Cond.fieldLink "ZnodeService$Session" 32 "ZnodeService$Session" "timeout" "I" ∈ q_good := q_in 149 (by decide +kernel) (by decide +kernel)
theorem k_110 : Cond.fieldLink "ZnodeService" 202 "ZnodeService$Session" "timeout" "I" ∈ q_good := q_in 150 (by decide +kernel) (by decide +kernel)
theorem k_111 : Cond.fieldLink "ZnodeService$Session" 35 "ZnodeService$Session" "heard" "I" ∈ q_good := q_in 151 (by decide +kernel) (by decide +kernel)
theorem k_112 : Cond.fieldLink "ZnodeService" 88 "ZnodeService$Session" "heard" "I" ∈ q_good := q_in 152 (by decide +kernel) (by decide +kernel)
theorem k_130 : Cond.fieldLink "ZnodeService" 11 "ZnodeService" "servers" "[LZnodeService$Server;" ∈ q_good := q_in 170 (by decide +kernel) (by decide +kernel)
theorem k_131 : Cond.fieldLink "ZnodeService" 17 "ZnodeService" "sessions" "[LZnodeService$Session;" ∈ q_good := q_in 171 (by decide +kernel) (by decide +kernel)
theorem k_132 : Cond.fieldLink "ZnodeService" 24 "ZnodeService" "planned" "LZnodeService$Tree;" ∈ q_good := q_in 172 (by decide +kernel) (by decide +kernel)
theorem k_133 : Cond.fieldLink "ZnodeService" 28 "ZnodeService" "leader" "I" ∈ q_good := q_in 173 (by decide +kernel) (by decide +kernel)
theorem k_134 : Cond.fieldLink "ZnodeService" 32 "ZnodeService" "epoch" "I" ∈ q_good := q_in 174 (by decide +kernel) (by decide +kernel)
theorem k_135 : Cond.fieldLink "ZnodeService" 35 "ZnodeService" "time" "I" ∈ q_good := q_in 175 (by decide +kernel) (by decide +kernel)
theorem k_149 : Cond.methodLink "ZnodeServiceLaw" 88 ⟨"ZnodeServiceLaw", "open", "(LZnodeService;III[J)I"⟩ ∈ q_good := q_in 189 (by decide +kernel) (by decide +kernel)
theorem k_150 : Cond.static ⟨"ZnodeServiceLaw", "open", "(LZnodeService;III[J)I"⟩ ∈ q_good := q_in 190 (by decide +kernel) (by decide +kernel)
theorem k_151 : Cond.codeWith ⟨"ZnodeServiceLaw", "open", "(LZnodeService;III[J)I"⟩ method_3_code 6 (some FieldType.int) [(0, 12, 15, 13), (0, 12, 19, 15)] ∈ q_good := q_in 191 (by decide +kernel) (by decide +kernel)
theorem k_152 : Cond.classLink "ZnodeServiceLaw" 13 "java/lang/IllegalArgumentException" ∈ q_good := q_in 192 (by decide +kernel) (by decide +kernel)
theorem k_153 : Cond.classLink "ZnodeServiceLaw" 15 "java/lang/IllegalStateException" ∈ q_good := q_in 193 (by decide +kernel) (by decide +kernel)
theorem k_154 : Cond.methodLink "ZnodeServiceLaw" 7 ⟨"ZnodeService", "open", "(III)I"⟩ ∈ q_good := q_in 194 (by decide +kernel) (by decide +kernel)
theorem k_155 : Cond.instanceMethod ⟨"ZnodeService", "open", "(III)I"⟩ ∈ q_good := q_in 195 (by decide +kernel) (by decide +kernel)
theorem k_156 : Cond.selects "ZnodeService" ⟨"ZnodeService", "open", "(III)I"⟩ ⟨"ZnodeService", "open", "(III)I"⟩ ∈ q_good := q_in 196 (by decide +kernel) (by decide +kernel)
theorem k_157 : Cond.code ⟨"ZnodeService", "open", "(III)I"⟩ prog_1_method_2_code 5 (some FieldType.int) ∈ q_good := q_in 197 (by decide +kernel) (by decide +kernel)
theorem k_158 : Cond.methodLink "ZnodeService" 40 ⟨"ZnodeService", "requireSession", "(I)V"⟩ ∈ q_good := q_in 198 (by decide +kernel) (by decide +kernel)
theorem k_159 : Cond.static ⟨"ZnodeService", "requireSession", "(I)V"⟩ ∈ q_good := q_in 199 (by decide +kernel) (by decide +kernel)
theorem k_160 : Cond.code ⟨"ZnodeService", "requireSession", "(I)V"⟩ prog_1_method_22_code 1 (Option.none : Option Jvm.ClassFile.FieldType) ∈ q_good := q_in 200 (by decide +kernel) (by decide +kernel)
theorem k_161 : Cond.methodLink "ZnodeService" 47 ⟨"ZnodeService", "requireRange", "(III)V"⟩ ∈ q_good := q_in 201 (by decide +kernel) (by decide +kernel)
theorem k_162 : Cond.static ⟨"ZnodeService", "requireRange", "(III)V"⟩ ∈ q_good := q_in 202 (by decide +kernel) (by decide +kernel)
theorem k_163 : Cond.code ⟨"ZnodeService", "requireRange", "(III)V"⟩ prog_1_method_21_code 3 (Option.none : Option Jvm.ClassFile.FieldType) ∈ q_good := q_in 203 (by decide +kernel) (by decide +kernel)
theorem k_164 : Cond.classLink "ZnodeService" 217 "java/lang/IllegalArgumentException" ∈ q_good := q_in 204 (by decide +kernel) (by decide +kernel)
theorem k_165 : Cond.instantiable "java/lang/IllegalArgumentException" 6 ∈ q_good := q_in 205 (by decide +kernel) (by decide +kernel)
theorem k_173 : Cond.selects "java/lang/IllegalArgumentException" ⟨"java/lang/Throwable", "fillInStackTrace", "(I)Ljava/lang/Throwable;"⟩ ⟨"java/lang/Throwable", "fillInStackTrace", "(I)Ljava/lang/Throwable;"⟩ ∈ q_good := q_in 213 (by decide +kernel) (by decide +kernel)
theorem k_174 : Cond.selects "java/lang/IllegalArgumentException" ⟨"java/lang/Throwable", "fillInStackTrace", "()Ljava/lang/Throwable;"⟩ ⟨"java/lang/Throwable", "fillInStackTrace", "()Ljava/lang/Throwable;"⟩ ∈ q_good := q_in 214 (by decide +kernel) (by decide +kernel)
theorem k_185 : Cond.fieldLink "java/lang/Throwable" 198 "java/lang/Throwable" "backtrace" "Ljava/lang/Object;" ∈ q_good := q_in 225 (by decide +kernel) (by decide +kernel)
theorem k_187 : Cond.instanceMethod ⟨"java/lang/Throwable", "<init>", "()V"⟩ ∈ q_good := q_in 227 (by decide +kernel) (by decide +kernel)
theorem k_188 : Cond.code ⟨"java/lang/Throwable", "<init>", "()V"⟩ prog_13_method_1_code 1 (Option.none : Option Jvm.ClassFile.FieldType) ∈ q_good := q_in 228 (by decide +kernel) (by decide +kernel)
theorem k_189 : Cond.methodLink "java/lang/Throwable" 1 ⟨"java/lang/Object", "<init>", "()V"⟩ ∈ q_good := q_in 229 (by decide +kernel) (by decide +kernel)
theorem k_190 : Cond.fieldLink "java/lang/Throwable" 13 "java/lang/Throwable" "UNASSIGNED_STACK" "[Ljava/lang/StackTraceElement;" ∈ q_good := q_in 230 (by decide +kernel) (by decide +kernel)
theorem k_192 : Cond.fieldLink "java/lang/Throwable" 20 "java/lang/Throwable" "SUPPRESSED_SENTINEL" "Ljava/util/List;" ∈ q_good := q_in 232 (by decide +kernel) (by decide +kernel)
theorem k_194 : Cond.methodLink "java/lang/Throwable" 27 ⟨"java/lang/Throwable", "fillInStackTrace", "()Ljava/lang/Throwable;"⟩ ∈ q_good := q_in 234 (by decide +kernel) (by decide +kernel)
theorem k_195 : Cond.instanceMethod ⟨"java/lang/Throwable", "fillInStackTrace", "()Ljava/lang/Throwable;"⟩ ∈ q_good := q_in 235 (by decide +kernel) (by decide +kernel)
theorem k_197 : Cond.selects "java/lang/IllegalStateException" ⟨"java/lang/Throwable", "fillInStackTrace", "()Ljava/lang/Throwable;"⟩ ⟨"java/lang/Throwable", "fillInStackTrace", "()Ljava/lang/Throwable;"⟩ ∈ q_good := q_in 237 (by decide +kernel) (by decide +kernel)
theorem k_198 : Cond.selects "java/lang/IndexOutOfBoundsException" ⟨"java/lang/Throwable", "fillInStackTrace", "()Ljava/lang/Throwable;"⟩ ⟨"java/lang/Throwable", "fillInStackTrace", "()Ljava/lang/Throwable;"⟩ ∈ q_good := q_in 238 (by decide +kernel) (by decide +kernel)
theorem k_199 : Cond.selects "java/lang/UnsupportedOperationException" ⟨"java/lang/Throwable", "fillInStackTrace", "()Ljava/lang/Throwable;"⟩ ⟨"java/lang/Throwable", "fillInStackTrace", "()Ljava/lang/Throwable;"⟩ ∈ q_good := q_in 239 (by decide +kernel) (by decide +kernel)
theorem k_200 : Cond.selects "java/util/NoSuchElementException" ⟨"java/lang/Throwable", "fillInStackTrace", "()Ljava/lang/Throwable;"⟩ ⟨"java/lang/Throwable", "fillInStackTrace", "()Ljava/lang/Throwable;"⟩ ∈ q_good := q_in 240 (by decide +kernel) (by decide +kernel)
theorem k_202 : Cond.methodLink "java/lang/Throwable" 202 ⟨"java/lang/Throwable", "fillInStackTrace", "(I)Ljava/lang/Throwable;"⟩ ∈ q_good := q_in 242 (by decide +kernel) (by decide +kernel)
theorem k_204 : Cond.instanceMethod ⟨"java/lang/Throwable", "fillInStackTrace", "(I)Ljava/lang/Throwable;"⟩ ∈ q_good := q_in 244 (by decide +kernel) (by decide +kernel)
theorem k_205 : Cond.instantiable "java/lang/Throwable" 6 ∈ q_good := q_in 245 (by decide +kernel) (by decide +kernel)
theorem k_207 : Cond.methodLink "ZnodeService" 219 ⟨"java/lang/IllegalArgumentException", "<init>", "()V"⟩ ∈ q_good := q_in 247 (by decide +kernel) (by decide +kernel)
theorem k_208 : Cond.instanceMethod ⟨"java/lang/IllegalArgumentException", "<init>", "()V"⟩ ∈ q_good := q_in 248 (by decide +kernel) (by decide +kernel)
theorem k_209 : Cond.code ⟨"java/lang/IllegalArgumentException", "<init>", "()V"⟩ prog_9_method_1_code 1 (Option.none : Option Jvm.ClassFile.FieldType) ∈ q_good := q_in 249 (by decide +kernel) (by decide +kernel)
theorem k_210 : Cond.methodLink "java/lang/IllegalArgumentException" 1 ⟨"java/lang/RuntimeException", "<init>", "()V"⟩ ∈ q_good := q_in 250 (by decide +kernel) (by decide +kernel)
theorem k_211 : Cond.instanceMethod ⟨"java/lang/RuntimeException", "<init>", "()V"⟩ ∈ q_good := q_in 251 (by decide +kernel) (by decide +kernel)
theorem k_212 : Cond.code ⟨"java/lang/RuntimeException", "<init>", "()V"⟩ prog_12_method_1_code 1 (Option.none : Option Jvm.ClassFile.FieldType) ∈ q_good := q_in 252 (by decide +kernel) (by decide +kernel)
theorem k_213 : Cond.methodLink "java/lang/RuntimeException" 1 ⟨"java/lang/Exception", "<init>", "()V"⟩ ∈ q_good := q_in 253 (by decide +kernel) (by decide +kernel)
theorem k_214 : Cond.instanceMethod ⟨"java/lang/Exception", "<init>", "()V"⟩ ∈ q_good := q_in 254 (by decide +kernel) (by decide +kernel)
theorem k_215 : Cond.code ⟨"java/lang/Exception", "<init>", "()V"⟩ prog_8_method_1_code 1 (Option.none : Option Jvm.ClassFile.FieldType) ∈ q_good := q_in 255 (by decide +kernel) (by decide +kernel)
theorem k_216 : Cond.methodLink "java/lang/Exception" 1 ⟨"java/lang/Throwable", "<init>", "()V"⟩ ∈ q_good := q_in 256 (by decide +kernel) (by decide +kernel)
theorem k_218 : Cond.fieldLink "java/lang/Throwable" 7 "java/lang/Throwable" "cause" "Ljava/lang/Throwable;" ∈ q_good := q_in 258 (by decide +kernel) (by decide +kernel)
theorem k_219 : Cond.fieldLink "java/lang/Throwable" 17 "java/lang/Throwable" "stackTrace" "[Ljava/lang/StackTraceElement;" ∈ q_good := q_in 259 (by decide +kernel) (by decide +kernel)
theorem k_220 : Cond.fieldLink "java/lang/Throwable" 24 "java/lang/Throwable" "suppressedExceptions" "Ljava/util/List;" ∈ q_good := q_in 260 (by decide +kernel) (by decide +kernel)
theorem k_229 : Cond.methodLink "ZnodeService" 44 ⟨"ZnodeService", "requireServer", "(I)V"⟩ ∈ q_good := q_in 269 (by decide +kernel) (by decide +kernel)
theorem k_230 : Cond.static ⟨"ZnodeService", "requireServer", "(I)V"⟩ ∈ q_good := q_in 270 (by decide +kernel) (by decide +kernel)
theorem k_231 : Cond.code ⟨"ZnodeService", "requireServer", "(I)V"⟩ prog_1_method_23_code 1 (Option.none : Option Jvm.ClassFile.FieldType) ∈ q_good := q_in 271 (by decide +kernel) (by decide +kernel)
theorem k_232 : Cond.methodLink "ZnodeService" 58 ⟨"ZnodeService", "isLinked", "(I)Z"⟩ ∈ q_good := q_in 272 (by decide +kernel) (by decide +kernel)
theorem k_234 : Cond.instanceMethod ⟨"ZnodeService", "isLinked", "(I)Z"⟩ ∈ q_good := q_in 274 (by decide +kernel) (by decide +kernel)
theorem k_235 : Cond.code ⟨"ZnodeService", "isLinked", "(I)Z"⟩ prog_1_method_33_code 2 (some FieldType.boolean) ∈ q_good := q_in 275 (by decide +kernel) (by decide +kernel)
theorem k_236 : Cond.methodLink "ZnodeService" 191 ⟨"ZnodeService$Server", "isOnline", "()Z"⟩ ∈ q_good := q_in 276 (by decide +kernel) (by decide +kernel)
theorem k_237 : Cond.instanceMethod ⟨"ZnodeService$Server", "isOnline", "()Z"⟩ ∈ q_good := q_in 277 (by decide +kernel) (by decide +kernel)
theorem k_238 : Cond.selects "ZnodeService$Server" ⟨"ZnodeService$Server", "isOnline", "()Z"⟩ ⟨"ZnodeService$Server", "isOnline", "()Z"⟩ ∈ q_good := q_in 278 (by decide +kernel) (by decide +kernel)
theorem k_239 : Cond.code ⟨"ZnodeService$Server", "isOnline", "()Z"⟩ prog_3_method_2_code 1 (some FieldType.boolean) ∈ q_good := q_in 279 (by decide +kernel) (by decide +kernel)
theorem k_240 : Cond.methodLink "ZnodeService" 62 ⟨"ZnodeService", "hasQuorum", "()Z"⟩ ∈ q_good := q_in 280 (by decide +kernel) (by decide +kernel)
theorem k_242 : Cond.instanceMethod ⟨"ZnodeService", "hasQuorum", "()Z"⟩ ∈ q_good := q_in 282 (by decide +kernel) (by decide +kernel)
theorem k_243 : Cond.code ⟨"ZnodeService", "hasQuorum", "()Z"⟩ prog_1_method_34_code 3 (some FieldType.boolean) ∈ q_good := q_in 283 (by decide +kernel) (by decide +kernel)
theorem k_244 : Cond.classLink "ZnodeService" 66 "java/lang/IllegalStateException" ∈ q_good := q_in 284 (by decide +kernel) (by decide +kernel)
theorem k_245 : Cond.instantiable "java/lang/IllegalStateException" 6 ∈ q_good := q_in 285 (by decide +kernel) (by decide +kernel)
theorem k_247 : Cond.selects "java/lang/IllegalStateException" ⟨"java/lang/Throwable", "fillInStackTrace", "(I)Ljava/lang/Throwable;"⟩ ⟨"java/lang/Throwable", "fillInStackTrace", "(I)Ljava/lang/Throwable;"⟩ ∈ q_good := q_in 287 (by decide +kernel) (by decide +kernel)
theorem k_253 : Cond.methodLink "ZnodeService" 68 ⟨"java/lang/IllegalStateException", "<init>", "()V"⟩ ∈ q_good := q_in 293 (by decide +kernel) (by decide +kernel)
theorem k_254 : Cond.instanceMethod ⟨"java/lang/IllegalStateException", "<init>", "()V"⟩ ∈ q_good := q_in 294 (by decide +kernel) (by decide +kernel)
theorem k_255 : Cond.code ⟨"java/lang/IllegalStateException", "<init>", "()V"⟩ prog_10_method_1_code 1 (Option.none : Option Jvm.ClassFile.FieldType) ∈ q_good := q_in 295 (by decide +kernel) (by decide +kernel)
theorem k_256 : Cond.methodLink "java/lang/IllegalStateException" 1 ⟨"java/lang/RuntimeException", "<init>", "()V"⟩ ∈ q_good := q_in 296 (by decide +kernel) (by decide +kernel)
theorem k_259 : Cond.methodLink "ZnodeService" 69 ⟨"ZnodeService$Session", "start", "(III)V"⟩ ∈ q_good := q_in 299 (by decide +kernel) (by decide +kernel)
theorem k_260 : Cond.instanceMethod ⟨"ZnodeService$Session", "start", "(III)V"⟩ ∈ q_good := q_in 300 (by decide +kernel) (by decide +kernel)
theorem k_261 : Cond.selects "ZnodeService$Session" ⟨"ZnodeService$Session", "start", "(III)V"⟩ ⟨"ZnodeService$Session", "start", "(III)V"⟩ ∈ q_good := q_in 301 (by decide +kernel) (by decide +kernel)
theorem k_262 : Cond.code ⟨"ZnodeService$Session", "start", "(III)V"⟩ prog_4_method_3_code 4 (Option.none : Option Jvm.ClassFile.FieldType) ∈ q_good := q_in 302 (by decide +kernel) (by decide +kernel)
theorem k_263 : Cond.methodLink "ZnodeServiceLaw" 97 ⟨"ZnodeServiceLaw", "close", "(LZnodeService;I[J)I"⟩ ∈ q_good := q_in 303 (by decide +kernel) (by decide +kernel)
theorem k_264 : Cond.static ⟨"ZnodeServiceLaw", "close", "(LZnodeService;I[J)I"⟩ ∈ q_good := q_in 304 (by decide +kernel) (by decide +kernel)
theorem k_265 : Cond.codeWith ⟨"ZnodeServiceLaw", "close", "(LZnodeService;I[J)I"⟩ method_4_code 4 (some FieldType.int) [(0, 9, 12, 13), (0, 9, 15, 15)] ∈ q_good := q_in 305 (by decide +kernel) (by decide +kernel)
theorem k_266 : Cond.methodLink "ZnodeServiceLaw" 17 ⟨"ZnodeService", "close", "(I)I"⟩ ∈ q_good := q_in 306 (by decide +kernel) (by decide +kernel)
theorem k_267 : Cond.instanceMethod ⟨"ZnodeService", "close", "(I)I"⟩ ∈ q_good := q_in 307 (by decide +kernel) (by decide +kernel)
theorem k_268 : Cond.selects "ZnodeService" ⟨"ZnodeService", "close", "(I)I"⟩ ⟨"ZnodeService", "close", "(I)I"⟩ ∈ q_good := q_in 308 (by decide +kernel) (by decide +kernel)
theorem k_269 : Cond.code ⟨"ZnodeService", "close", "(I)I"⟩ prog_1_method_3_code 3 (some FieldType.int) ∈ q_good := q_in 309 (by decide +kernel) (by decide +kernel)
theorem k_270 : Cond.methodLink "ZnodeService" 72 ⟨"ZnodeService", "requireReach", "(I)V"⟩ ∈ q_good := q_in 310 (by decide +kernel) (by decide +kernel)
theorem k_272 : Cond.instanceMethod ⟨"ZnodeService", "requireReach", "(I)V"⟩ ∈ q_good := q_in 312 (by decide +kernel) (by decide +kernel)
theorem k_273 : Cond.code ⟨"ZnodeService", "requireReach", "(I)V"⟩ prog_1_method_28_code 4 (Option.none : Option Jvm.ClassFile.FieldType) ∈ q_good := q_in 313 (by decide +kernel) (by decide +kernel)
theorem k_274 : Cond.methodLink "ZnodeService" 75 ⟨"ZnodeService", "requireQuorum", "()V"⟩ ∈ q_good := q_in 314 (by decide +kernel) (by decide +kernel)
theorem k_276 : Cond.instanceMethod ⟨"ZnodeService", "requireQuorum", "()V"⟩ ∈ q_good := q_in 316 (by decide +kernel) (by decide +kernel)
theorem k_277 : Cond.code ⟨"ZnodeService", "requireQuorum", "()V"⟩ prog_1_method_29_code 1 (Option.none : Option Jvm.ClassFile.FieldType) ∈ q_good := q_in 317 (by decide +kernel) (by decide +kernel)
theorem k_278 : Cond.methodLink "ZnodeService" 78 ⟨"ZnodeService$Tree", "countOwned", "(I)I"⟩ ∈ q_good := q_in 318 (by decide +kernel) (by decide +kernel)
theorem k_279 : Cond.instanceMethod ⟨"ZnodeService$Tree", "countOwned", "(I)I"⟩ ∈ q_good := q_in 319 (by decide +kernel) (by decide +kernel)
theorem k_280 : Cond.selects "ZnodeService$Tree" ⟨"ZnodeService$Tree", "countOwned", "(I)I"⟩ ⟨"ZnodeService$Tree", "countOwned", "(I)I"⟩ ∈ q_good := q_in 320 (by decide +kernel) (by decide +kernel)
theorem k_281 : Cond.code ⟨"ZnodeService$Tree", "countOwned", "(I)I"⟩ prog_5_method_10_code 4 (some FieldType.int) ∈ q_good := q_in 321 (by decide +kernel) (by decide +kernel)
theorem k_282 : Cond.methodLink "ZnodeService" 82 ⟨"ZnodeService$Session", "end", "()V"⟩ ∈ q_good := q_in 322 (by decide +kernel) (by decide +kernel)
theorem k_283 : Cond.instanceMethod ⟨"ZnodeService$Session", "end", "()V"⟩ ∈ q_good := q_in 323 (by decide +kernel) (by decide +kernel)
theorem k_284 : Cond.selects "ZnodeService$Session" ⟨"ZnodeService$Session", "end", "()V"⟩ ⟨"ZnodeService$Session", "end", "()V"⟩ ∈ q_good := q_in 324 (by decide +kernel) (by decide +kernel)
theorem k_285 : Cond.code ⟨"ZnodeService$Session", "end", "()V"⟩ prog_4_method_4_code 1 (Option.none : Option Jvm.ClassFile.FieldType) ∈ q_good := q_in 325 (by decide +kernel) (by decide +kernel)
theorem k_286 : Cond.methodLink "ZnodeService$Session" 38 ⟨"ZnodeService$Session", "dropWatches", "()V"⟩ ∈ q_good := q_in 326 (by decide +kernel) (by decide +kernel)
theorem k_287 : Cond.instanceMethod ⟨"ZnodeService$Session", "dropWatches", "()V"⟩ ∈ q_good := q_in 327 (by decide +kernel) (by decide +kernel)
theorem k_288 : Cond.selects "ZnodeService$Session" ⟨"ZnodeService$Session", "dropWatches", "()V"⟩ ⟨"ZnodeService$Session", "dropWatches", "()V"⟩ ∈ q_good := q_in 328 (by decide +kernel) (by decide +kernel)
theorem k_289 : Cond.code ⟨"ZnodeService$Session", "dropWatches", "()V"⟩ prog_4_method_6_code 1 (Option.none : Option Jvm.ClassFile.FieldType) ∈ q_good := q_in 329 (by decide +kernel) (by decide +kernel)
theorem k_290 : Cond.methodLink "ZnodeService$Session" 41 ⟨"java/util/Arrays", "fill", "([II)V"⟩ ∈ q_good := q_in 330 (by decide +kernel) (by decide +kernel)
theorem k_291 : Cond.methodLink "ZnodeService" 85 ⟨"ZnodeService", "closeDueSessions", "()V"⟩ ∈ q_good := q_in 331 (by decide +kernel) (by decide +kernel)
theorem k_293 : Cond.instanceMethod ⟨"ZnodeService", "closeDueSessions", "()V"⟩ ∈ q_good := q_in 333 (by decide +kernel) (by decide +kernel)
theorem k_294 : Cond.code ⟨"ZnodeService", "closeDueSessions", "()V"⟩ prog_1_method_42_code 2 (Option.none : Option Jvm.ClassFile.FieldType) ∈ q_good := q_in 334 (by decide +kernel) (by decide +kernel)
theorem k_295 : Cond.classLink "ZnodeService" 133 "ZnodeService$Entry" ∈ q_good := q_in 335 (by decide +kernel) (by decide +kernel)
theorem k_296 : Cond.instantiable "ZnodeService$Entry" 5 ∈ q_good := q_in 336 (by decide +kernel) (by decide +kernel)
theorem k_297 : Cond.methodLink "ZnodeService" 135 ⟨"ZnodeService$Entry", "<init>", "(IIIIZ)V"⟩ ∈ q_good := q_in 337 (by decide +kernel) (by decide +kernel)
theorem k_298 : Cond.instanceMethod ⟨"ZnodeService$Entry", "<init>", "(IIIIZ)V"⟩ ∈ q_good := q_in 338 (by decide +kernel) (by decide +kernel)
theorem k_299 : Cond.code ⟨"ZnodeService$Entry", "<init>", "(IIIIZ)V"⟩ prog_2_method_1_code 6 (Option.none : Option Jvm.ClassFile.FieldType) ∈ q_good := q_in 339 (by decide +kernel) (by decide +kernel)
theorem k_300 : Cond.methodLink "ZnodeService$Entry" 1 ⟨"java/lang/Object", "<init>", "()V"⟩ ∈ q_good := q_in 340 (by decide +kernel) (by decide +kernel)
theorem k_301 : Cond.fieldLink "ZnodeService$Entry" 7 "ZnodeService$Entry" "kind" "I" ∈ q_good := q_in 341 (by decide +kernel) (by decide +kernel)
theorem k_302 : Cond.fieldLink "ZnodeService$Tree" 30 "ZnodeService$Entry" "kind" "I" ∈ q_good := q_in 342 (by decide +kernel) (by decide +kernel)
theorem k_303 : Cond.fieldLink "ZnodeService$Session" 47 "ZnodeService$Entry" "kind" "I" ∈ q_good := q_in 343 (by decide +kernel) (by decide +kernel)
theorem k_304 : Cond.fieldLink "ZnodeService$Entry" 13 "ZnodeService$Entry" "path" "I" ∈ q_good := q_in 344 (by decide +kernel) (by decide +kernel)
theorem k_305 : Cond.fieldLink "ZnodeService$Tree" 40 "ZnodeService$Entry" "path" "I" ∈ q_good := q_in 345 (by decide +kernel) (by decide +kernel)
theorem k_306 : Cond.fieldLink "ZnodeService$Session" 52 "ZnodeService$Entry" "path" "I" ∈ q_good := q_in 346 (by decide +kernel) (by decide +kernel)
theorem k_307 : Cond.fieldLink "ZnodeService$Entry" 16 "ZnodeService$Entry" "data" "I" ∈ q_good := q_in 347 (by decide +kernel) (by decide +kernel)
theorem k_308 : Cond.fieldLink "ZnodeService$Tree" 43 "ZnodeService$Entry" "data" "I" ∈ q_good := q_in 348 (by decide +kernel) (by decide +kernel)
theorem k_309 : Cond.fieldLink "ZnodeService$Entry" 19 "ZnodeService$Entry" "owner" "I" ∈ q_good := q_in 349 (by decide +kernel) (by decide +kernel)
theorem k_310 : Cond.fieldLink "ZnodeService$Tree" 49 "ZnodeService$Entry" "owner" "I" ∈ q_good := q_in 350 (by decide +kernel) (by decide +kernel)
theorem k_311 : Cond.fieldLink "ZnodeService$Session" 64 "ZnodeService$Entry" "owner" "I" ∈ q_good := q_in 351 (by decide +kernel) (by decide +kernel)
theorem k_312 : Cond.fieldLink "ZnodeService$Entry" 22 "ZnodeService$Entry" "inSequence" "Z" ∈ q_good := q_in 352 (by decide +kernel) (by decide +kernel)
theorem k_313 : Cond.fieldLink "ZnodeService$Tree" 54 "ZnodeService$Entry" "inSequence" "Z" ∈ q_good := q_in 353 (by decide +kernel) (by decide +kernel)
theorem k_325 : Cond.methodLink "ZnodeService" 220 ⟨"ZnodeService", "appendAndPlan", "(LZnodeService$Entry;)V"⟩ ∈ q_good := q_in 365 (by decide +kernel) (by decide +kernel)
theorem k_327 : Cond.instanceMethod ⟨"ZnodeService", "appendAndPlan", "(LZnodeService$Entry;)V"⟩ ∈ q_good := q_in 367 (by decide +kernel) (by decide +kernel)
theorem k_328 : Cond.code ⟨"ZnodeService", "appendAndPlan", "(LZnodeService$Entry;)V"⟩ prog_1_method_38_code 2 (Option.none : Option Jvm.ClassFile.FieldType) ∈ q_good := q_in 368 (by decide +kernel) (by decide +kernel)
theorem k_329 : Cond.methodLink "ZnodeService" 223 ⟨"ZnodeService$Server", "append", "(LZnodeService$Entry;)V"⟩ ∈ q_good := q_in 369 (by decide +kernel) (by decide +kernel)
theorem k_330 : Cond.instanceMethod ⟨"ZnodeService$Server", "append", "(LZnodeService$Entry;)V"⟩ ∈ q_good := q_in 370 (by decide +kernel) (by decide +kernel)
theorem k_331 : Cond.selects "ZnodeService$Server" ⟨"ZnodeService$Server", "append", "(LZnodeService$Entry;)V"⟩ ⟨"ZnodeService$Server", "append", "(LZnodeService$Entry;)V"⟩ ∈ q_good := q_in 371 (by decide +kernel) (by decide +kernel)
theorem k_332 : Cond.code ⟨"ZnodeService$Server", "append", "(LZnodeService$Entry;)V"⟩ prog_3_method_4_code 2 (Option.none : Option Jvm.ClassFile.FieldType) ∈ q_good := q_in 372 (by decide +kernel) (by decide +kernel)
theorem k_333 : Cond.methodLink "ZnodeService" 226 ⟨"ZnodeService$Tree", "play", "(LZnodeService$Entry;)V"⟩ ∈ q_good := q_in 373 (by decide +kernel) (by decide +kernel)
theorem k_334 : Cond.instanceMethod ⟨"ZnodeService$Tree", "play", "(LZnodeService$Entry;)V"⟩ ∈ q_good := q_in 374 (by decide +kernel) (by decide +kernel)
theorem k_335 : Cond.selects "ZnodeService$Tree" ⟨"ZnodeService$Tree", "play", "(LZnodeService$Entry;)V"⟩ ⟨"ZnodeService$Tree", "play", "(LZnodeService$Entry;)V"⟩ ∈ q_good := q_in 375 (by decide +kernel) (by decide +kernel)
theorem k_336 : Cond.code ⟨"ZnodeService$Tree", "play", "(LZnodeService$Entry;)V"⟩ prog_5_method_4_code 2 (Option.none : Option Jvm.ClassFile.FieldType) ∈ q_good := q_in 376 (by decide +kernel) (by decide +kernel)
theorem k_337 : Cond.methodLink "ZnodeService$Tree" 36 ⟨"ZnodeService$Tree", "makeNode", "(LZnodeService$Entry;)V"⟩ ∈ q_good := q_in 377 (by decide +kernel) (by decide +kernel)
theorem k_338 : Cond.instanceMethod ⟨"ZnodeService$Tree", "makeNode", "(LZnodeService$Entry;)V"⟩ ∈ q_good := q_in 378 (by decide +kernel) (by decide +kernel)
theorem k_339 : Cond.selects "ZnodeService$Tree" ⟨"ZnodeService$Tree", "makeNode", "(LZnodeService$Entry;)V"⟩ ⟨"ZnodeService$Tree", "makeNode", "(LZnodeService$Entry;)V"⟩ ∈ q_good := q_in 379 (by decide +kernel) (by decide +kernel)
theorem k_340 : Cond.code ⟨"ZnodeService$Tree", "makeNode", "(LZnodeService$Entry;)V"⟩ prog_5_method_5_code 4 (Option.none : Option Jvm.ClassFile.FieldType) ∈ q_good := q_in 380 (by decide +kernel) (by decide +kernel)
theorem k_342 : Cond.static ⟨"ZnodeService", "parentOf", "(I)I"⟩ ∈ q_good := q_in 382 (by decide +kernel) (by decide +kernel)
theorem k_343 : Cond.code ⟨"ZnodeService", "parentOf", "(I)I"⟩ prog_1_method_35_code 1 (some FieldType.int) ∈ q_good := q_in 383 (by decide +kernel) (by decide +kernel)
theorem k_345 : Cond.static ⟨"ZnodeService", "childOf", "(II)I"⟩ ∈ q_good := q_in 385 (by decide +kernel) (by decide +kernel)
theorem k_346 : Cond.code ⟨"ZnodeService", "childOf", "(II)I"⟩ prog_1_method_36_code 2 (some FieldType.int) ∈ q_good := q_in 386 (by decide +kernel) (by decide +kernel)
theorem k_347 : Cond.methodLink "ZnodeService$Tree" 45 ⟨"ZnodeService$Tree", "dropNode", "(I)V"⟩ ∈ q_good := q_in 387 (by decide +kernel) (by decide +kernel)
theorem k_348 : Cond.instanceMethod ⟨"ZnodeService$Tree", "dropNode", "(I)V"⟩ ∈ q_good := q_in 388 (by decide +kernel) (by decide +kernel)
theorem k_349 : Cond.selects "ZnodeService$Tree" ⟨"ZnodeService$Tree", "dropNode", "(I)V"⟩ ⟨"ZnodeService$Tree", "dropNode", "(I)V"⟩ ∈ q_good := q_in 389 (by decide +kernel) (by decide +kernel)
theorem k_350 : Cond.code ⟨"ZnodeService$Tree", "dropNode", "(I)V"⟩ prog_5_method_6_code 2 (Option.none : Option Jvm.ClassFile.FieldType) ∈ q_good := q_in 390 (by decide +kernel) (by decide +kernel)
theorem k_351 : Cond.methodLink "ZnodeService$Tree" 51 ⟨"ZnodeService$Tree", "dropOwned", "(I)V"⟩ ∈ q_good := q_in 391 (by decide +kernel) (by decide +kernel)
theorem k_352 : Cond.instanceMethod ⟨"ZnodeService$Tree", "dropOwned", "(I)V"⟩ ∈ q_good := q_in 392 (by decide +kernel) (by decide +kernel)
theorem k_353 : Cond.selects "ZnodeService$Tree" ⟨"ZnodeService$Tree", "dropOwned", "(I)V"⟩ ⟨"ZnodeService$Tree", "dropOwned", "(I)V"⟩ ∈ q_good := q_in 393 (by decide +kernel) (by decide +kernel)
theorem k_354 : Cond.code ⟨"ZnodeService$Tree", "dropOwned", "(I)V"⟩ prog_5_method_7_code 3 (Option.none : Option Jvm.ClassFile.FieldType) ∈ q_good := q_in 394 (by decide +kernel) (by decide +kernel)
theorem k_355 : Cond.methodLink "ZnodeService" 182 ⟨"ZnodeService", "spread", "()V"⟩ ∈ q_good := q_in 395 (by decide +kernel) (by decide +kernel)
theorem k_357 : Cond.instanceMethod ⟨"ZnodeService", "spread", "()V"⟩ ∈ q_good := q_in 397 (by decide +kernel) (by decide +kernel)
theorem k_358 : Cond.code ⟨"ZnodeService", "spread", "()V"⟩ prog_1_method_40_code 3 (Option.none : Option Jvm.ClassFile.FieldType) ∈ q_good := q_in 398 (by decide +kernel) (by decide +kernel)
theorem k_359 : Cond.methodLink "ZnodeService" 236 ⟨"ZnodeService$Server", "follow", "(LZnodeService$Server;I)V"⟩ ∈ q_good := q_in 399 (by decide +kernel) (by decide +kernel)
theorem k_360 : Cond.instanceMethod ⟨"ZnodeService$Server", "follow", "(LZnodeService$Server;I)V"⟩ ∈ q_good := q_in 400 (by decide +kernel) (by decide +kernel)
theorem k_361 : Cond.selects "ZnodeService$Server" ⟨"ZnodeService$Server", "follow", "(LZnodeService$Server;I)V"⟩ ⟨"ZnodeService$Server", "follow", "(LZnodeService$Server;I)V"⟩ ∈ q_good := q_in 401 (by decide +kernel) (by decide +kernel)
theorem k_362 : Cond.code ⟨"ZnodeService$Server", "follow", "(LZnodeService$Server;I)V"⟩ prog_3_method_5_code 4 (Option.none : Option Jvm.ClassFile.FieldType) ∈ q_good := q_in 402 (by decide +kernel) (by decide +kernel)
theorem k_363 : Cond.methodLink "ZnodeService" 240 ⟨"ZnodeService", "applyLog", "(I)V"⟩ ∈ q_good := q_in 403 (by decide +kernel) (by decide +kernel)
theorem k_365 : Cond.instanceMethod ⟨"ZnodeService", "applyLog", "(I)V"⟩ ∈ q_good := q_in 405 (by decide +kernel) (by decide +kernel)
theorem k_366 : Cond.code ⟨"ZnodeService", "applyLog", "(I)V"⟩ prog_1_method_41_code 6 (Option.none : Option Jvm.ClassFile.FieldType) ∈ q_good := q_in 406 (by decide +kernel) (by decide +kernel)
theorem k_367 : Cond.methodLink "ZnodeService" 176 ⟨"ZnodeService", "isAt", "(II)Z"⟩ ∈ q_good := q_in 407 (by decide +kernel) (by decide +kernel)
theorem k_369 : Cond.instanceMethod ⟨"ZnodeService", "isAt", "(II)Z"⟩ ∈ q_good := q_in 409 (by decide +kernel) (by decide +kernel)
theorem k_370 : Cond.code ⟨"ZnodeService", "isAt", "(II)Z"⟩ prog_1_method_32_code 3 (some FieldType.boolean) ∈ q_good := q_in 410 (by decide +kernel) (by decide +kernel)
theorem k_371 : Cond.methodLink "ZnodeService" 243 ⟨"ZnodeService$Session", "hear", "(LZnodeService$Entry;LZnodeService$Tree;)V"⟩ ∈ q_good := q_in 411 (by decide +kernel) (by decide +kernel)
theorem k_372 : Cond.instanceMethod ⟨"ZnodeService$Session", "hear", "(LZnodeService$Entry;LZnodeService$Tree;)V"⟩ ∈ q_good := q_in 412 (by decide +kernel) (by decide +kernel)
theorem k_373 : Cond.selects "ZnodeService$Session" ⟨"ZnodeService$Session", "hear", "(LZnodeService$Entry;LZnodeService$Tree;)V"⟩ ⟨"ZnodeService$Session", "hear", "(LZnodeService$Entry;LZnodeService$Tree;)V"⟩ ∈ q_good := q_in 413 (by decide +kernel) (by decide +kernel)
theorem k_374 : Cond.code ⟨"ZnodeService$Session", "hear", "(LZnodeService$Entry;LZnodeService$Tree;)V"⟩ prog_4_method_7_code 4 (Option.none : Option Jvm.ClassFile.FieldType) ∈ q_good := q_in 414 (by decide +kernel) (by decide +kernel)
theorem k_375 : Cond.methodLink "ZnodeService$Session" 55 ⟨"ZnodeService$Session", "tellOf", "(II)V"⟩ ∈ q_good := q_in 415 (by decide +kernel) (by decide +kernel)
theorem k_377 : Cond.instanceMethod ⟨"ZnodeService$Session", "tellOf", "(II)V"⟩ ∈ q_good := q_in 417 (by decide +kernel) (by decide +kernel)
theorem k_378 : Cond.code ⟨"ZnodeService$Session", "tellOf", "(II)V"⟩ prog_4_method_8_code 3 (Option.none : Option Jvm.ClassFile.FieldType) ∈ q_good := q_in 418 (by decide +kernel) (by decide +kernel)
theorem k_379 : Cond.methodLink "ZnodeService$Session" 66 ⟨"ZnodeService$Session", "tellWatches", "(III)V"⟩ ∈ q_good := q_in 419 (by decide +kernel) (by decide +kernel)
theorem k_381 : Cond.instanceMethod ⟨"ZnodeService$Session", "tellWatches", "(III)V"⟩ ∈ q_good := q_in 421 (by decide +kernel) (by decide +kernel)
theorem k_382 : Cond.code ⟨"ZnodeService$Session", "tellWatches", "(III)V"⟩ prog_4_method_9_code 4 (Option.none : Option Jvm.ClassFile.FieldType) ∈ q_good := q_in 422 (by decide +kernel) (by decide +kernel)
theorem k_384 : Cond.methodLink "ZnodeServiceLaw" 101 ⟨"ZnodeServiceLaw", "ping", "(LZnodeService;I[J)I"⟩ ∈ q_good := q_in 424 (by decide +kernel) (by decide +kernel)
theorem k_385 : Cond.static ⟨"ZnodeServiceLaw", "ping", "(LZnodeService;I[J)I"⟩ ∈ q_good := q_in 425 (by decide +kernel) (by decide +kernel)
theorem k_386 : Cond.codeWith ⟨"ZnodeServiceLaw", "ping", "(LZnodeService;I[J)I"⟩ method_5_code 4 (some FieldType.int) [(0, 9, 12, 13), (0, 9, 15, 15)] ∈ q_good := q_in 426 (by decide +kernel) (by decide +kernel)
theorem k_387 : Cond.methodLink "ZnodeServiceLaw" 21 ⟨"ZnodeService", "ping", "(I)I"⟩ ∈ q_good := q_in 427 (by decide +kernel) (by decide +kernel)
theorem k_388 : Cond.instanceMethod ⟨"ZnodeService", "ping", "(I)I"⟩ ∈ q_good := q_in 428 (by decide +kernel) (by decide +kernel)
theorem k_389 : Cond.selects "ZnodeService" ⟨"ZnodeService", "ping", "(I)I"⟩ ⟨"ZnodeService", "ping", "(I)I"⟩ ∈ q_good := q_in 429 (by decide +kernel) (by decide +kernel)
theorem k_390 : Cond.code ⟨"ZnodeService", "ping", "(I)I"⟩ prog_1_method_4_code 2 (some FieldType.int) ∈ q_good := q_in 430 (by decide +kernel) (by decide +kernel)
theorem k_391 : Cond.methodLink "ZnodeServiceLaw" 104 ⟨"ZnodeServiceLaw", "move", "(LZnodeService;II[J)I"⟩ ∈ q_good := q_in 431 (by decide +kernel) (by decide +kernel)
theorem k_392 : Cond.static ⟨"ZnodeServiceLaw", "move", "(LZnodeService;II[J)I"⟩ ∈ q_good := q_in 432 (by decide +kernel) (by decide +kernel)
theorem k_393 : Cond.codeWith ⟨"ZnodeServiceLaw", "move", "(LZnodeService;II[J)I"⟩ method_6_code 5 (some FieldType.int) [(0, 10, 13, 13), (0, 10, 17, 15)] ∈ q_good := q_in 433 (by decide +kernel) (by decide +kernel)
theorem k_394 : Cond.methodLink "ZnodeServiceLaw" 24 ⟨"ZnodeService", "move", "(II)I"⟩ ∈ q_good := q_in 434 (by decide +kernel) (by decide +kernel)
theorem k_395 : Cond.instanceMethod ⟨"ZnodeService", "move", "(II)I"⟩ ∈ q_good := q_in 435 (by decide +kernel) (by decide +kernel)
theorem k_396 : Cond.selects "ZnodeService" ⟨"ZnodeService", "move", "(II)I"⟩ ⟨"ZnodeService", "move", "(II)I"⟩ ∈ q_good := q_in 436 (by decide +kernel) (by decide +kernel)
theorem k_397 : Cond.code ⟨"ZnodeService", "move", "(II)I"⟩ prog_1_method_5_code 5 (some FieldType.int) ∈ q_good := q_in 437 (by decide +kernel) (by decide +kernel)
theorem k_398 : Cond.methodLink "ZnodeService" 94 ⟨"ZnodeService", "requireOpen", "(I)V"⟩ ∈ q_good := q_in 438 (by decide +kernel) (by decide +kernel)
theorem k_400 : Cond.instanceMethod ⟨"ZnodeService", "requireOpen", "(I)V"⟩ ∈ q_good := q_in 440 (by decide +kernel) (by decide +kernel)
theorem k_401 : Cond.code ⟨"ZnodeService", "requireOpen", "(I)V"⟩ prog_1_method_27_code 2 (Option.none : Option Jvm.ClassFile.FieldType) ∈ q_good := q_in 441 (by decide +kernel) (by decide +kernel)
theorem k_402 : Cond.methodLink "ZnodeService" 103 ⟨"ZnodeService$Session", "dropWatches", "()V"⟩ ∈ q_good := q_in 442 (by decide +kernel) (by decide +kernel)
theorem k_403 : Cond.methodLink "ZnodeServiceLaw" 108 ⟨"ZnodeServiceLaw", "create", "(LZnodeService;IIII[J)I"⟩ ∈ q_good := q_in 443 (by decide +kernel) (by decide +kernel)
theorem k_404 : Cond.static ⟨"ZnodeServiceLaw", "create", "(LZnodeService;IIII[J)I"⟩ ∈ q_good := q_in 444 (by decide +kernel) (by decide +kernel)
theorem k_405 : Cond.codeWith ⟨"ZnodeServiceLaw", "create", "(LZnodeService;IIII[J)I"⟩ method_7_code 7 (some FieldType.int) [(0, 14, 17, 13), (0, 14, 21, 15), (0, 14, 25, 32), (0, 14, 29, 34), (0, 14, 33, 36)] ∈ q_good := q_in 445 (by decide +kernel) (by decide +kernel)
theorem k_406 : Cond.classLink "ZnodeServiceLaw" 32 "java/util/NoSuchElementException" ∈ q_good := q_in 446 (by decide +kernel) (by decide +kernel)
theorem k_407 : Cond.classLink "ZnodeServiceLaw" 34 "java/lang/UnsupportedOperationException" ∈ q_good := q_in 447 (by decide +kernel) (by decide +kernel)
theorem k_408 : Cond.classLink "ZnodeServiceLaw" 36 "java/lang/IndexOutOfBoundsException" ∈ q_good := q_in 448 (by decide +kernel) (by decide +kernel)
theorem k_409 : Cond.methodLink "ZnodeServiceLaw" 28 ⟨"ZnodeService", "create", "(IIII)I"⟩ ∈ q_good := q_in 449 (by decide +kernel) (by decide +kernel)
theorem k_410 : Cond.instanceMethod ⟨"ZnodeService", "create", "(IIII)I"⟩ ∈ q_good := q_in 450 (by decide +kernel) (by decide +kernel)
theorem k_411 : Cond.selects "ZnodeService" ⟨"ZnodeService", "create", "(IIII)I"⟩ ⟨"ZnodeService", "create", "(IIII)I"⟩ ∈ q_good := q_in 451 (by decide +kernel) (by decide +kernel)
theorem k_412 : Cond.code ⟨"ZnodeService", "create", "(IIII)I"⟩ prog_1_method_6_code 9 (some FieldType.int) ∈ q_good := q_in 452 (by decide +kernel) (by decide +kernel)
theorem k_413 : Cond.methodLink "ZnodeService" 106 ⟨"ZnodeService", "parentOf", "(I)I"⟩ ∈ q_good := q_in 453 (by decide +kernel) (by decide +kernel)
theorem k_414 : Cond.methodLink "ZnodeService" 109 ⟨"ZnodeService", "requireNode", "(LZnodeService$Tree;I)V"⟩ ∈ q_good := q_in 454 (by decide +kernel) (by decide +kernel)
theorem k_415 : Cond.static ⟨"ZnodeService", "requireNode", "(LZnodeService$Tree;I)V"⟩ ∈ q_good := q_in 455 (by decide +kernel) (by decide +kernel)
theorem k_416 : Cond.code ⟨"ZnodeService", "requireNode", "(LZnodeService$Tree;I)V"⟩ prog_1_method_26_code 2 (Option.none : Option Jvm.ClassFile.FieldType) ∈ q_good := q_in 456 (by decide +kernel) (by decide +kernel)
theorem k_417 : Cond.methodLink "ZnodeService" 127 ⟨"ZnodeService$Tree", "has", "(I)Z"⟩ ∈ q_good := q_in 457 (by decide +kernel) (by decide +kernel)
theorem k_418 : Cond.instanceMethod ⟨"ZnodeService$Tree", "has", "(I)Z"⟩ ∈ q_good := q_in 458 (by decide +kernel) (by decide +kernel)
theorem k_419 : Cond.selects "ZnodeService$Tree" ⟨"ZnodeService$Tree", "has", "(I)Z"⟩ ⟨"ZnodeService$Tree", "has", "(I)Z"⟩ ∈ q_good := q_in 459 (by decide +kernel) (by decide +kernel)
theorem k_420 : Cond.code ⟨"ZnodeService$Tree", "has", "(I)Z"⟩ prog_5_method_3_code 2 (some FieldType.boolean) ∈ q_good := q_in 460 (by decide +kernel) (by decide +kernel)
theorem k_421 : Cond.classLink "ZnodeService" 169 "java/util/NoSuchElementException" ∈ q_good := q_in 461 (by decide +kernel) (by decide +kernel)
theorem k_422 : Cond.instantiable "java/util/NoSuchElementException" 6 ∈ q_good := q_in 462 (by decide +kernel) (by decide +kernel)
theorem k_424 : Cond.selects "java/util/NoSuchElementException" ⟨"java/lang/Throwable", "fillInStackTrace", "(I)Ljava/lang/Throwable;"⟩ ⟨"java/lang/Throwable", "fillInStackTrace", "(I)Ljava/lang/Throwable;"⟩ ∈ q_good := q_in 464 (by decide +kernel) (by decide +kernel)
theorem k_430 : Cond.methodLink "ZnodeService" 171 ⟨"java/util/NoSuchElementException", "<init>", "()V"⟩ ∈ q_good := q_in 470 (by decide +kernel) (by decide +kernel)
theorem k_431 : Cond.instanceMethod ⟨"java/util/NoSuchElementException", "<init>", "()V"⟩ ∈ q_good := q_in 471 (by decide +kernel) (by decide +kernel)
theorem k_432 : Cond.code ⟨"java/util/NoSuchElementException", "<init>", "()V"⟩ prog_16_method_1_code 1 (Option.none : Option Jvm.ClassFile.FieldType) ∈ q_good := q_in 472 (by decide +kernel) (by decide +kernel)
theorem k_433 : Cond.methodLink "java/util/NoSuchElementException" 1 ⟨"java/lang/RuntimeException", "<init>", "()V"⟩ ∈ q_good := q_in 473 (by decide +kernel) (by decide +kernel)
theorem k_436 : Cond.classLink "ZnodeService" 120 "java/lang/UnsupportedOperationException" ∈ q_good := q_in 476 (by decide +kernel) (by decide +kernel)
theorem k_437 : Cond.instantiable "java/lang/UnsupportedOperationException" 6 ∈ q_good := q_in 477 (by decide +kernel) (by decide +kernel)
theorem k_439 : Cond.selects "java/lang/UnsupportedOperationException" ⟨"java/lang/Throwable", "fillInStackTrace", "(I)Ljava/lang/Throwable;"⟩ ⟨"java/lang/Throwable", "fillInStackTrace", "(I)Ljava/lang/Throwable;"⟩ ∈ q_good := q_in 479 (by decide +kernel) (by decide +kernel)
theorem k_445 : Cond.methodLink "ZnodeService" 122 ⟨"java/lang/UnsupportedOperationException", "<init>", "()V"⟩ ∈ q_good := q_in 485 (by decide +kernel) (by decide +kernel)
theorem k_446 : Cond.instanceMethod ⟨"java/lang/UnsupportedOperationException", "<init>", "()V"⟩ ∈ q_good := q_in 486 (by decide +kernel) (by decide +kernel)
theorem k_447 : Cond.code ⟨"java/lang/UnsupportedOperationException", "<init>", "()V"⟩ prog_14_method_1_code 1 (Option.none : Option Jvm.ClassFile.FieldType) ∈ q_good := q_in 487 (by decide +kernel) (by decide +kernel)
theorem k_448 : Cond.methodLink "java/lang/UnsupportedOperationException" 1 ⟨"java/lang/RuntimeException", "<init>", "()V"⟩ ∈ q_good := q_in 488 (by decide +kernel) (by decide +kernel)
theorem k_451 : Cond.methodLink "ZnodeService" 123 ⟨"ZnodeService", "childOf", "(II)I"⟩ ∈ q_good := q_in 491 (by decide +kernel) (by decide +kernel)
theorem k_452 : Cond.classLink "ZnodeService" 130 "java/lang/IndexOutOfBoundsException" ∈ q_good := q_in 492 (by decide +kernel) (by decide +kernel)
theorem k_453 : Cond.instantiable "java/lang/IndexOutOfBoundsException" 6 ∈ q_good := q_in 493 (by decide +kernel) (by decide +kernel)
theorem k_455 : Cond.selects "java/lang/IndexOutOfBoundsException" ⟨"java/lang/Throwable", "fillInStackTrace", "(I)Ljava/lang/Throwable;"⟩ ⟨"java/lang/Throwable", "fillInStackTrace", "(I)Ljava/lang/Throwable;"⟩ ∈ q_good := q_in 495 (by decide +kernel) (by decide +kernel)
theorem k_461 : Cond.methodLink "ZnodeService" 132 ⟨"java/lang/IndexOutOfBoundsException", "<init>", "()V"⟩ ∈ q_good := q_in 501 (by decide +kernel) (by decide +kernel)
theorem k_462 : Cond.instanceMethod ⟨"java/lang/IndexOutOfBoundsException", "<init>", "()V"⟩ ∈ q_good := q_in 502 (by decide +kernel) (by decide +kernel)
theorem k_463 : Cond.code ⟨"java/lang/IndexOutOfBoundsException", "<init>", "()V"⟩ prog_11_method_1_code 1 (Option.none : Option Jvm.ClassFile.FieldType) ∈ q_good := q_in 503 (by decide +kernel) (by decide +kernel)
theorem k_464 : Cond.methodLink "java/lang/IndexOutOfBoundsException" 1 ⟨"java/lang/RuntimeException", "<init>", "()V"⟩ ∈ q_good := q_in 504 (by decide +kernel) (by decide +kernel)
theorem k_467 : Cond.methodLink "ZnodeService" 138 ⟨"ZnodeService", "proposeChange", "(LZnodeService$Entry;)V"⟩ ∈ q_good := q_in 507 (by decide +kernel) (by decide +kernel)
theorem k_469 : Cond.instanceMethod ⟨"ZnodeService", "proposeChange", "(LZnodeService$Entry;)V"⟩ ∈ q_good := q_in 509 (by decide +kernel) (by decide +kernel)
theorem k_470 : Cond.code ⟨"ZnodeService", "proposeChange", "(LZnodeService$Entry;)V"⟩ prog_1_method_37_code 2 (Option.none : Option Jvm.ClassFile.FieldType) ∈ q_good := q_in 510 (by decide +kernel) (by decide +kernel)
theorem k_471 : Cond.methodLink "ZnodeServiceLaw" 112 ⟨"ZnodeServiceLaw", "set", "(LZnodeService;IIII[J)I"⟩ ∈ q_good := q_in 511 (by decide +kernel) (by decide +kernel)
theorem k_472 : Cond.static ⟨"ZnodeServiceLaw", "set", "(LZnodeService;IIII[J)I"⟩ ∈ q_good := q_in 512 (by decide +kernel) (by decide +kernel)
theorem k_473 : Cond.codeWith ⟨"ZnodeServiceLaw", "set", "(LZnodeService;IIII[J)I"⟩ method_8_code 7 (some FieldType.int) [(0, 14, 17, 13), (0, 14, 21, 15), (0, 14, 25, 32)] ∈ q_good := q_in 513 (by decide +kernel) (by decide +kernel)
theorem k_474 : Cond.methodLink "ZnodeServiceLaw" 38 ⟨"ZnodeService", "set", "(IIII)I"⟩ ∈ q_good := q_in 514 (by decide +kernel) (by decide +kernel)
theorem k_475 : Cond.instanceMethod ⟨"ZnodeService", "set", "(IIII)I"⟩ ∈ q_good := q_in 515 (by decide +kernel) (by decide +kernel)
theorem k_476 : Cond.selects "ZnodeService" ⟨"ZnodeService", "set", "(IIII)I"⟩ ⟨"ZnodeService", "set", "(IIII)I"⟩ ∈ q_good := q_in 516 (by decide +kernel) (by decide +kernel)
theorem k_477 : Cond.code ⟨"ZnodeService", "set", "(IIII)I"⟩ prog_1_method_7_code 5 (some FieldType.int) ∈ q_good := q_in 517 (by decide +kernel) (by decide +kernel)
theorem k_478 : Cond.methodLink "ZnodeService" 142 ⟨"ZnodeService", "requirePath", "(I)V"⟩ ∈ q_good := q_in 518 (by decide +kernel) (by decide +kernel)
theorem k_479 : Cond.static ⟨"ZnodeService", "requirePath", "(I)V"⟩ ∈ q_good := q_in 519 (by decide +kernel) (by decide +kernel)
theorem k_480 : Cond.code ⟨"ZnodeService", "requirePath", "(I)V"⟩ prog_1_method_24_code 1 (Option.none : Option Jvm.ClassFile.FieldType) ∈ q_good := q_in 520 (by decide +kernel) (by decide +kernel)
theorem k_481 : Cond.methodLink "ZnodeService" 145 ⟨"ZnodeService", "requireVersion", "(I)V"⟩ ∈ q_good := q_in 521 (by decide +kernel) (by decide +kernel)
theorem k_482 : Cond.static ⟨"ZnodeService", "requireVersion", "(I)V"⟩ ∈ q_good := q_in 522 (by decide +kernel) (by decide +kernel)
theorem k_483 : Cond.code ⟨"ZnodeService", "requireVersion", "(I)V"⟩ prog_1_method_25_code 1 (Option.none : Option Jvm.ClassFile.FieldType) ∈ q_good := q_in 523 (by decide +kernel) (by decide +kernel)
theorem k_484 : Cond.methodLink "ZnodeService" 148 ⟨"ZnodeService", "isOtherVersion", "(II)Z"⟩ ∈ q_good := q_in 524 (by decide +kernel) (by decide +kernel)
theorem k_486 : Cond.instanceMethod ⟨"ZnodeService", "isOtherVersion", "(II)Z"⟩ ∈ q_good := q_in 526 (by decide +kernel) (by decide +kernel)
theorem k_487 : Cond.code ⟨"ZnodeService", "isOtherVersion", "(II)Z"⟩ prog_1_method_31_code 3 (some FieldType.boolean) ∈ q_good := q_in 527 (by decide +kernel) (by decide +kernel)
theorem k_488 : Cond.methodLink "ZnodeServiceLaw" 115 ⟨"ZnodeServiceLaw", "delete", "(LZnodeService;III[J)I"⟩ ∈ q_good := q_in 528 (by decide +kernel) (by decide +kernel)
theorem k_489 : Cond.static ⟨"ZnodeServiceLaw", "delete", "(LZnodeService;III[J)I"⟩ ∈ q_good := q_in 529 (by decide +kernel) (by decide +kernel)
theorem k_490 : Cond.codeWith ⟨"ZnodeServiceLaw", "delete", "(LZnodeService;III[J)I"⟩ method_9_code 6 (some FieldType.int) [(0, 12, 15, 13), (0, 12, 19, 15), (0, 12, 23, 32), (0, 12, 27, 34)] ∈ q_good := q_in 530 (by decide +kernel) (by decide +kernel)
theorem k_491 : Cond.methodLink "ZnodeServiceLaw" 41 ⟨"ZnodeService", "delete", "(III)I"⟩ ∈ q_good := q_in 531 (by decide +kernel) (by decide +kernel)
theorem k_492 : Cond.instanceMethod ⟨"ZnodeService", "delete", "(III)I"⟩ ∈ q_good := q_in 532 (by decide +kernel) (by decide +kernel)
theorem k_493 : Cond.selects "ZnodeService" ⟨"ZnodeService", "delete", "(III)I"⟩ ⟨"ZnodeService", "delete", "(III)I"⟩ ∈ q_good := q_in 533 (by decide +kernel) (by decide +kernel)
theorem k_494 : Cond.code ⟨"ZnodeService", "delete", "(III)I"⟩ prog_1_method_8_code 5 (some FieldType.int) ∈ q_good := q_in 534 (by decide +kernel) (by decide +kernel)
theorem k_495 : Cond.methodLink "ZnodeService" 155 ⟨"ZnodeService$Tree", "childrenOf", "(I)I"⟩ ∈ q_good := q_in 535 (by decide +kernel) (by decide +kernel)
theorem k_496 : Cond.instanceMethod ⟨"ZnodeService$Tree", "childrenOf", "(I)I"⟩ ∈ q_good := q_in 536 (by decide +kernel) (by decide +kernel)
theorem k_497 : Cond.selects "ZnodeService$Tree" ⟨"ZnodeService$Tree", "childrenOf", "(I)I"⟩ ⟨"ZnodeService$Tree", "childrenOf", "(I)I"⟩ ∈ q_good := q_in 537 (by decide +kernel) (by decide +kernel)
theorem k_498 : Cond.code ⟨"ZnodeService$Tree", "childrenOf", "(I)I"⟩ prog_5_method_8_code 4 (some FieldType.int) ∈ q_good := q_in 538 (by decide +kernel) (by decide +kernel)
theorem k_499 : Cond.methodLink "ZnodeService$Tree" 66 ⟨"ZnodeService$Tree", "has", "(I)Z"⟩ ∈ q_good := q_in 539 (by decide +kernel) (by decide +kernel)
theorem k_500 : Cond.methodLink "ZnodeServiceLaw" 118 ⟨"ZnodeServiceLaw", "get", "(LZnodeService;IIZ[J)I"⟩ ∈ q_good := q_in 540 (by decide +kernel) (by decide +kernel)
theorem k_501 : Cond.static ⟨"ZnodeServiceLaw", "get", "(LZnodeService;IIZ[J)I"⟩ ∈ q_good := q_in 541 (by decide +kernel) (by decide +kernel)
theorem k_502 : Cond.codeWith ⟨"ZnodeServiceLaw", "get", "(LZnodeService;IIZ[J)I"⟩ method_10_code 6 (some FieldType.int) [(0, 12, 15, 13), (0, 12, 19, 15), (0, 12, 23, 32)] ∈ q_good := q_in 542 (by decide +kernel) (by decide +kernel)
theorem k_503 : Cond.methodLink "ZnodeServiceLaw" 44 ⟨"ZnodeService", "get", "(IIZ)I"⟩ ∈ q_good := q_in 543 (by decide +kernel) (by decide +kernel)
theorem k_504 : Cond.instanceMethod ⟨"ZnodeService", "get", "(IIZ)I"⟩ ∈ q_good := q_in 544 (by decide +kernel) (by decide +kernel)
theorem k_505 : Cond.selects "ZnodeService" ⟨"ZnodeService", "get", "(IIZ)I"⟩ ⟨"ZnodeService", "get", "(IIZ)I"⟩ ∈ q_good := q_in 545 (by decide +kernel) (by decide +kernel)
theorem k_506 : Cond.code ⟨"ZnodeService", "get", "(IIZ)I"⟩ prog_1_method_9_code 5 (some FieldType.int) ∈ q_good := q_in 546 (by decide +kernel) (by decide +kernel)
theorem k_507 : Cond.methodLink "ZnodeService" 158 ⟨"ZnodeService", "treeOf", "(I)LZnodeService$Tree;"⟩ ∈ q_good := q_in 547 (by decide +kernel) (by decide +kernel)
theorem k_509 : Cond.instanceMethod ⟨"ZnodeService", "treeOf", "(I)LZnodeService$Tree;"⟩ ∈ q_good := q_in 549 (by decide +kernel) (by decide +kernel)
theorem k_510 : Cond.code ⟨"ZnodeService", "treeOf", "(I)LZnodeService$Tree;"⟩ prog_1_method_30_code 3 (some (FieldType.object "ZnodeService$Tree")) ∈ q_good := q_in 550 (by decide +kernel) (by decide +kernel)
theorem k_511 : Cond.methodLink "ZnodeService" 162 ⟨"ZnodeService$Session", "watch", "(II)V"⟩ ∈ q_good := q_in 551 (by decide +kernel) (by decide +kernel)
theorem k_512 : Cond.instanceMethod ⟨"ZnodeService$Session", "watch", "(II)V"⟩ ∈ q_good := q_in 552 (by decide +kernel) (by decide +kernel)
theorem k_513 : Cond.selects "ZnodeService$Session" ⟨"ZnodeService$Session", "watch", "(II)V"⟩ ⟨"ZnodeService$Session", "watch", "(II)V"⟩ ∈ q_good := q_in 553 (by decide +kernel) (by decide +kernel)
theorem k_514 : Cond.code ⟨"ZnodeService$Session", "watch", "(II)V"⟩ prog_4_method_5_code 3 (Option.none : Option Jvm.ClassFile.FieldType) ∈ q_good := q_in 554 (by decide +kernel) (by decide +kernel)
theorem k_515 : Cond.methodLink "ZnodeServiceLaw" 122 ⟨"ZnodeServiceLaw", "exists", "(LZnodeService;IIZ[J)I"⟩ ∈ q_good := q_in 555 (by decide +kernel) (by decide +kernel)
theorem k_516 : Cond.static ⟨"ZnodeServiceLaw", "exists", "(LZnodeService;IIZ[J)I"⟩ ∈ q_good := q_in 556 (by decide +kernel) (by decide +kernel)
theorem k_517 : Cond.codeWith ⟨"ZnodeServiceLaw", "exists", "(LZnodeService;IIZ[J)I"⟩ method_11_code 6 (some FieldType.int) [(0, 19, 22, 13), (0, 19, 26, 15)] ∈ q_good := q_in 557 (by decide +kernel) (by decide +kernel)
theorem k_518 : Cond.methodLink "ZnodeServiceLaw" 48 ⟨"ZnodeService", "exists", "(IIZ)Z"⟩ ∈ q_good := q_in 558 (by decide +kernel) (by decide +kernel)
theorem k_519 : Cond.instanceMethod ⟨"ZnodeService", "exists", "(IIZ)Z"⟩ ∈ q_good := q_in 559 (by decide +kernel) (by decide +kernel)
theorem k_520 : Cond.selects "ZnodeService" ⟨"ZnodeService", "exists", "(IIZ)Z"⟩ ⟨"ZnodeService", "exists", "(IIZ)Z"⟩ ∈ q_good := q_in 560 (by decide +kernel) (by decide +kernel)
theorem k_521 : Cond.code ⟨"ZnodeService", "exists", "(IIZ)Z"⟩ prog_1_method_10_code 5 (some FieldType.boolean) ∈ q_good := q_in 561 (by decide +kernel) (by decide +kernel)
theorem k_522 : Cond.methodLink "ZnodeServiceLaw" 125 ⟨"ZnodeServiceLaw", "children", "(LZnodeService;IIZ[J)I"⟩ ∈ q_good := q_in 562 (by decide +kernel) (by decide +kernel)
theorem k_523 : Cond.static ⟨"ZnodeServiceLaw", "children", "(LZnodeService;IIZ[J)I"⟩ ∈ q_good := q_in 563 (by decide +kernel) (by decide +kernel)
theorem k_524 : Cond.codeWith ⟨"ZnodeServiceLaw", "children", "(LZnodeService;IIZ[J)I"⟩ method_12_code 6 (some FieldType.int) [(0, 12, 15, 13), (0, 12, 19, 15), (0, 12, 23, 32)] ∈ q_good := q_in 564 (by decide +kernel) (by decide +kernel)
theorem k_525 : Cond.methodLink "ZnodeServiceLaw" 52 ⟨"ZnodeService", "children", "(IIZ)I"⟩ ∈ q_good := q_in 565 (by decide +kernel) (by decide +kernel)
theorem k_526 : Cond.instanceMethod ⟨"ZnodeService", "children", "(IIZ)I"⟩ ∈ q_good := q_in 566 (by decide +kernel) (by decide +kernel)
theorem k_527 : Cond.selects "ZnodeService" ⟨"ZnodeService", "children", "(IIZ)I"⟩ ⟨"ZnodeService", "children", "(IIZ)I"⟩ ∈ q_good := q_in 567 (by decide +kernel) (by decide +kernel)
theorem k_528 : Cond.code ⟨"ZnodeService", "children", "(IIZ)I"⟩ prog_1_method_11_code 5 (some FieldType.int) ∈ q_good := q_in 568 (by decide +kernel) (by decide +kernel)
theorem k_529 : Cond.methodLink "ZnodeServiceLaw" 128 ⟨"ZnodeServiceLaw", "fact", "(LZnodeService;III[J)I"⟩ ∈ q_good := q_in 569 (by decide +kernel) (by decide +kernel)
theorem k_530 : Cond.static ⟨"ZnodeServiceLaw", "fact", "(LZnodeService;III[J)I"⟩ ∈ q_good := q_in 570 (by decide +kernel) (by decide +kernel)
theorem k_531 : Cond.codeWith ⟨"ZnodeServiceLaw", "fact", "(LZnodeService;III[J)I"⟩ method_13_code 6 (some FieldType.int) [(0, 12, 15, 13), (0, 12, 19, 15), (0, 12, 23, 32)] ∈ q_good := q_in 571 (by decide +kernel) (by decide +kernel)
theorem k_532 : Cond.methodLink "ZnodeServiceLaw" 55 ⟨"ZnodeService", "fact", "(III)I"⟩ ∈ q_good := q_in 572 (by decide +kernel) (by decide +kernel)
theorem k_533 : Cond.instanceMethod ⟨"ZnodeService", "fact", "(III)I"⟩ ∈ q_good := q_in 573 (by decide +kernel) (by decide +kernel)
theorem k_534 : Cond.selects "ZnodeService" ⟨"ZnodeService", "fact", "(III)I"⟩ ⟨"ZnodeService", "fact", "(III)I"⟩ ∈ q_good := q_in 574 (by decide +kernel) (by decide +kernel)
theorem k_535 : Cond.code ⟨"ZnodeService", "fact", "(III)I"⟩ prog_1_method_12_code 5 (some FieldType.int) ∈ q_good := q_in 575 (by decide +kernel) (by decide +kernel)
theorem k_536 : Cond.methodLink "ZnodeServiceLaw" 131 ⟨"ZnodeServiceLaw", "event", "(LZnodeService;I[J)I"⟩ ∈ q_good := q_in 576 (by decide +kernel) (by decide +kernel)
theorem k_537 : Cond.static ⟨"ZnodeServiceLaw", "event", "(LZnodeService;I[J)I"⟩ ∈ q_good := q_in 577 (by decide +kernel) (by decide +kernel)
theorem k_538 : Cond.codeWith ⟨"ZnodeServiceLaw", "event", "(LZnodeService;I[J)I"⟩ method_14_code 4 (some FieldType.int) [(0, 9, 12, 13), (0, 9, 15, 15), (0, 9, 18, 32)] ∈ q_good := q_in 578 (by decide +kernel) (by decide +kernel)
theorem k_539 : Cond.methodLink "ZnodeServiceLaw" 58 ⟨"ZnodeService", "event", "(I)I"⟩ ∈ q_good := q_in 579 (by decide +kernel) (by decide +kernel)
theorem k_540 : Cond.instanceMethod ⟨"ZnodeService", "event", "(I)I"⟩ ∈ q_good := q_in 580 (by decide +kernel) (by decide +kernel)
theorem k_541 : Cond.selects "ZnodeService" ⟨"ZnodeService", "event", "(I)I"⟩ ⟨"ZnodeService", "event", "(I)I"⟩ ∈ q_good := q_in 581 (by decide +kernel) (by decide +kernel)
theorem k_542 : Cond.code ⟨"ZnodeService", "event", "(I)I"⟩ prog_1_method_13_code 2 (some FieldType.int) ∈ q_good := q_in 582 (by decide +kernel) (by decide +kernel)
theorem k_543 : Cond.methodLink "ZnodeService" 172 ⟨"ZnodeService$Session", "takeEvent", "()I"⟩ ∈ q_good := q_in 583 (by decide +kernel) (by decide +kernel)
theorem k_544 : Cond.instanceMethod ⟨"ZnodeService$Session", "takeEvent", "()I"⟩ ∈ q_good := q_in 584 (by decide +kernel) (by decide +kernel)
theorem k_545 : Cond.selects "ZnodeService$Session" ⟨"ZnodeService$Session", "takeEvent", "()I"⟩ ⟨"ZnodeService$Session", "takeEvent", "()I"⟩ ∈ q_good := q_in 585 (by decide +kernel) (by decide +kernel)
theorem k_546 : Cond.code ⟨"ZnodeService$Session", "takeEvent", "()I"⟩ prog_4_method_10_code 3 (some FieldType.int) ∈ q_good := q_in 586 (by decide +kernel) (by decide +kernel)
theorem k_547 : Cond.methodLink "ZnodeServiceLaw" 134 ⟨"ZnodeServiceLaw", "crash", "(LZnodeService;I[J)I"⟩ ∈ q_good := q_in 587 (by decide +kernel) (by decide +kernel)
theorem k_548 : Cond.static ⟨"ZnodeServiceLaw", "crash", "(LZnodeService;I[J)I"⟩ ∈ q_good := q_in 588 (by decide +kernel) (by decide +kernel)
theorem k_549 : Cond.codeWith ⟨"ZnodeServiceLaw", "crash", "(LZnodeService;I[J)I"⟩ method_15_code 4 (some FieldType.int) [(0, 9, 12, 13), (0, 9, 15, 15)] ∈ q_good := q_in 589 (by decide +kernel) (by decide +kernel)
theorem k_550 : Cond.methodLink "ZnodeServiceLaw" 61 ⟨"ZnodeService", "crash", "(I)I"⟩ ∈ q_good := q_in 590 (by decide +kernel) (by decide +kernel)
theorem k_551 : Cond.instanceMethod ⟨"ZnodeService", "crash", "(I)I"⟩ ∈ q_good := q_in 591 (by decide +kernel) (by decide +kernel)
theorem k_552 : Cond.selects "ZnodeService" ⟨"ZnodeService", "crash", "(I)I"⟩ ⟨"ZnodeService", "crash", "(I)I"⟩ ∈ q_good := q_in 592 (by decide +kernel) (by decide +kernel)
theorem k_553 : Cond.code ⟨"ZnodeService", "crash", "(I)I"⟩ prog_1_method_14_code 4 (some FieldType.int) ∈ q_good := q_in 593 (by decide +kernel) (by decide +kernel)
theorem k_554 : Cond.methodLink "ZnodeServiceLaw" 137 ⟨"ZnodeServiceLaw", "restart", "(LZnodeService;I[J)I"⟩ ∈ q_good := q_in 594 (by decide +kernel) (by decide +kernel)
theorem k_555 : Cond.static ⟨"ZnodeServiceLaw", "restart", "(LZnodeService;I[J)I"⟩ ∈ q_good := q_in 595 (by decide +kernel) (by decide +kernel)
theorem k_556 : Cond.codeWith ⟨"ZnodeServiceLaw", "restart", "(LZnodeService;I[J)I"⟩ method_16_code 4 (some FieldType.int) [(0, 9, 12, 13), (0, 9, 15, 15)] ∈ q_good := q_in 596 (by decide +kernel) (by decide +kernel)
theorem k_557 : Cond.methodLink "ZnodeServiceLaw" 64 ⟨"ZnodeService", "restart", "(I)I"⟩ ∈ q_good := q_in 597 (by decide +kernel) (by decide +kernel)
theorem k_558 : Cond.instanceMethod ⟨"ZnodeService", "restart", "(I)I"⟩ ∈ q_good := q_in 598 (by decide +kernel) (by decide +kernel)
theorem k_559 : Cond.selects "ZnodeService" ⟨"ZnodeService", "restart", "(I)I"⟩ ⟨"ZnodeService", "restart", "(I)I"⟩ ∈ q_good := q_in 599 (by decide +kernel) (by decide +kernel)
theorem k_560 : Cond.code ⟨"ZnodeService", "restart", "(I)I"⟩ prog_1_method_15_code 4 (some FieldType.int) ∈ q_good := q_in 600 (by decide +kernel) (by decide +kernel)
theorem k_561 : Cond.methodLink "ZnodeServiceLaw" 140 ⟨"ZnodeServiceLaw", "alone", "(LZnodeService;IZ[J)I"⟩ ∈ q_good := q_in 601 (by decide +kernel) (by decide +kernel)
theorem k_562 : Cond.static ⟨"ZnodeServiceLaw", "alone", "(LZnodeService;IZ[J)I"⟩ ∈ q_good := q_in 602 (by decide +kernel) (by decide +kernel)
theorem k_563 : Cond.codeWith ⟨"ZnodeServiceLaw", "alone", "(LZnodeService;IZ[J)I"⟩ method_17_code 5 (some FieldType.int) [(0, 10, 13, 13)] ∈ q_good := q_in 603 (by decide +kernel) (by decide +kernel)
theorem k_564 : Cond.methodLink "ZnodeServiceLaw" 67 ⟨"ZnodeService", "alone", "(IZ)I"⟩ ∈ q_good := q_in 604 (by decide +kernel) (by decide +kernel)
theorem k_565 : Cond.instanceMethod ⟨"ZnodeService", "alone", "(IZ)I"⟩ ∈ q_good := q_in 605 (by decide +kernel) (by decide +kernel)
theorem k_566 : Cond.selects "ZnodeService" ⟨"ZnodeService", "alone", "(IZ)I"⟩ ⟨"ZnodeService", "alone", "(IZ)I"⟩ ∈ q_good := q_in 606 (by decide +kernel) (by decide +kernel)
theorem k_567 : Cond.code ⟨"ZnodeService", "alone", "(IZ)I"⟩ prog_1_method_16_code 4 (some FieldType.int) ∈ q_good := q_in 607 (by decide +kernel) (by decide +kernel)
theorem k_568 : Cond.methodLink "ZnodeServiceLaw" 144 ⟨"ZnodeServiceLaw", "elect", "(LZnodeService;[J)I"⟩ ∈ q_good := q_in 608 (by decide +kernel) (by decide +kernel)
theorem k_569 : Cond.static ⟨"ZnodeServiceLaw", "elect", "(LZnodeService;[J)I"⟩ ∈ q_good := q_in 609 (by decide +kernel) (by decide +kernel)
theorem k_570 : Cond.codeWith ⟨"ZnodeServiceLaw", "elect", "(LZnodeService;[J)I"⟩ method_18_code 3 (some FieldType.int) [(0, 8, 11, 15)] ∈ q_good := q_in 610 (by decide +kernel) (by decide +kernel)
theorem k_571 : Cond.methodLink "ZnodeServiceLaw" 71 ⟨"ZnodeService", "elect", "()I"⟩ ∈ q_good := q_in 611 (by decide +kernel) (by decide +kernel)
theorem k_572 : Cond.instanceMethod ⟨"ZnodeService", "elect", "()I"⟩ ∈ q_good := q_in 612 (by decide +kernel) (by decide +kernel)
theorem k_573 : Cond.selects "ZnodeService" ⟨"ZnodeService", "elect", "()I"⟩ ⟨"ZnodeService", "elect", "()I"⟩ ∈ q_good := q_in 613 (by decide +kernel) (by decide +kernel)
theorem k_574 : Cond.code ⟨"ZnodeService", "elect", "()I"⟩ prog_1_method_17_code 4 (some FieldType.int) ∈ q_good := q_in 614 (by decide +kernel) (by decide +kernel)
theorem k_575 : Cond.methodLink "ZnodeService" 194 ⟨"ZnodeService$Server", "leadsBefore", "(LZnodeService$Server;)Z"⟩ ∈ q_good := q_in 615 (by decide +kernel) (by decide +kernel)
theorem k_576 : Cond.instanceMethod ⟨"ZnodeService$Server", "leadsBefore", "(LZnodeService$Server;)Z"⟩ ∈ q_good := q_in 616 (by decide +kernel) (by decide +kernel)
theorem k_577 : Cond.selects "ZnodeService$Server" ⟨"ZnodeService$Server", "leadsBefore", "(LZnodeService$Server;)Z"⟩ ⟨"ZnodeService$Server", "leadsBefore", "(LZnodeService$Server;)Z"⟩ ∈ q_good := q_in 617 (by decide +kernel) (by decide +kernel)
theorem k_578 : Cond.code ⟨"ZnodeService$Server", "leadsBefore", "(LZnodeService$Server;)Z"⟩ prog_3_method_3_code 2 (some FieldType.boolean) ∈ q_good := q_in 618 (by decide +kernel) (by decide +kernel)
theorem k_579 : Cond.methodLink "ZnodeService" 198 ⟨"ZnodeService", "planAnew", "(LZnodeService$Server;)V"⟩ ∈ q_good := q_in 619 (by decide +kernel) (by decide +kernel)
theorem k_581 : Cond.instanceMethod ⟨"ZnodeService", "planAnew", "(LZnodeService$Server;)V"⟩ ∈ q_good := q_in 621 (by decide +kernel) (by decide +kernel)
theorem k_582 : Cond.code ⟨"ZnodeService", "planAnew", "(LZnodeService$Server;)V"⟩ prog_1_method_39_code 3 (Option.none : Option Jvm.ClassFile.FieldType) ∈ q_good := q_in 622 (by decide +kernel) (by decide +kernel)
theorem k_583 : Cond.methodLink "ZnodeService" 229 ⟨"ZnodeService$Tree", "clear", "()V"⟩ ∈ q_good := q_in 623 (by decide +kernel) (by decide +kernel)
theorem k_584 : Cond.instanceMethod ⟨"ZnodeService$Tree", "clear", "()V"⟩ ∈ q_good := q_in 624 (by decide +kernel) (by decide +kernel)
theorem k_585 : Cond.selects "ZnodeService$Tree" ⟨"ZnodeService$Tree", "clear", "()V"⟩ ⟨"ZnodeService$Tree", "clear", "()V"⟩ ∈ q_good := q_in 625 (by decide +kernel) (by decide +kernel)
theorem k_586 : Cond.code ⟨"ZnodeService$Tree", "clear", "()V"⟩ prog_5_method_2_code 1 (Option.none : Option Jvm.ClassFile.FieldType) ∈ q_good := q_in 626 (by decide +kernel) (by decide +kernel)
theorem k_587 : Cond.methodLink "ZnodeServiceLaw" 148 ⟨"ZnodeServiceLaw", "tick", "(LZnodeService;I[J)I"⟩ ∈ q_good := q_in 627 (by decide +kernel) (by decide +kernel)
theorem k_588 : Cond.static ⟨"ZnodeServiceLaw", "tick", "(LZnodeService;I[J)I"⟩ ∈ q_good := q_in 628 (by decide +kernel) (by decide +kernel)
theorem k_589 : Cond.codeWith ⟨"ZnodeServiceLaw", "tick", "(LZnodeService;I[J)I"⟩ method_19_code 4 (some FieldType.int) [(0, 9, 12, 13)] ∈ q_good := q_in 629 (by decide +kernel) (by decide +kernel)
theorem k_590 : Cond.methodLink "ZnodeServiceLaw" 75 ⟨"ZnodeService", "tick", "(I)I"⟩ ∈ q_good := q_in 630 (by decide +kernel) (by decide +kernel)
theorem k_591 : Cond.instanceMethod ⟨"ZnodeService", "tick", "(I)I"⟩ ∈ q_good := q_in 631 (by decide +kernel) (by decide +kernel)
theorem k_592 : Cond.selects "ZnodeService" ⟨"ZnodeService", "tick", "(I)I"⟩ ⟨"ZnodeService", "tick", "(I)I"⟩ ∈ q_good := q_in 632 (by decide +kernel) (by decide +kernel)
theorem k_593 : Cond.code ⟨"ZnodeService", "tick", "(I)I"⟩ prog_1_method_18_code 5 (some FieldType.int) ∈ q_good := q_in 633 (by decide +kernel) (by decide +kernel)
theorem k_594 : Cond.methodLink "ZnodeServiceLaw" 151 ⟨"ZnodeServiceLaw", "state", "(LZnodeService;II[J)I"⟩ ∈ q_good := q_in 634 (by decide +kernel) (by decide +kernel)
theorem k_595 : Cond.static ⟨"ZnodeServiceLaw", "state", "(LZnodeService;II[J)I"⟩ ∈ q_good := q_in 635 (by decide +kernel) (by decide +kernel)
theorem k_596 : Cond.codeWith ⟨"ZnodeServiceLaw", "state", "(LZnodeService;II[J)I"⟩ method_20_code 5 (some FieldType.int) [(0, 10, 13, 13)] ∈ q_good := q_in 636 (by decide +kernel) (by decide +kernel)
theorem k_597 : Cond.methodLink "ZnodeServiceLaw" 78 ⟨"ZnodeService", "state", "(II)I"⟩ ∈ q_good := q_in 637 (by decide +kernel) (by decide +kernel)
theorem k_598 : Cond.instanceMethod ⟨"ZnodeService", "state", "(II)I"⟩ ∈ q_good := q_in 638 (by decide +kernel) (by decide +kernel)
theorem k_599 : Cond.selects "ZnodeService" ⟨"ZnodeService", "state", "(II)I"⟩ ⟨"ZnodeService", "state", "(II)I"⟩ ∈ q_good := q_in 639 (by decide +kernel) (by decide +kernel)
theorem k_600 : Cond.code ⟨"ZnodeService", "state", "(II)I"⟩ prog_1_method_19_code 4 (some FieldType.int) ∈ q_good := q_in 640 (by decide +kernel) (by decide +kernel)
theorem k_601 : Cond.methodLink "ZnodeService" 208 ⟨"ZnodeService$Tree", "countNodes", "()I"⟩ ∈ q_good := q_in 641 (by decide +kernel) (by decide +kernel)
theorem k_602 : Cond.instanceMethod ⟨"ZnodeService$Tree", "countNodes", "()I"⟩ ∈ q_good := q_in 642 (by decide +kernel) (by decide +kernel)
theorem k_603 : Cond.selects "ZnodeService$Tree" ⟨"ZnodeService$Tree", "countNodes", "()I"⟩ ⟨"ZnodeService$Tree", "countNodes", "()I"⟩ ∈ q_good := q_in 643 (by decide +kernel) (by decide +kernel)
theorem k_604 : Cond.code ⟨"ZnodeService$Tree", "countNodes", "()I"⟩ prog_5_method_9_code 3 (some FieldType.int) ∈ q_good := q_in 644 (by decide +kernel) (by decide +kernel)
theorem k_605 : Cond.methodLink "ZnodeServiceLaw" 154 ⟨"ZnodeServiceLaw", "count", "(LZnodeService;I[J)I"⟩ ∈ q_good := q_in 645 (by decide +kernel) (by decide +kernel)
theorem k_606 : Cond.static ⟨"ZnodeServiceLaw", "count", "(LZnodeService;I[J)I"⟩ ∈ q_good := q_in 646 (by decide +kernel) (by decide +kernel)
theorem k_607 : Cond.codeWith ⟨"ZnodeServiceLaw", "count", "(LZnodeService;I[J)I"⟩ method_21_code 4 (some FieldType.int) [(0, 9, 12, 13)] ∈ q_good := q_in 647 (by decide +kernel) (by decide +kernel)
theorem k_608 : Cond.methodLink "ZnodeServiceLaw" 81 ⟨"ZnodeService", "count", "(I)I"⟩ ∈ q_good := q_in 648 (by decide +kernel) (by decide +kernel)
theorem k_609 : Cond.instanceMethod ⟨"ZnodeService", "count", "(I)I"⟩ ∈ q_good := q_in 649 (by decide +kernel) (by decide +kernel)
theorem k_610 : Cond.selects "ZnodeService" ⟨"ZnodeService", "count", "(I)I"⟩ ⟨"ZnodeService", "count", "(I)I"⟩ ∈ q_good := q_in 650 (by decide +kernel) (by decide +kernel)
theorem k_611 : Cond.code ⟨"ZnodeService", "count", "(I)I"⟩ prog_1_method_20_code 2 (some FieldType.int) ∈ q_good := q_in 651 (by decide +kernel) (by decide +kernel)
theorem k_612 : Cond.methodLink "ZnodeService" 214 ⟨"ZnodeService$Session", "standing", "()I"⟩ ∈ q_good := q_in 652 (by decide +kernel) (by decide +kernel)
theorem k_613 : Cond.instanceMethod ⟨"ZnodeService$Session", "standing", "()I"⟩ ∈ q_good := q_in 653 (by decide +kernel) (by decide +kernel)
theorem k_614 : Cond.selects "ZnodeService$Session" ⟨"ZnodeService$Session", "standing", "()I"⟩ ⟨"ZnodeService$Session", "standing", "()I"⟩ ∈ q_good := q_in 654 (by decide +kernel) (by decide +kernel)
theorem k_615 : Cond.code ⟨"ZnodeService$Session", "standing", "()I"⟩ prog_4_method_2_code 1 (some FieldType.int) ∈ q_good := q_in 655 (by decide +kernel) (by decide +kernel)
theorem k_616 : Cond.classLink "ZnodeServiceLaw" 85 "ZnodeServiceModel" ∈ q_good := q_in 656 (by decide +kernel) (by decide +kernel)
theorem k_617 : Cond.instantiable "ZnodeServiceModel" 27 ∈ q_good := q_in 657 (by decide +kernel) (by decide +kernel)
theorem k_618 : Cond.methodLink "ZnodeServiceLaw" 87 ⟨"ZnodeServiceModel", "<init>", "()V"⟩ ∈ q_good := q_in 658 (by decide +kernel) (by decide +kernel)
theorem k_619 : Cond.instanceMethod ⟨"ZnodeServiceModel", "<init>", "()V"⟩ ∈ q_good := q_in 659 (by decide +kernel) (by decide +kernel)
theorem k_620 : Cond.code ⟨"ZnodeServiceModel", "<init>", "()V"⟩ prog_7_method_1_code 2 (Option.none : Option Jvm.ClassFile.FieldType) ∈ q_good := q_in 660 (by decide +kernel) (by decide +kernel)
theorem k_621 : Cond.methodLink "ZnodeServiceModel" 1 ⟨"java/lang/Object", "<init>", "()V"⟩ ∈ q_good := q_in 661 (by decide +kernel) (by decide +kernel)
theorem k_622 : Cond.fieldLink "ZnodeServiceModel" 84 "ZnodeServiceModel" "failed" "I" ∈ q_good := q_in 662 (by decide +kernel) (by decide +kernel)
theorem k_623 : Cond.fieldLink "ZnodeServiceModel" 7 "ZnodeServiceModel" "kind" "[I" ∈ q_good := q_in 663 (by decide +kernel) (by decide +kernel)
theorem k_624 : Cond.fieldLink "ZnodeServiceModel" 13 "ZnodeServiceModel" "path" "[I" ∈ q_good := q_in 664 (by decide +kernel) (by decide +kernel)
theorem k_625 : Cond.fieldLink "ZnodeServiceModel" 16 "ZnodeServiceModel" "data" "[I" ∈ q_good := q_in 665 (by decide +kernel) (by decide +kernel)
theorem k_626 : Cond.fieldLink "ZnodeServiceModel" 19 "ZnodeServiceModel" "session" "[I" ∈ q_good := q_in 666 (by decide +kernel) (by decide +kernel)
theorem k_627 : Cond.fieldLink "ZnodeServiceModel" 22 "ZnodeServiceModel" "length" "[I" ∈ q_good := q_in 667 (by decide +kernel) (by decide +kernel)
theorem k_628 : Cond.fieldLink "ZnodeServiceModel" 25 "ZnodeServiceModel" "applied" "[I" ∈ q_good := q_in 668 (by decide +kernel) (by decide +kernel)
theorem k_629 : Cond.fieldLink "ZnodeServiceModel" 28 "ZnodeServiceModel" "age" "[I" ∈ q_good := q_in 669 (by decide +kernel) (by decide +kernel)
theorem k_630 : Cond.fieldLink "ZnodeServiceModel" 31 "ZnodeServiceModel" "down" "[Z" ∈ q_good := q_in 670 (by decide +kernel) (by decide +kernel)
theorem k_631 : Cond.fieldLink "ZnodeServiceModel" 35 "ZnodeServiceModel" "cut" "[Z" ∈ q_good := q_in 671 (by decide +kernel) (by decide +kernel)
theorem k_632 : Cond.fieldLink "ZnodeServiceModel" 105 "ZnodeServiceModel" "leader" "I" ∈ q_good := q_in 672 (by decide +kernel) (by decide +kernel)
theorem k_633 : Cond.fieldLink "ZnodeServiceModel" 38 "ZnodeServiceModel" "epoch" "I" ∈ q_good := q_in 673 (by decide +kernel) (by decide +kernel)
theorem k_634 : Cond.fieldLink "ZnodeServiceModel" 152 "ZnodeServiceModel" "time" "I" ∈ q_good := q_in 674 (by decide +kernel) (by decide +kernel)
theorem k_635 : Cond.fieldLink "ZnodeServiceModel" 42 "ZnodeServiceModel" "open" "[Z" ∈ q_good := q_in 675 (by decide +kernel) (by decide +kernel)
theorem k_636 : Cond.fieldLink "ZnodeServiceModel" 45 "ZnodeServiceModel" "due" "[Z" ∈ q_good := q_in 676 (by decide +kernel) (by decide +kernel)
theorem k_637 : Cond.fieldLink "ZnodeServiceModel" 48 "ZnodeServiceModel" "at" "[I" ∈ q_good := q_in 677 (by decide +kernel) (by decide +kernel)
theorem k_638 : Cond.fieldLink "ZnodeServiceModel" 51 "ZnodeServiceModel" "timeout" "[I" ∈ q_good := q_in 678 (by decide +kernel) (by decide +kernel)
theorem k_639 : Cond.fieldLink "ZnodeServiceModel" 54 "ZnodeServiceModel" "heard" "[I" ∈ q_good := q_in 679 (by decide +kernel) (by decide +kernel)
theorem k_640 : Cond.fieldLink "ZnodeServiceModel" 57 "ZnodeServiceModel" "dataWatch" "[Z" ∈ q_good := q_in 680 (by decide +kernel) (by decide +kernel)
theorem k_641 : Cond.fieldLink "ZnodeServiceModel" 60 "ZnodeServiceModel" "childWatch" "[Z" ∈ q_good := q_in 681 (by decide +kernel) (by decide +kernel)
theorem k_642 : Cond.fieldLink "ZnodeServiceModel" 63 "ZnodeServiceModel" "event" "[I" ∈ q_good := q_in 682 (by decide +kernel) (by decide +kernel)
theorem k_643 : Cond.fieldLink "ZnodeServiceModel" 66 "ZnodeServiceModel" "events" "[I" ∈ q_good := q_in 683 (by decide +kernel) (by decide +kernel)
theorem k_644 : Cond.fieldLink "ZnodeServiceModel" 69 "ZnodeServiceModel" "there" "[Z" ∈ q_good := q_in 684 (by decide +kernel) (by decide +kernel)
theorem k_645 : Cond.fieldLink "ZnodeServiceModel" 72 "ZnodeServiceModel" "value" "[I" ∈ q_good := q_in 685 (by decide +kernel) (by decide +kernel)
theorem k_646 : Cond.fieldLink "ZnodeServiceModel" 75 "ZnodeServiceModel" "version" "[I" ∈ q_good := q_in 686 (by decide +kernel) (by decide +kernel)
theorem k_647 : Cond.fieldLink "ZnodeServiceModel" 78 "ZnodeServiceModel" "next" "[I" ∈ q_good := q_in 687 (by decide +kernel) (by decide +kernel)
theorem k_648 : Cond.fieldLink "ZnodeServiceModel" 81 "ZnodeServiceModel" "owner" "[I" ∈ q_good := q_in 688 (by decide +kernel) (by decide +kernel)
theorem k_704 : Cond.arrayClass FieldType.boolean ∈ q_good := q_in 744 (by decide +kernel) (by decide +kernel)
theorem k_705 : Cond.methodLink "ZnodeServiceLaw" 94 ⟨"ZnodeServiceModel", "thrown", "()I"⟩ ∈ q_good := q_in 745 (by decide +kernel) (by decide +kernel)
theorem k_706 : Cond.instanceMethod ⟨"ZnodeServiceModel", "thrown", "()I"⟩ ∈ q_good := q_in 746 (by decide +kernel) (by decide +kernel)
theorem k_707 : Cond.selects "ZnodeServiceModel" ⟨"ZnodeServiceModel", "thrown", "()I"⟩ ⟨"ZnodeServiceModel", "thrown", "()I"⟩ ∈ q_good := q_in 747 (by decide +kernel) (by decide +kernel)
theorem k_708 : Cond.code ⟨"ZnodeServiceModel", "thrown", "()I"⟩ prog_7_method_2_code 1 (some FieldType.int) ∈ q_good := q_in 748 (by decide +kernel) (by decide +kernel)
theorem k_709 : Cond.methodLink "ZnodeServiceLaw" 93 ⟨"ZnodeServiceModel", "open", "(III)I"⟩ ∈ q_good := q_in 749 (by decide +kernel) (by decide +kernel)
theorem k_710 : Cond.instanceMethod ⟨"ZnodeServiceModel", "open", "(III)I"⟩ ∈ q_good := q_in 750 (by decide +kernel) (by decide +kernel)
theorem k_711 : Cond.selects "ZnodeServiceModel" ⟨"ZnodeServiceModel", "open", "(III)I"⟩ ⟨"ZnodeServiceModel", "open", "(III)I"⟩ ∈ q_good := q_in 751 (by decide +kernel) (by decide +kernel)
theorem k_712 : Cond.code ⟨"ZnodeServiceModel", "open", "(III)I"⟩ prog_7_method_25_code 4 (some FieldType.int) ∈ q_good := q_in 752 (by decide +kernel) (by decide +kernel)
theorem k_713 : Cond.methodLink "ZnodeServiceModel" 145 ⟨"ZnodeServiceModel", "out", "(II)Z"⟩ ∈ q_good := q_in 753 (by decide +kernel) (by decide +kernel)
theorem k_715 : Cond.instanceMethod ⟨"ZnodeServiceModel", "out", "(II)Z"⟩ ∈ q_good := q_in 755 (by decide +kernel) (by decide +kernel)
theorem k_716 : Cond.code ⟨"ZnodeServiceModel", "out", "(II)Z"⟩ prog_7_method_4_code 3 (some FieldType.boolean) ∈ q_good := q_in 756 (by decide +kernel) (by decide +kernel)
theorem k_717 : Cond.methodLink "ZnodeServiceModel" 149 ⟨"ZnodeServiceModel", "fail", "(I)I"⟩ ∈ q_good := q_in 757 (by decide +kernel) (by decide +kernel)
theorem k_719 : Cond.instanceMethod ⟨"ZnodeServiceModel", "fail", "(I)I"⟩ ∈ q_good := q_in 759 (by decide +kernel) (by decide +kernel)
theorem k_720 : Cond.code ⟨"ZnodeServiceModel", "fail", "(I)I"⟩ prog_7_method_3_code 2 (some FieldType.int) ∈ q_good := q_in 760 (by decide +kernel) (by decide +kernel)
theorem k_721 : Cond.methodLink "ZnodeServiceModel" 112 ⟨"ZnodeServiceModel", "linked", "(I)Z"⟩ ∈ q_good := q_in 761 (by decide +kernel) (by decide +kernel)
theorem k_723 : Cond.instanceMethod ⟨"ZnodeServiceModel", "linked", "(I)Z"⟩ ∈ q_good := q_in 763 (by decide +kernel) (by decide +kernel)
theorem k_724 : Cond.code ⟨"ZnodeServiceModel", "linked", "(I)Z"⟩ prog_7_method_14_code 2 (some FieldType.boolean) ∈ q_good := q_in 764 (by decide +kernel) (by decide +kernel)
theorem k_725 : Cond.methodLink "ZnodeServiceModel" 108 ⟨"ZnodeServiceModel", "fit", "(I)Z"⟩ ∈ q_good := q_in 765 (by decide +kernel) (by decide +kernel)
theorem k_727 : Cond.instanceMethod ⟨"ZnodeServiceModel", "fit", "(I)Z"⟩ ∈ q_good := q_in 767 (by decide +kernel) (by decide +kernel)
theorem k_728 : Cond.code ⟨"ZnodeServiceModel", "fit", "(I)Z"⟩ prog_7_method_13_code 2 (some FieldType.boolean) ∈ q_good := q_in 768 (by decide +kernel) (by decide +kernel)
theorem k_729 : Cond.methodLink "ZnodeServiceModel" 118 ⟨"ZnodeServiceModel", "quorum", "()Z"⟩ ∈ q_good := q_in 769 (by decide +kernel) (by decide +kernel)
theorem k_731 : Cond.instanceMethod ⟨"ZnodeServiceModel", "quorum", "()Z"⟩ ∈ q_good := q_in 771 (by decide +kernel) (by decide +kernel)
theorem k_732 : Cond.code ⟨"ZnodeServiceModel", "quorum", "()Z"⟩ prog_7_method_15_code 3 (some FieldType.boolean) ∈ q_good := q_in 772 (by decide +kernel) (by decide +kernel)
theorem k_733 : Cond.methodLink "ZnodeServiceModel" 155 ⟨"ZnodeServiceModel", "end", "(I)I"⟩ ∈ q_good := q_in 773 (by decide +kernel) (by decide +kernel)
theorem k_735 : Cond.instanceMethod ⟨"ZnodeServiceModel", "end", "(I)I"⟩ ∈ q_good := q_in 775 (by decide +kernel) (by decide +kernel)
theorem k_736 : Cond.code ⟨"ZnodeServiceModel", "end", "(I)I"⟩ prog_7_method_20_code 3 (some FieldType.int) ∈ q_good := q_in 776 (by decide +kernel) (by decide +kernel)
theorem k_737 : Cond.methodLink "ZnodeServiceModel" 128 ⟨"ZnodeServiceModel", "planned", "()V"⟩ ∈ q_good := q_in 777 (by decide +kernel) (by decide +kernel)
theorem k_739 : Cond.instanceMethod ⟨"ZnodeServiceModel", "planned", "()V"⟩ ∈ q_good := q_in 779 (by decide +kernel) (by decide +kernel)
theorem k_740 : Cond.code ⟨"ZnodeServiceModel", "planned", "()V"⟩ prog_7_method_19_code 1 (Option.none : Option Jvm.ClassFile.FieldType) ∈ q_good := q_in 780 (by decide +kernel) (by decide +kernel)
theorem k_741 : Cond.methodLink "ZnodeServiceModel" 122 ⟨"ZnodeServiceModel", "grow", "(II)V"⟩ ∈ q_good := q_in 781 (by decide +kernel) (by decide +kernel)
theorem k_743 : Cond.instanceMethod ⟨"ZnodeServiceModel", "grow", "(II)V"⟩ ∈ q_good := q_in 783 (by decide +kernel) (by decide +kernel)
theorem k_744 : Cond.code ⟨"ZnodeServiceModel", "grow", "(II)V"⟩ prog_7_method_8_code 4 (Option.none : Option Jvm.ClassFile.FieldType) ∈ q_good := q_in 784 (by decide +kernel) (by decide +kernel)
theorem k_745 : Cond.methodLink "ZnodeServiceModel" 95 ⟨"ZnodeServiceModel", "plant", "()V"⟩ ∈ q_good := q_in 785 (by decide +kernel) (by decide +kernel)
theorem k_747 : Cond.instanceMethod ⟨"ZnodeServiceModel", "plant", "()V"⟩ ∈ q_good := q_in 787 (by decide +kernel) (by decide +kernel)
theorem k_748 : Cond.code ⟨"ZnodeServiceModel", "plant", "()V"⟩ prog_7_method_5_code 2 (Option.none : Option Jvm.ClassFile.FieldType) ∈ q_good := q_in 788 (by decide +kernel) (by decide +kernel)
theorem k_749 : Cond.methodLink "ZnodeServiceModel" 98 ⟨"ZnodeServiceModel", "done", "(II)V"⟩ ∈ q_good := q_in 789 (by decide +kernel) (by decide +kernel)
theorem k_751 : Cond.instanceMethod ⟨"ZnodeServiceModel", "done", "(II)V"⟩ ∈ q_good := q_in 791 (by decide +kernel) (by decide +kernel)
theorem k_752 : Cond.code ⟨"ZnodeServiceModel", "done", "(II)V"⟩ prog_7_method_7_code 5 (Option.none : Option Jvm.ClassFile.FieldType) ∈ q_good := q_in 792 (by decide +kernel) (by decide +kernel)
theorem k_753 : Cond.methodLink "ZnodeServiceModel" 87 ⟨"ZnodeServiceModel", "parent", "(I)I"⟩ ∈ q_good := q_in 793 (by decide +kernel) (by decide +kernel)
theorem k_755 : Cond.instanceMethod ⟨"ZnodeServiceModel", "parent", "(I)I"⟩ ∈ q_good := q_in 795 (by decide +kernel) (by decide +kernel)
theorem k_756 : Cond.code ⟨"ZnodeServiceModel", "parent", "(I)I"⟩ prog_7_method_6_code 2 (some FieldType.int) ∈ q_good := q_in 796 (by decide +kernel) (by decide +kernel)
theorem k_757 : Cond.methodLink "ZnodeServiceModel" 91 ⟨"ZnodeServiceModel", "tell", "(III)V"⟩ ∈ q_good := q_in 797 (by decide +kernel) (by decide +kernel)
theorem k_759 : Cond.instanceMethod ⟨"ZnodeServiceModel", "tell", "(III)V"⟩ ∈ q_good := q_in 799 (by decide +kernel) (by decide +kernel)
theorem k_760 : Cond.code ⟨"ZnodeServiceModel", "tell", "(III)V"⟩ prog_7_method_10_code 8 (Option.none : Option Jvm.ClassFile.FieldType) ∈ q_good := q_in 800 (by decide +kernel) (by decide +kernel)
theorem k_761 : Cond.methodLink "ZnodeServiceModel" 102 ⟨"ZnodeServiceModel", "put", "(II)V"⟩ ∈ q_good := q_in 801 (by decide +kernel) (by decide +kernel)
theorem k_763 : Cond.instanceMethod ⟨"ZnodeServiceModel", "put", "(II)V"⟩ ∈ q_good := q_in 803 (by decide +kernel) (by decide +kernel)
theorem k_764 : Cond.code ⟨"ZnodeServiceModel", "put", "(II)V"⟩ prog_7_method_9_code 3 (Option.none : Option Jvm.ClassFile.FieldType) ∈ q_good := q_in 804 (by decide +kernel) (by decide +kernel)
theorem k_765 : Cond.methodLink "ZnodeServiceModel" 131 ⟨"ZnodeServiceModel", "owned", "(I)I"⟩ ∈ q_good := q_in 805 (by decide +kernel) (by decide +kernel)
theorem k_767 : Cond.instanceMethod ⟨"ZnodeServiceModel", "owned", "(I)I"⟩ ∈ q_good := q_in 807 (by decide +kernel) (by decide +kernel)
theorem k_768 : Cond.code ⟨"ZnodeServiceModel", "owned", "(I)I"⟩ prog_7_method_12_code 4 (some FieldType.int) ∈ q_good := q_in 808 (by decide +kernel) (by decide +kernel)
theorem k_769 : Cond.methodLink "ZnodeServiceModel" 134 ⟨"ZnodeServiceModel", "propose", "(IIII)V"⟩ ∈ q_good := q_in 809 (by decide +kernel) (by decide +kernel)
theorem k_771 : Cond.instanceMethod ⟨"ZnodeServiceModel", "propose", "(IIII)V"⟩ ∈ q_good := q_in 811 (by decide +kernel) (by decide +kernel)
theorem k_772 : Cond.code ⟨"ZnodeServiceModel", "propose", "(IIII)V"⟩ prog_7_method_18_code 6 (Option.none : Option Jvm.ClassFile.FieldType) ∈ q_good := q_in 812 (by decide +kernel) (by decide +kernel)
theorem k_773 : Cond.methodLink "ZnodeServiceModel" 125 ⟨"ZnodeServiceModel", "spread", "()V"⟩ ∈ q_good := q_in 813 (by decide +kernel) (by decide +kernel)
theorem k_775 : Cond.instanceMethod ⟨"ZnodeServiceModel", "spread", "()V"⟩ ∈ q_good := q_in 815 (by decide +kernel) (by decide +kernel)
theorem k_776 : Cond.code ⟨"ZnodeServiceModel", "spread", "()V"⟩ prog_7_method_17_code 3 (Option.none : Option Jvm.ClassFile.FieldType) ∈ q_good := q_in 816 (by decide +kernel) (by decide +kernel)
theorem k_777 : Cond.methodLink "ZnodeServiceModel" 115 ⟨"ZnodeServiceModel", "copyEntry", "(II)V"⟩ ∈ q_good := q_in 817 (by decide +kernel) (by decide +kernel)
theorem k_779 : Cond.instanceMethod ⟨"ZnodeServiceModel", "copyEntry", "(II)V"⟩ ∈ q_good := q_in 819 (by decide +kernel) (by decide +kernel)
theorem k_780 : Cond.code ⟨"ZnodeServiceModel", "copyEntry", "(II)V"⟩ prog_7_method_16_code 3 (Option.none : Option Jvm.ClassFile.FieldType) ∈ q_good := q_in 820 (by decide +kernel) (by decide +kernel)
theorem k_781 : Cond.methodLink "ZnodeServiceLaw" 100 ⟨"ZnodeServiceModel", "close", "(I)I"⟩ ∈ q_good := q_in 821 (by decide +kernel) (by decide +kernel)
theorem k_782 : Cond.instanceMethod ⟨"ZnodeServiceModel", "close", "(I)I"⟩ ∈ q_good := q_in 822 (by decide +kernel) (by decide +kernel)
theorem k_783 : Cond.selects "ZnodeServiceModel" ⟨"ZnodeServiceModel", "close", "(I)I"⟩ ⟨"ZnodeServiceModel", "close", "(I)I"⟩ ∈ q_good := q_in 823 (by decide +kernel) (by decide +kernel)
theorem k_784 : Cond.code ⟨"ZnodeServiceModel", "close", "(I)I"⟩ prog_7_method_26_code 3 (some FieldType.int) ∈ q_good := q_in 824 (by decide +kernel) (by decide +kernel)
theorem k_785 : Cond.methodLink "ZnodeServiceModel" 158 ⟨"ZnodeServiceModel", "reaches", "(I)Z"⟩ ∈ q_good := q_in 825 (by decide +kernel) (by decide +kernel)
theorem k_787 : Cond.instanceMethod ⟨"ZnodeServiceModel", "reaches", "(I)Z"⟩ ∈ q_good := q_in 827 (by decide +kernel) (by decide +kernel)
theorem k_788 : Cond.code ⟨"ZnodeServiceModel", "reaches", "(I)Z"⟩ prog_7_method_22_code 2 (some FieldType.boolean) ∈ q_good := q_in 828 (by decide +kernel) (by decide +kernel)
theorem k_789 : Cond.methodLink "ZnodeServiceModel" 138 ⟨"ZnodeServiceModel", "connected", "(I)Z"⟩ ∈ q_good := q_in 829 (by decide +kernel) (by decide +kernel)
theorem k_791 : Cond.instanceMethod ⟨"ZnodeServiceModel", "connected", "(I)Z"⟩ ∈ q_good := q_in 831 (by decide +kernel) (by decide +kernel)
theorem k_792 : Cond.code ⟨"ZnodeServiceModel", "connected", "(I)Z"⟩ prog_7_method_21_code 2 (some FieldType.boolean) ∈ q_good := q_in 832 (by decide +kernel) (by decide +kernel)
theorem k_793 : Cond.methodLink "ZnodeServiceModel" 161 ⟨"ZnodeServiceModel", "finish", "(I)V"⟩ ∈ q_good := q_in 833 (by decide +kernel) (by decide +kernel)
theorem k_795 : Cond.instanceMethod ⟨"ZnodeServiceModel", "finish", "(I)V"⟩ ∈ q_good := q_in 835 (by decide +kernel) (by decide +kernel)
theorem k_796 : Cond.code ⟨"ZnodeServiceModel", "finish", "(I)V"⟩ prog_7_method_24_code 2 (Option.none : Option Jvm.ClassFile.FieldType) ∈ q_good := q_in 836 (by decide +kernel) (by decide +kernel)
theorem k_797 : Cond.methodLink "ZnodeServiceModel" 141 ⟨"ZnodeServiceModel", "forget", "(I)V"⟩ ∈ q_good := q_in 837 (by decide +kernel) (by decide +kernel)
theorem k_799 : Cond.instanceMethod ⟨"ZnodeServiceModel", "forget", "(I)V"⟩ ∈ q_good := q_in 839 (by decide +kernel) (by decide +kernel)
theorem k_800 : Cond.code ⟨"ZnodeServiceModel", "forget", "(I)V"⟩ prog_7_method_23_code 3 (Option.none : Option Jvm.ClassFile.FieldType) ∈ q_good := q_in 840 (by decide +kernel) (by decide +kernel)
theorem k_801 : Cond.methodLink "ZnodeServiceLaw" 103 ⟨"ZnodeServiceModel", "ping", "(I)I"⟩ ∈ q_good := q_in 841 (by decide +kernel) (by decide +kernel)
theorem k_802 : Cond.instanceMethod ⟨"ZnodeServiceModel", "ping", "(I)I"⟩ ∈ q_good := q_in 842 (by decide +kernel) (by decide +kernel)
theorem k_803 : Cond.selects "ZnodeServiceModel" ⟨"ZnodeServiceModel", "ping", "(I)I"⟩ ⟨"ZnodeServiceModel", "ping", "(I)I"⟩ ∈ q_good := q_in 843 (by decide +kernel) (by decide +kernel)
theorem k_804 : Cond.code ⟨"ZnodeServiceModel", "ping", "(I)I"⟩ prog_7_method_27_code 2 (some FieldType.int) ∈ q_good := q_in 844 (by decide +kernel) (by decide +kernel)
theorem k_805 : Cond.methodLink "ZnodeServiceLaw" 107 ⟨"ZnodeServiceModel", "move", "(II)I"⟩ ∈ q_good := q_in 845 (by decide +kernel) (by decide +kernel)
theorem k_806 : Cond.instanceMethod ⟨"ZnodeServiceModel", "move", "(II)I"⟩ ∈ q_good := q_in 846 (by decide +kernel) (by decide +kernel)
theorem k_807 : Cond.selects "ZnodeServiceModel" ⟨"ZnodeServiceModel", "move", "(II)I"⟩ ⟨"ZnodeServiceModel", "move", "(II)I"⟩ ∈ q_good := q_in 847 (by decide +kernel) (by decide +kernel)
theorem k_808 : Cond.code ⟨"ZnodeServiceModel", "move", "(II)I"⟩ prog_7_method_28_code 4 (some FieldType.int) ∈ q_good := q_in 848 (by decide +kernel) (by decide +kernel)
theorem k_809 : Cond.methodLink "ZnodeServiceLaw" 111 ⟨"ZnodeServiceModel", "create", "(IIII)I"⟩ ∈ q_good := q_in 849 (by decide +kernel) (by decide +kernel)
theorem k_810 : Cond.instanceMethod ⟨"ZnodeServiceModel", "create", "(IIII)I"⟩ ∈ q_good := q_in 850 (by decide +kernel) (by decide +kernel)
theorem k_811 : Cond.selects "ZnodeServiceModel" ⟨"ZnodeServiceModel", "create", "(IIII)I"⟩ ⟨"ZnodeServiceModel", "create", "(IIII)I"⟩ ∈ q_good := q_in 851 (by decide +kernel) (by decide +kernel)
theorem k_812 : Cond.code ⟨"ZnodeServiceModel", "create", "(IIII)I"⟩ prog_7_method_29_code 7 (some FieldType.int) ∈ q_good := q_in 852 (by decide +kernel) (by decide +kernel)
theorem k_813 : Cond.methodLink "ZnodeServiceLaw" 114 ⟨"ZnodeServiceModel", "set", "(IIII)I"⟩ ∈ q_good := q_in 853 (by decide +kernel) (by decide +kernel)
theorem k_814 : Cond.instanceMethod ⟨"ZnodeServiceModel", "set", "(IIII)I"⟩ ∈ q_good := q_in 854 (by decide +kernel) (by decide +kernel)
theorem k_815 : Cond.selects "ZnodeServiceModel" ⟨"ZnodeServiceModel", "set", "(IIII)I"⟩ ⟨"ZnodeServiceModel", "set", "(IIII)I"⟩ ∈ q_good := q_in 855 (by decide +kernel) (by decide +kernel)
theorem k_816 : Cond.code ⟨"ZnodeServiceModel", "set", "(IIII)I"⟩ prog_7_method_30_code 6 (some FieldType.int) ∈ q_good := q_in 856 (by decide +kernel) (by decide +kernel)
theorem k_817 : Cond.methodLink "ZnodeServiceLaw" 117 ⟨"ZnodeServiceModel", "delete", "(III)I"⟩ ∈ q_good := q_in 857 (by decide +kernel) (by decide +kernel)
theorem k_818 : Cond.instanceMethod ⟨"ZnodeServiceModel", "delete", "(III)I"⟩ ∈ q_good := q_in 858 (by decide +kernel) (by decide +kernel)
theorem k_819 : Cond.selects "ZnodeServiceModel" ⟨"ZnodeServiceModel", "delete", "(III)I"⟩ ⟨"ZnodeServiceModel", "delete", "(III)I"⟩ ∈ q_good := q_in 859 (by decide +kernel) (by decide +kernel)
theorem k_820 : Cond.code ⟨"ZnodeServiceModel", "delete", "(III)I"⟩ prog_7_method_31_code 5 (some FieldType.int) ∈ q_good := q_in 860 (by decide +kernel) (by decide +kernel)
theorem k_821 : Cond.methodLink "ZnodeServiceModel" 164 ⟨"ZnodeServiceModel", "childrenOf", "(I)I"⟩ ∈ q_good := q_in 861 (by decide +kernel) (by decide +kernel)
theorem k_823 : Cond.instanceMethod ⟨"ZnodeServiceModel", "childrenOf", "(I)I"⟩ ∈ q_good := q_in 863 (by decide +kernel) (by decide +kernel)
theorem k_824 : Cond.code ⟨"ZnodeServiceModel", "childrenOf", "(I)I"⟩ prog_7_method_11_code 4 (some FieldType.int) ∈ q_good := q_in 864 (by decide +kernel) (by decide +kernel)
theorem k_825 : Cond.methodLink "ZnodeServiceLaw" 121 ⟨"ZnodeServiceModel", "get", "(IIZ)I"⟩ ∈ q_good := q_in 865 (by decide +kernel) (by decide +kernel)
theorem k_826 : Cond.instanceMethod ⟨"ZnodeServiceModel", "get", "(IIZ)I"⟩ ∈ q_good := q_in 866 (by decide +kernel) (by decide +kernel)
theorem k_827 : Cond.selects "ZnodeServiceModel" ⟨"ZnodeServiceModel", "get", "(IIZ)I"⟩ ⟨"ZnodeServiceModel", "get", "(IIZ)I"⟩ ∈ q_good := q_in 867 (by decide +kernel) (by decide +kernel)
theorem k_828 : Cond.code ⟨"ZnodeServiceModel", "get", "(IIZ)I"⟩ prog_7_method_33_code 5 (some FieldType.int) ∈ q_good := q_in 868 (by decide +kernel) (by decide +kernel)
theorem k_829 : Cond.methodLink "ZnodeServiceModel" 167 ⟨"ZnodeServiceModel", "look", "(III)I"⟩ ∈ q_good := q_in 869 (by decide +kernel) (by decide +kernel)
theorem k_831 : Cond.instanceMethod ⟨"ZnodeServiceModel", "look", "(III)I"⟩ ∈ q_good := q_in 871 (by decide +kernel) (by decide +kernel)
theorem k_832 : Cond.code ⟨"ZnodeServiceModel", "look", "(III)I"⟩ prog_7_method_32_code 4 (some FieldType.int) ∈ q_good := q_in 872 (by decide +kernel) (by decide +kernel)
theorem k_833 : Cond.methodLink "ZnodeServiceLaw" 124 ⟨"ZnodeServiceModel", "exists", "(IIZ)Z"⟩ ∈ q_good := q_in 873 (by decide +kernel) (by decide +kernel)
theorem k_834 : Cond.instanceMethod ⟨"ZnodeServiceModel", "exists", "(IIZ)Z"⟩ ∈ q_good := q_in 874 (by decide +kernel) (by decide +kernel)
theorem k_835 : Cond.selects "ZnodeServiceModel" ⟨"ZnodeServiceModel", "exists", "(IIZ)Z"⟩ ⟨"ZnodeServiceModel", "exists", "(IIZ)Z"⟩ ∈ q_good := q_in 875 (by decide +kernel) (by decide +kernel)
theorem k_836 : Cond.code ⟨"ZnodeServiceModel", "exists", "(IIZ)Z"⟩ prog_7_method_34_code 5 (some FieldType.boolean) ∈ q_good := q_in 876 (by decide +kernel) (by decide +kernel)
theorem k_837 : Cond.methodLink "ZnodeServiceLaw" 127 ⟨"ZnodeServiceModel", "children", "(IIZ)I"⟩ ∈ q_good := q_in 877 (by decide +kernel) (by decide +kernel)
theorem k_838 : Cond.instanceMethod ⟨"ZnodeServiceModel", "children", "(IIZ)I"⟩ ∈ q_good := q_in 878 (by decide +kernel) (by decide +kernel)
theorem k_839 : Cond.selects "ZnodeServiceModel" ⟨"ZnodeServiceModel", "children", "(IIZ)I"⟩ ⟨"ZnodeServiceModel", "children", "(IIZ)I"⟩ ∈ q_good := q_in 879 (by decide +kernel) (by decide +kernel)
theorem k_840 : Cond.code ⟨"ZnodeServiceModel", "children", "(IIZ)I"⟩ prog_7_method_35_code 5 (some FieldType.int) ∈ q_good := q_in 880 (by decide +kernel) (by decide +kernel)
theorem k_841 : Cond.methodLink "ZnodeServiceLaw" 130 ⟨"ZnodeServiceModel", "fact", "(III)I"⟩ ∈ q_good := q_in 881 (by decide +kernel) (by decide +kernel)
theorem k_842 : Cond.instanceMethod ⟨"ZnodeServiceModel", "fact", "(III)I"⟩ ∈ q_good := q_in 882 (by decide +kernel) (by decide +kernel)
theorem k_843 : Cond.selects "ZnodeServiceModel" ⟨"ZnodeServiceModel", "fact", "(III)I"⟩ ⟨"ZnodeServiceModel", "fact", "(III)I"⟩ ∈ q_good := q_in 883 (by decide +kernel) (by decide +kernel)
theorem k_844 : Cond.code ⟨"ZnodeServiceModel", "fact", "(III)I"⟩ prog_7_method_36_code 4 (some FieldType.int) ∈ q_good := q_in 884 (by decide +kernel) (by decide +kernel)
theorem k_845 : Cond.methodLink "ZnodeServiceLaw" 133 ⟨"ZnodeServiceModel", "event", "(I)I"⟩ ∈ q_good := q_in 885 (by decide +kernel) (by decide +kernel)
theorem k_846 : Cond.instanceMethod ⟨"ZnodeServiceModel", "event", "(I)I"⟩ ∈ q_good := q_in 886 (by decide +kernel) (by decide +kernel)
theorem k_847 : Cond.selects "ZnodeServiceModel" ⟨"ZnodeServiceModel", "event", "(I)I"⟩ ⟨"ZnodeServiceModel", "event", "(I)I"⟩ ∈ q_good := q_in 887 (by decide +kernel) (by decide +kernel)
theorem k_848 : Cond.code ⟨"ZnodeServiceModel", "event", "(I)I"⟩ prog_7_method_37_code 4 (some FieldType.int) ∈ q_good := q_in 888 (by decide +kernel) (by decide +kernel)
theorem k_849 : Cond.methodLink "ZnodeServiceLaw" 136 ⟨"ZnodeServiceModel", "crash", "(I)I"⟩ ∈ q_good := q_in 889 (by decide +kernel) (by decide +kernel)
theorem k_850 : Cond.instanceMethod ⟨"ZnodeServiceModel", "crash", "(I)I"⟩ ∈ q_good := q_in 890 (by decide +kernel) (by decide +kernel)
theorem k_851 : Cond.selects "ZnodeServiceModel" ⟨"ZnodeServiceModel", "crash", "(I)I"⟩ ⟨"ZnodeServiceModel", "crash", "(I)I"⟩ ∈ q_good := q_in 891 (by decide +kernel) (by decide +kernel)
theorem k_852 : Cond.code ⟨"ZnodeServiceModel", "crash", "(I)I"⟩ prog_7_method_38_code 3 (some FieldType.int) ∈ q_good := q_in 892 (by decide +kernel) (by decide +kernel)
theorem k_853 : Cond.methodLink "ZnodeServiceLaw" 139 ⟨"ZnodeServiceModel", "restart", "(I)I"⟩ ∈ q_good := q_in 893 (by decide +kernel) (by decide +kernel)
theorem k_854 : Cond.instanceMethod ⟨"ZnodeServiceModel", "restart", "(I)I"⟩ ∈ q_good := q_in 894 (by decide +kernel) (by decide +kernel)
theorem k_855 : Cond.selects "ZnodeServiceModel" ⟨"ZnodeServiceModel", "restart", "(I)I"⟩ ⟨"ZnodeServiceModel", "restart", "(I)I"⟩ ∈ q_good := q_in 895 (by decide +kernel) (by decide +kernel)
theorem k_856 : Cond.code ⟨"ZnodeServiceModel", "restart", "(I)I"⟩ prog_7_method_39_code 2 (some FieldType.int) ∈ q_good := q_in 896 (by decide +kernel) (by decide +kernel)
theorem k_857 : Cond.methodLink "ZnodeServiceLaw" 143 ⟨"ZnodeServiceModel", "alone", "(IZ)I"⟩ ∈ q_good := q_in 897 (by decide +kernel) (by decide +kernel)
theorem k_858 : Cond.instanceMethod ⟨"ZnodeServiceModel", "alone", "(IZ)I"⟩ ∈ q_good := q_in 898 (by decide +kernel) (by decide +kernel)
theorem k_859 : Cond.selects "ZnodeServiceModel" ⟨"ZnodeServiceModel", "alone", "(IZ)I"⟩ ⟨"ZnodeServiceModel", "alone", "(IZ)I"⟩ ∈ q_good := q_in 899 (by decide +kernel) (by decide +kernel)
theorem k_860 : Cond.code ⟨"ZnodeServiceModel", "alone", "(IZ)I"⟩ prog_7_method_40_code 4 (some FieldType.int) ∈ q_good := q_in 900 (by decide +kernel) (by decide +kernel)
theorem k_861 : Cond.methodLink "ZnodeServiceLaw" 147 ⟨"ZnodeServiceModel", "elect", "()I"⟩ ∈ q_good := q_in 901 (by decide +kernel) (by decide +kernel)
theorem k_862 : Cond.instanceMethod ⟨"ZnodeServiceModel", "elect", "()I"⟩ ∈ q_good := q_in 902 (by decide +kernel) (by decide +kernel)
theorem k_863 : Cond.selects "ZnodeServiceModel" ⟨"ZnodeServiceModel", "elect", "()I"⟩ ⟨"ZnodeServiceModel", "elect", "()I"⟩ ∈ q_good := q_in 903 (by decide +kernel) (by decide +kernel)
theorem k_864 : Cond.code ⟨"ZnodeServiceModel", "elect", "()I"⟩ prog_7_method_41_code 5 (some FieldType.int) ∈ q_good := q_in 904 (by decide +kernel) (by decide +kernel)
theorem k_865 : Cond.methodLink "ZnodeServiceLaw" 150 ⟨"ZnodeServiceModel", "tick", "(I)I"⟩ ∈ q_good := q_in 905 (by decide +kernel) (by decide +kernel)
theorem k_866 : Cond.instanceMethod ⟨"ZnodeServiceModel", "tick", "(I)I"⟩ ∈ q_good := q_in 906 (by decide +kernel) (by decide +kernel)
theorem k_867 : Cond.selects "ZnodeServiceModel" ⟨"ZnodeServiceModel", "tick", "(I)I"⟩ ⟨"ZnodeServiceModel", "tick", "(I)I"⟩ ∈ q_good := q_in 907 (by decide +kernel) (by decide +kernel)
theorem k_868 : Cond.code ⟨"ZnodeServiceModel", "tick", "(I)I"⟩ prog_7_method_42_code 4 (some FieldType.int) ∈ q_good := q_in 908 (by decide +kernel) (by decide +kernel)
theorem k_869 : Cond.methodLink "ZnodeServiceLaw" 153 ⟨"ZnodeServiceModel", "state", "(II)I"⟩ ∈ q_good := q_in 909 (by decide +kernel) (by decide +kernel)
theorem k_870 : Cond.instanceMethod ⟨"ZnodeServiceModel", "state", "(II)I"⟩ ∈ q_good := q_in 910 (by decide +kernel) (by decide +kernel)
theorem k_871 : Cond.selects "ZnodeServiceModel" ⟨"ZnodeServiceModel", "state", "(II)I"⟩ ⟨"ZnodeServiceModel", "state", "(II)I"⟩ ∈ q_good := q_in 911 (by decide +kernel) (by decide +kernel)
theorem k_872 : Cond.code ⟨"ZnodeServiceModel", "state", "(II)I"⟩ prog_7_method_43_code 5 (some FieldType.int) ∈ q_good := q_in 912 (by decide +kernel) (by decide +kernel)
theorem k_873 : Cond.methodLink "ZnodeServiceLaw" 156 ⟨"ZnodeServiceModel", "count", "(I)I"⟩ ∈ q_good := q_in 913 (by decide +kernel) (by decide +kernel)
theorem k_874 : Cond.instanceMethod ⟨"ZnodeServiceModel", "count", "(I)I"⟩ ∈ q_good := q_in 914 (by decide +kernel) (by decide +kernel)
theorem k_875 : Cond.selects "ZnodeServiceModel" ⟨"ZnodeServiceModel", "count", "(I)I"⟩ ⟨"ZnodeServiceModel", "count", "(I)I"⟩ ∈ q_good := q_in 915 (by decide +kernel) (by decide +kernel)
theorem k_876 : Cond.code ⟨"ZnodeServiceModel", "count", "(I)I"⟩ prog_7_method_44_code 2 (some FieldType.int) ∈ q_good := q_in 916 (by decide +kernel) (by decide +kernel)
theorem k_877 : Cond.arrayClass FieldType.long ∈ q_good := q_in 917 (by decide +kernel) (by decide +kernel)
def q_nest : List Cond := [Cond.methodLinkNest "ZnodeService" 38 ⟨"ZnodeService$Server", "<init>", "()V"⟩ "ZnodeService", Cond.methodLinkNest "ZnodeService" 39 ⟨"ZnodeService$Session", "<init>", "()V"⟩ "ZnodeService", Cond.methodLinkNest "ZnodeService$Tree" 58 ⟨"ZnodeService", "parentOf", "(I)I"⟩ "ZnodeService", Cond.methodLinkNest "ZnodeService$Tree" 62 ⟨"ZnodeService", "childOf", "(II)I"⟩ "ZnodeService", Cond.methodLinkNest "ZnodeService$Session" 70 ⟨"ZnodeService", "parentOf", "(I)I"⟩ "ZnodeService"]
theorem k_57 : Cond.methodLinkNest "ZnodeService" 38 ⟨"ZnodeService$Server", "<init>", "()V"⟩ "ZnodeService" ∈ q_nest := List.mem_of_getElem? (i := 0) rfl
theorem kt_57 : Cond.methodLinkNest "ZnodeService" 38 ⟨"ZnodeService$Server", "<init>", "()V"⟩ "ZnodeService" ∈ lw_tbl := List.mem_of_getElem? (i := 97) (by decide +kernel)
theorem k_95 : Cond.methodLinkNest "ZnodeService" 39 ⟨"ZnodeService$Session", "<init>", "()V"⟩ "ZnodeService" ∈ q_nest := List.mem_of_getElem? (i := 1) rfl
theorem kt_95 : Cond.methodLinkNest "ZnodeService" 39 ⟨"ZnodeService$Session", "<init>", "()V"⟩ "ZnodeService" ∈ lw_tbl := List.mem_of_getElem? (i := 135) (by decide +kernel)
theorem k_341 : Cond.methodLinkNest "ZnodeService$Tree" 58 ⟨"ZnodeService", "parentOf", "(I)I"⟩ "ZnodeService" ∈ q_nest := List.mem_of_getElem? (i := 2) rfl
theorem kt_341 : Cond.methodLinkNest "ZnodeService$Tree" 58 ⟨"ZnodeService", "parentOf", "(I)I"⟩ "ZnodeService" ∈ lw_tbl := List.mem_of_getElem? (i := 381) (by decide +kernel)
theorem k_344 : Cond.methodLinkNest "ZnodeService$Tree" 62 ⟨"ZnodeService", "childOf", "(II)I"⟩ "ZnodeService" ∈ q_nest := List.mem_of_getElem? (i := 3) rfl
theorem kt_344 : Cond.methodLinkNest "ZnodeService$Tree" 62 ⟨"ZnodeService", "childOf", "(II)I"⟩ "ZnodeService" ∈ lw_tbl := List.mem_of_getElem? (i := 384) (by decide +kernel)
theorem k_383 : Cond.methodLinkNest "ZnodeService$Session" 70 ⟨"ZnodeService", "parentOf", "(I)I"⟩ "ZnodeService" ∈ q_nest := List.mem_of_getElem? (i := 4) rfl
theorem kt_383 : Cond.methodLinkNest "ZnodeService$Session" 70 ⟨"ZnodeService", "parentOf", "(I)I"⟩ "ZnodeService" ∈ lw_tbl := List.mem_of_getElem? (i := 423) (by decide +kernel)
theorem k_s0 : Cond.selects "java/lang/Throwable" ⟨"java/lang/Throwable", "fillInStackTrace", "(I)Ljava/lang/Throwable;"⟩ ⟨"java/lang/Throwable", "fillInStackTrace", "(I)Ljava/lang/Throwable;"⟩ ∈ q_good := q_in 0 (by decide +kernel) (by decide +kernel)
theorem k_s1 : Cond.selects "ZnodeService" ⟨"ZnodeService", "isLinked", "(I)Z"⟩ ⟨"ZnodeService", "isLinked", "(I)Z"⟩ ∈ q_good := q_in 1 (by decide +kernel) (by decide +kernel)
theorem k_s2 : Cond.selects "ZnodeService" ⟨"ZnodeService", "hasQuorum", "()Z"⟩ ⟨"ZnodeService", "hasQuorum", "()Z"⟩ ∈ q_good := q_in 2 (by decide +kernel) (by decide +kernel)
theorem k_s3 : Cond.selects "ZnodeService" ⟨"ZnodeService", "requireReach", "(I)V"⟩ ⟨"ZnodeService", "requireReach", "(I)V"⟩ ∈ q_good := q_in 3 (by decide +kernel) (by decide +kernel)
theorem k_s4 : Cond.selects "ZnodeService" ⟨"ZnodeService", "requireQuorum", "()V"⟩ ⟨"ZnodeService", "requireQuorum", "()V"⟩ ∈ q_good := q_in 4 (by decide +kernel) (by decide +kernel)
theorem k_s5 : Cond.selects "ZnodeService" ⟨"ZnodeService", "closeDueSessions", "()V"⟩ ⟨"ZnodeService", "closeDueSessions", "()V"⟩ ∈ q_good := q_in 5 (by decide +kernel) (by decide +kernel)
theorem k_s6 : Cond.selects "ZnodeService" ⟨"ZnodeService", "appendAndPlan", "(LZnodeService$Entry;)V"⟩ ⟨"ZnodeService", "appendAndPlan", "(LZnodeService$Entry;)V"⟩ ∈ q_good := q_in 6 (by decide +kernel) (by decide +kernel)
theorem k_s7 : Cond.selects "ZnodeService" ⟨"ZnodeService", "spread", "()V"⟩ ⟨"ZnodeService", "spread", "()V"⟩ ∈ q_good := q_in 7 (by decide +kernel) (by decide +kernel)
theorem k_s8 : Cond.selects "ZnodeService" ⟨"ZnodeService", "applyLog", "(I)V"⟩ ⟨"ZnodeService", "applyLog", "(I)V"⟩ ∈ q_good := q_in 8 (by decide +kernel) (by decide +kernel)
theorem k_s9 : Cond.selects "ZnodeService" ⟨"ZnodeService", "isAt", "(II)Z"⟩ ⟨"ZnodeService", "isAt", "(II)Z"⟩ ∈ q_good := q_in 9 (by decide +kernel) (by decide +kernel)
theorem k_s10 : Cond.selects "ZnodeService$Session" ⟨"ZnodeService$Session", "tellOf", "(II)V"⟩ ⟨"ZnodeService$Session", "tellOf", "(II)V"⟩ ∈ q_good := q_in 10 (by decide +kernel) (by decide +kernel)
theorem k_s11 : Cond.selects "ZnodeService$Session" ⟨"ZnodeService$Session", "tellWatches", "(III)V"⟩ ⟨"ZnodeService$Session", "tellWatches", "(III)V"⟩ ∈ q_good := q_in 11 (by decide +kernel) (by decide +kernel)
theorem k_s12 : Cond.selects "ZnodeService" ⟨"ZnodeService", "requireOpen", "(I)V"⟩ ⟨"ZnodeService", "requireOpen", "(I)V"⟩ ∈ q_good := q_in 12 (by decide +kernel) (by decide +kernel)
theorem k_s13 : Cond.selects "ZnodeService" ⟨"ZnodeService", "proposeChange", "(LZnodeService$Entry;)V"⟩ ⟨"ZnodeService", "proposeChange", "(LZnodeService$Entry;)V"⟩ ∈ q_good := q_in 13 (by decide +kernel) (by decide +kernel)
theorem k_s14 : Cond.selects "ZnodeService" ⟨"ZnodeService", "isOtherVersion", "(II)Z"⟩ ⟨"ZnodeService", "isOtherVersion", "(II)Z"⟩ ∈ q_good := q_in 14 (by decide +kernel) (by decide +kernel)
theorem k_s15 : Cond.selects "ZnodeService" ⟨"ZnodeService", "treeOf", "(I)LZnodeService$Tree;"⟩ ⟨"ZnodeService", "treeOf", "(I)LZnodeService$Tree;"⟩ ∈ q_good := q_in 15 (by decide +kernel) (by decide +kernel)
theorem k_s16 : Cond.selects "ZnodeService" ⟨"ZnodeService", "planAnew", "(LZnodeService$Server;)V"⟩ ⟨"ZnodeService", "planAnew", "(LZnodeService$Server;)V"⟩ ∈ q_good := q_in 16 (by decide +kernel) (by decide +kernel)
theorem k_s17 : Cond.selects "ZnodeServiceModel" ⟨"ZnodeServiceModel", "out", "(II)Z"⟩ ⟨"ZnodeServiceModel", "out", "(II)Z"⟩ ∈ q_good := q_in 17 (by decide +kernel) (by decide +kernel)
theorem k_s18 : Cond.selects "ZnodeServiceModel" ⟨"ZnodeServiceModel", "fail", "(I)I"⟩ ⟨"ZnodeServiceModel", "fail", "(I)I"⟩ ∈ q_good := q_in 18 (by decide +kernel) (by decide +kernel)
theorem k_s19 : Cond.selects "ZnodeServiceModel" ⟨"ZnodeServiceModel", "linked", "(I)Z"⟩ ⟨"ZnodeServiceModel", "linked", "(I)Z"⟩ ∈ q_good := q_in 19 (by decide +kernel) (by decide +kernel)
theorem k_s20 : Cond.selects "ZnodeServiceModel" ⟨"ZnodeServiceModel", "fit", "(I)Z"⟩ ⟨"ZnodeServiceModel", "fit", "(I)Z"⟩ ∈ q_good := q_in 20 (by decide +kernel) (by decide +kernel)
theorem k_s21 : Cond.selects "ZnodeServiceModel" ⟨"ZnodeServiceModel", "quorum", "()Z"⟩ ⟨"ZnodeServiceModel", "quorum", "()Z"⟩ ∈ q_good := q_in 21 (by decide +kernel) (by decide +kernel)
theorem k_s22 : Cond.selects "ZnodeServiceModel" ⟨"ZnodeServiceModel", "end", "(I)I"⟩ ⟨"ZnodeServiceModel", "end", "(I)I"⟩ ∈ q_good := q_in 22 (by decide +kernel) (by decide +kernel)
theorem k_s23 : Cond.selects "ZnodeServiceModel" ⟨"ZnodeServiceModel", "planned", "()V"⟩ ⟨"ZnodeServiceModel", "planned", "()V"⟩ ∈ q_good := q_in 23 (by decide +kernel) (by decide +kernel)
theorem k_s24 : Cond.selects "ZnodeServiceModel" ⟨"ZnodeServiceModel", "grow", "(II)V"⟩ ⟨"ZnodeServiceModel", "grow", "(II)V"⟩ ∈ q_good := q_in 24 (by decide +kernel) (by decide +kernel)
theorem k_s25 : Cond.selects "ZnodeServiceModel" ⟨"ZnodeServiceModel", "plant", "()V"⟩ ⟨"ZnodeServiceModel", "plant", "()V"⟩ ∈ q_good := q_in 25 (by decide +kernel) (by decide +kernel)
theorem k_s26 : Cond.selects "ZnodeServiceModel" ⟨"ZnodeServiceModel", "done", "(II)V"⟩ ⟨"ZnodeServiceModel", "done", "(II)V"⟩ ∈ q_good := q_in 26 (by decide +kernel) (by decide +kernel)
theorem k_s27 : Cond.selects "ZnodeServiceModel" ⟨"ZnodeServiceModel", "parent", "(I)I"⟩ ⟨"ZnodeServiceModel", "parent", "(I)I"⟩ ∈ q_good := q_in 27 (by decide +kernel) (by decide +kernel)
theorem k_s28 : Cond.selects "ZnodeServiceModel" ⟨"ZnodeServiceModel", "tell", "(III)V"⟩ ⟨"ZnodeServiceModel", "tell", "(III)V"⟩ ∈ q_good := q_in 28 (by decide +kernel) (by decide +kernel)
theorem k_s29 : Cond.selects "ZnodeServiceModel" ⟨"ZnodeServiceModel", "put", "(II)V"⟩ ⟨"ZnodeServiceModel", "put", "(II)V"⟩ ∈ q_good := q_in 29 (by decide +kernel) (by decide +kernel)
theorem k_s30 : Cond.selects "ZnodeServiceModel" ⟨"ZnodeServiceModel", "owned", "(I)I"⟩ ⟨"ZnodeServiceModel", "owned", "(I)I"⟩ ∈ q_good := q_in 30 (by decide +kernel) (by decide +kernel)
theorem k_s31 : Cond.selects "ZnodeServiceModel" ⟨"ZnodeServiceModel", "propose", "(IIII)V"⟩ ⟨"ZnodeServiceModel", "propose", "(IIII)V"⟩ ∈ q_good := q_in 31 (by decide +kernel) (by decide +kernel)
theorem k_s32 : Cond.selects "ZnodeServiceModel" ⟨"ZnodeServiceModel", "spread", "()V"⟩ ⟨"ZnodeServiceModel", "spread", "()V"⟩ ∈ q_good := q_in 32 (by decide +kernel) (by decide +kernel)
theorem k_s33 : Cond.selects "ZnodeServiceModel" ⟨"ZnodeServiceModel", "copyEntry", "(II)V"⟩ ⟨"ZnodeServiceModel", "copyEntry", "(II)V"⟩ ∈ q_good := q_in 33 (by decide +kernel) (by decide +kernel)
theorem k_s34 : Cond.selects "ZnodeServiceModel" ⟨"ZnodeServiceModel", "reaches", "(I)Z"⟩ ⟨"ZnodeServiceModel", "reaches", "(I)Z"⟩ ∈ q_good := q_in 34 (by decide +kernel) (by decide +kernel)
theorem k_s35 : Cond.selects "ZnodeServiceModel" ⟨"ZnodeServiceModel", "connected", "(I)Z"⟩ ⟨"ZnodeServiceModel", "connected", "(I)Z"⟩ ∈ q_good := q_in 35 (by decide +kernel) (by decide +kernel)
theorem k_s36 : Cond.selects "ZnodeServiceModel" ⟨"ZnodeServiceModel", "finish", "(I)V"⟩ ⟨"ZnodeServiceModel", "finish", "(I)V"⟩ ∈ q_good := q_in 36 (by decide +kernel) (by decide +kernel)
theorem k_s37 : Cond.selects "ZnodeServiceModel" ⟨"ZnodeServiceModel", "forget", "(I)V"⟩ ⟨"ZnodeServiceModel", "forget", "(I)V"⟩ ∈ q_good := q_in 37 (by decide +kernel) (by decide +kernel)
theorem k_s38 : Cond.selects "ZnodeServiceModel" ⟨"ZnodeServiceModel", "childrenOf", "(I)I"⟩ ⟨"ZnodeServiceModel", "childrenOf", "(I)I"⟩ ∈ q_good := q_in 38 (by decide +kernel) (by decide +kernel)
theorem k_s39 : Cond.selects "ZnodeServiceModel" ⟨"ZnodeServiceModel", "look", "(III)I"⟩ ⟨"ZnodeServiceModel", "look", "(III)I"⟩ ∈ q_good := q_in 39 (by decide +kernel) (by decide +kernel)
end
section
/-! THE LOGIC. Heaps by RELATIVE addresses: 0 is the script's cell, k + 1 is the k-th cell made since the law began. A cell: an array (number of its type, length, contents) or an object (number of its class, fields). -/
abbrev q_E : Type := (Nat × vp_A) ⊕ (Nat × List Value)
abbrev q_H : Type := Nat → Option q_E
/-- a post: of the outcome (an answer, or the name of the class thrown), the heap behind it, the number of cells made -/
abbrev q_Q : Type := (Option Value ⊕ String) → q_H → Nat → Prop
/-- the classes' numbers and slots, the array classes, the script's address, the first new address, the script's length and ints -/
abbrev q_G : Type := va_G × (Nat → ClassId) × Nat × Nat × Nat × (Nat → Int32)
abbrev q_ty (G : q_G) : List (ClassId × FieldType) := [(G.2.1 0, .int), (G.2.1 1, .long), (G.2.1 2, .boolean), (G.2.1 3, .object "ZnodeService$Server"), (G.2.1 4, .object "ZnodeService$Session"), (G.2.1 5, .object "ZnodeService$Entry")]
def q_ad (G : q_G) : Nat → Nat
  | 0 => G.2.2.1
  | k + 1 => G.2.2.2.1 + k
def q_A (G : q_G) : Nat → Prop := fun q => G.2.2.2.1 ≤ q
def q_v (G : q_G) : Value → Value
  | .ref a => .ref (q_ad G a)
  | v => v
def q_a (G : q_G) : vp_A → vp_A
  | (n, .inr (.inr (.inr (.inr f)))) => (n, .inr (.inr (.inr (.inr (fun j => (f j).map (q_ad G))))))
  | a => a
def q_e (G : q_G) : q_E → va_E
  | .inl a => .inl (G.2.1 a.1, q_a G a.2)
  | .inr o => .inr (o.1, o.2.map (q_v G))
def q_P (G : q_G) (h : q_H) (N : Nat) (H : Heap) : Prop := H.size = G.2.2.2.1 + N ∧ ∀ (k : Nat) (e : q_E), h k = some e → 0 < k ∧ k ≤ N ∧ va_at G.1 q_cl (q_ad G k, q_e G e) H
def q_up (h : q_H) (k : Nat) (e : q_E) : q_H := fun j => if j = k then some e else h j
def q_lv (G : q_G) (ls : Array Slot) (nL : Nat) (lv : List (Option Value)) : Prop := ls.size = nL ∧ lv_wf ls ∧ ∀ (i : Nat) (v : Value), lv[i]? = some (some v) → ls[i]? = some (.val (q_v G v)) ∧ v.category = 1
def q_nc : List (String × String) := [("java/lang/IllegalStateException", "java/lang/IllegalArgumentException"), ("java/util/NoSuchElementException", "java/lang/IllegalArgumentException"), ("java/lang/UnsupportedOperationException", "java/lang/IllegalArgumentException"), ("java/lang/IndexOutOfBoundsException", "java/lang/IllegalArgumentException"), ("java/util/NoSuchElementException", "java/lang/IllegalStateException"), ("java/lang/UnsupportedOperationException", "java/lang/IllegalStateException"), ("java/lang/IndexOutOfBoundsException", "java/lang/IllegalStateException"), ("java/lang/UnsupportedOperationException", "java/util/NoSuchElementException"), ("java/lang/IndexOutOfBoundsException", "java/util/NoSuchElementException"), ("java/lang/IndexOutOfBoundsException", "java/lang/UnsupportedOperationException")]
def q_ao : List String := ["ZnodeService$Server", "ZnodeService$Session", "ZnodeService$Entry"]
/-- what holds in every state of the run -/
def q_K (G : q_G) (U : State) : Prop := va_K G.1 q_cl (q_ty G) U ∧ va_X G.2.2.1 G.2.2.2.2.1 G.2.2.2.2.2 U U.heap ∧ G.2.2.1 < G.2.2.2.1 ∧ G.2.2.2.1 ≤ U.heap.size ∧ vx_Zq Bundle.tN "UNASSIGNED_STACK" Bundle.steD (q_A G) U U.heap ∧ vx_Zq Bundle.tN "SUPPRESSED_SENTINEL" Bundle.listD (q_A G) U U.heap ∧ (∀ w ∈ q_face, va_Nw w U) ∧ (∀ w ∈ q_nest, va_Nw w U) ∧ (∀ x ∈ q_nc, va_Nc x.1 x.2 U) ∧ ∀ C ∈ q_ao, va_AO C U
/-- what holds in a method's body -/
def q_Cx (l : Launch) (G : q_G) (μ : q_M) (p : Program) (s : State) (m : MethodId) (args : Array Value) (meth : Method) (c : Code) : Prop :=
  p.tables.exec = Jvm.exec ∧ c.code = μ.2.1 ∧ meth.sig.returnType = μ.2.2.2.1 ∧ c.maxLocals = μ.2.2.1 ∧ s.vm.findClass μ.1.cls = some m.cls ∧ (∀ w ∈ q_good, w.before args s = true) ∧ meth.locks = false ∧ c.exceptionTable.toList = tableOf μ.2.2.2.2 ∧ meth.name = μ.1.name ∧ l.stackTraces = false ∧ q_K G s
def q_Qc (G : q_G) (Q : q_Q) : Array Value → State → Outcome → State → Prop := fun _ st o t => ∃ (r : Option Value) (h' : q_H) (N' : Nat), o = .returned (r.map (q_v G)) ∧ Q (.inl r) h' N' ∧ q_P G h' N' t.heap ∧ va_F (q_A G) st t
def q_XC (G : q_G) (Q : q_Q) : String → State → State → Prop := fun E st t => ∃ (h' : q_H) (N' : Nat), Q (.inr E) h' N' ∧ q_P G h' N' t.heap ∧ va_F (q_A G) st t
/-- THE JUDGEMENT: method μ's frame at pc with locals lv, stack st, heap h (N cells made), room for fr frames, lo words, cc cells, ss slots: it ends with Q -/
def q_Ev (l : Launch) (G : q_G) (μ : q_M) (fr lo cc ss pc : Nat) (lv : List (Option Value)) (st : List Value) (h : q_H) (N : Nat) (Q : q_Q) : Prop :=
  ∀ (p : Program) (e : Env) (R : Room) (s : State) (m : MethodId) (args : Array Value) (below : List Frame) (meth : Method) (c : Code) (H : Heap) (locs : List Loc) (cells slots mc ms : Nat) (ls : Array Slot),
    q_Cx l G μ p s m args meth c → q_lv G ls μ.2.2.1 lv → q_P G h N H → va_S (q_A G) s.heap H locs → (fr ≤ R.frames ∧ lo ≤ R.locals ∧ cells + cc ≤ R.cells ∧ slots + ss ≤ R.slots ∧ cells + cc ≤ mc ∧ slots + ss ≤ ms) →
    W p l e R s m args below meth c H locs cells slots (vx_MQ below (q_Qc G Q) (q_XC G Q) args s mc ms (q_A G)) (F0 m pc ls (st.map (q_v G)))
def q_cw (μ : q_M) : Cond := match μ.2.2.2.2 with
  | [] => .code μ.1 μ.2.1 μ.2.2.1 μ.2.2.2.1
  | x :: r => .codeWith μ.1 μ.2.1 μ.2.2.1 μ.2.2.2.1 (x :: r)
def q_Pc (G : q_G) (av : List Value) (h : q_H) (N : Nat) : Array Value → State → Prop := fun v U => v = (av.map (q_v G)).toArray ∧ q_P G h N U.heap ∧ q_K G U
/-- A METHOD'S CONTRACT at these arguments and this heap -/
def q_Met (l : Launch) (G : q_G) (μ : q_M) (fr lo cc ss : Nat) (av : List Value) (h : q_H) (N : Nat) (Q : q_Q) : Prop :=
  vx_Met l μ.1 (q_cw μ :: q_good) { frames := fr, locals := lo, cells := cc, slots := ss } (q_Pc G av h N) (q_Qc G Q) (q_XC G Q) cc ss (q_A G)
theorem q_K.moved {G : q_G} {s U : State} (h : q_K G s) (hW : s.WarmedH U.vm) (hz : s.heap.size ≤ U.heap.size) (hk : ∀ q : Nat, q < s.heap.size → ¬ q_A G q → U.heap[q]? = s.heap[q]?) : q_K G U := by
  obtain ⟨h1, h2, h3, h4, h5, h6, h7, h8, h9, h10⟩ := h
  refine ⟨va_K.moved hW.alike h1, ?_, h3, Nat.le_trans h4 hz, (vx_Zq.moved hW.alike h5).kept hk, (vx_Zq.moved hW.alike h6).kept hk, fun w hw => ?_, fun w hw => ?_, fun x hx => va_Nc.moved hW.alike (h9 x hx), fun C hC => va_AO.moved hW.alike (h10 C hC)⟩
  · exact (va_X.moved hW.alike h2).kept (hk _ (Nat.lt_of_lt_of_le h3 h4) (Nat.not_le.mpr h3))
  · have hf := (List.mem_filter.mp hw).2
    simp only [q_fw, Bool.and_eq_true] at hf
    exact va_tabs hf.2 (rfl : (s.setVm U.vm).vm = U.vm) (Cond.faceAtom_setVm (args := #[]) hW.alike w hf.1 (h7 w hw))
  · have h9 := h8 w hw
    simp only [q_nest, List.mem_cons, List.not_mem_nil, or_false] at hw
    rcases hw with rfl | rfl | rfl | rfl | rfl <;> exact va_Nw.warmM hW h9
theorem q_blind (G : q_G) (av : List Value) (h : q_H) (N : Nat) : FrameBlind (q_Pc G av h N) := fun a U g mk q => ⟨q.1, q.2.1, q.2.2.moved (U := U.calling g mk a) (State.WarmedH.refl U) (Nat.le_refl _) (fun _ _ _ => rfl)⟩
def q_pr (G : q_G) (lv : List (Option Value)) : List (Nat × Value) := lv.zipIdx.filterMap (fun q => q.1.map (fun v => (q.2, q_v G v)))
theorem q_pr_mem {G : q_G} {lv : List (Option Value)} {q : Nat × Value} : q ∈ q_pr G lv ↔ ∃ v : Value, lv[q.1]? = some (some v) ∧ q.2 = q_v G v := by
  simp only [q_pr, List.mem_filterMap]
  constructor
  · rintro ⟨⟨x, i⟩, h1, h2⟩
    cases x with
    | none => simp at h2
    | some v =>
      simp only [Option.map_some, Option.some.injEq] at h2
      subst h2
      exact ⟨v, List.mem_zipIdx_iff_getElem?.mp h1, rfl⟩
  · rintro ⟨v, h1, h2⟩
    refine ⟨(some v, q.1), List.mem_zipIdx_iff_getElem?.mpr h1, ?_⟩
    simp [← h2]
theorem q_v_cat (G : q_G) (v : Value) : (q_v G v).category = v.category := by cases v <;> rfl
theorem q_lv.has {G : q_G} {ls : Array Slot} {nL : Nat} {lv : List (Option Value)} (h : q_lv G ls nL lv) : lv_has ls nL (q_pr G lv) := by
  refine ⟨h.1, h.2.1, fun q hq => ?_⟩
  obtain ⟨v, h1, h2⟩ := q_pr_mem.mp hq
  rw [h2]
  exact (h.2.2 q.1 v h1).1
theorem q_lv.set {G : q_G} {ls ls' : Array Slot} {nL i : Nat} {lv : List (Option Value)} {v : Value} (h : q_lv G ls nL lv) (hc : v.category = 1) (h' : lv_has ls' nL ((i, q_v G v) :: (q_pr G lv).filter (fun q => !(q.1 == i) && !(q.1 + 1 == i && q.2.category == 2)))) : q_lv G ls' nL (lv.set i (some v)) := by
  refine ⟨h'.1, h'.2.1, fun j w hj => ?_⟩
  by_cases e : i = j
  · subst e
    rw [List.getElem?_set_self'] at hj
    cases hl : lv[i]? with
    | none => simp [hl] at hj
    | some x =>
      simp [hl] at hj
      subst hj
      exact ⟨h'.2.2 (i, q_v G v) List.mem_cons_self, hc⟩
  · rw [List.getElem?_set_ne e] at hj
    have h3 := h.2.2 j w hj
    refine ⟨h'.2.2 (j, q_v G w) (List.mem_cons_of_mem _ (List.mem_filter.mpr ⟨q_pr_mem.mpr ⟨w, hj, rfl⟩, ?_⟩)), h3.2⟩
    have e2 : ¬ j = i := fun q => e q.symm
    simp [e2, q_v_cat, h3.2]
theorem q_pr_at {G : q_G} {lv : List (Option Value)} {i : Nat} {v : Value} (h : lv[i]? = some (some v)) : ∃ k : Nat, (q_pr G lv)[k]? = some (i, q_v G v) := List.mem_iff_getElem?.mp (q_pr_mem.mpr ⟨v, h, rfl⟩)
section QR
variable {l : Launch} {G : q_G} {μ : q_M} {fr lo cc ss pc N : Nat} {lv : List (Option Value)} {st : List Value} {h : q_H} {Q : q_Q}
theorem e_iconst {n : Int} {v : Int32} (d : decode μ.2.1 pc = .ok (.iconst n, 1)) (hv : Int32.ofInt n = v) (k : q_Ev l G μ fr lo cc ss (pc + 1) lv (.int v :: st) h N Q) : q_Ev l G μ fr lo cc ss pc lv (st) h N Q :=
  fun p e R s m args below meth c H locs cells slots mc ms ls C hl hP hS hR => lv_iconst C.1 C.2.1 d hv (k p e R s m args below meth c H locs cells slots mc ms ls C hl hP hS hR)
theorem e_bipush {n : Int} {v : Int32} (d : decode μ.2.1 pc = .ok (.bipush n, 2)) (hv : (Int8.ofInt n).toInt32 = v) (k : q_Ev l G μ fr lo cc ss (pc + 2) lv (.int v :: st) h N Q) : q_Ev l G μ fr lo cc ss pc lv (st) h N Q :=
  fun p e R s m args below meth c H locs cells slots mc ms ls C hl hP hS hR => lv_bipush C.1 C.2.1 d hv (k p e R s m args below meth c H locs cells slots mc ms ls C hl hP hS hR)
theorem e_sipush {n : Int} {v : Int32} (d : decode μ.2.1 pc = .ok (.sipush n, 3)) (hv : (Int16.ofInt n).toInt32 = v) (k : q_Ev l G μ fr lo cc ss (pc + 3) lv (.int v :: st) h N Q) : q_Ev l G μ fr lo cc ss pc lv (st) h N Q :=
  fun p e R s m args below meth c H locs cells slots mc ms ls C hl hP hS hR => lv_sipush C.1 C.2.1 d hv (k p e R s m args below meth c H locs cells slots mc ms ls C hl hP hS hR)
theorem e_lconst {n : Fin 2} {v : Int64} (d : decode μ.2.1 pc = .ok (.lconst n, 1)) (hv : Int64.ofNat (n : Nat) = v) (k : q_Ev l G μ fr lo cc ss (pc + 1) lv (.long v :: st) h N Q) : q_Ev l G μ fr lo cc ss pc lv (st) h N Q :=
  fun p e R s m args below meth c H locs cells slots mc ms ls C hl hP hS hR => lv_lconst C.1 C.2.1 d hv (k p e R s m args below meth c H locs cells slots mc ms ls C hl hP hS hR)
theorem e_iload_n {i : Fin 4} {x : Int32} (d : decode μ.2.1 pc = .ok (.iload_n i, 1)) (hi : lv[(i : Nat)]? = some (some (.int x))) (k : q_Ev l G μ fr lo cc ss (pc + 1) lv (.int x :: st) h N Q) : q_Ev l G μ fr lo cc ss pc lv (st) h N Q :=
  fun p e R s m args below meth c H locs cells slots mc ms ls C hl hP hS hR => lv_iload_n C.1 C.2.1 d rfl (hl.2.2 i _ hi).1 (k p e R s m args below meth c H locs cells slots mc ms ls C hl hP hS hR)
theorem e_iload {i : Nat} {x : Int32} (d : decode μ.2.1 pc = .ok (.iload i, 2)) (hi : lv[i]? = some (some (.int x))) (k : q_Ev l G μ fr lo cc ss (pc + 2) lv (.int x :: st) h N Q) : q_Ev l G μ fr lo cc ss pc lv (st) h N Q :=
  fun p e R s m args below meth c H locs cells slots mc ms ls C hl hP hS hR => lv_iload C.1 C.2.1 d (hl.2.2 i _ hi).1 (k p e R s m args below meth c H locs cells slots mc ms ls C hl hP hS hR)
theorem e_aload_n {i : Fin 4} {x : Nat} (d : decode μ.2.1 pc = .ok (.aload_n i, 1)) (hi : lv[(i : Nat)]? = some (some (.ref x))) (k : q_Ev l G μ fr lo cc ss (pc + 1) lv (.ref x :: st) h N Q) : q_Ev l G μ fr lo cc ss pc lv (st) h N Q :=
  fun p e R s m args below meth c H locs cells slots mc ms ls C hl hP hS hR => lv_aload_n C.1 C.2.1 d rfl (hl.2.2 i _ hi).1 (k p e R s m args below meth c H locs cells slots mc ms ls C hl hP hS hR)
theorem e_aload {i x : Nat} (d : decode μ.2.1 pc = .ok (.aload i, 2)) (hi : lv[i]? = some (some (.ref x))) (k : q_Ev l G μ fr lo cc ss (pc + 2) lv (.ref x :: st) h N Q) : q_Ev l G μ fr lo cc ss pc lv (st) h N Q :=
  fun p e R s m args below meth c H locs cells slots mc ms ls C hl hP hS hR => lv_aload C.1 C.2.1 d (hl.2.2 i _ hi).1 (k p e R s m args below meth c H locs cells slots mc ms ls C hl hP hS hR)
theorem e_istore_n {i : Fin 4} {x : Int32} (d : decode μ.2.1 pc = .ok (.istore_n i, 1)) (hi : (i : Nat) < μ.2.2.1) (k : q_Ev l G μ fr lo cc ss (pc + 1) (lv.set (i : Nat) (some (.int x))) st h N Q) : q_Ev l G μ fr lo cc ss pc lv (.int x :: st) h N Q :=
  fun p e R s m args below meth c H locs cells slots mc ms ls C hl hP hS hR => lv_istore_n C.1 C.2.1 d rfl hl.has hi rfl (fun ls2 h2 => k p e R s m args below meth c H locs cells slots mc ms ls2 C (hl.set rfl h2) hP hS hR)
theorem e_istore {i : Nat} {x : Int32} (d : decode μ.2.1 pc = .ok (.istore i, 2)) (hi : i < μ.2.2.1) (k : q_Ev l G μ fr lo cc ss (pc + 2) (lv.set i (some (.int x))) st h N Q) : q_Ev l G μ fr lo cc ss pc lv (.int x :: st) h N Q :=
  fun p e R s m args below meth c H locs cells slots mc ms ls C hl hP hS hR => lv_istore C.1 C.2.1 d hl.has hi rfl (fun ls2 h2 => k p e R s m args below meth c H locs cells slots mc ms ls2 C (hl.set rfl h2) hP hS hR)
theorem e_astore_n {i : Fin 4} {x : Nat} (d : decode μ.2.1 pc = .ok (.astore_n i, 1)) (hi : (i : Nat) < μ.2.2.1) (k : q_Ev l G μ fr lo cc ss (pc + 1) (lv.set (i : Nat) (some (.ref x))) st h N Q) : q_Ev l G μ fr lo cc ss pc lv (.ref x :: st) h N Q :=
  fun p e R s m args below meth c H locs cells slots mc ms ls C hl hP hS hR => lv_astore_n C.1 C.2.1 d rfl hl.has hi rfl (fun ls2 h2 => k p e R s m args below meth c H locs cells slots mc ms ls2 C (hl.set rfl h2) hP hS hR)
theorem e_astore {i x : Nat} (d : decode μ.2.1 pc = .ok (.astore i, 2)) (hi : i < μ.2.2.1) (k : q_Ev l G μ fr lo cc ss (pc + 2) (lv.set i (some (.ref x))) st h N Q) : q_Ev l G μ fr lo cc ss pc lv (.ref x :: st) h N Q :=
  fun p e R s m args below meth c H locs cells slots mc ms ls C hl hP hS hR => lv_astore C.1 C.2.1 d hl.has hi rfl (fun ls2 h2 => k p e R s m args below meth c H locs cells slots mc ms ls2 C (hl.set rfl h2) hP hS hR)
theorem e_iinc {i : Nat} {n : Int} {x v : Int32} (d : decode μ.2.1 pc = .ok (.iinc i n, 3)) (hx : lv[i]? = some (some (.int x))) (hv : x + Int32.ofInt n = v) (hi : i < μ.2.2.1) (k : q_Ev l G μ fr lo cc ss (pc + 3) (lv.set i (some (.int v))) st h N Q) : q_Ev l G μ fr lo cc ss pc lv st h N Q := by
  intro p e R s m args below meth c H locs cells slots mc ms ls C hl hP hS hR
  obtain ⟨j, hj⟩ := q_pr_at (G := G) hx
  exact lv_iinc C.1 C.2.1 d hl.has hj hv hi rfl (fun ls2 h2 => k p e R s m args below meth c H locs cells slots mc ms ls2 C (hl.set rfl h2) hP hS hR)
theorem e_iadd {x y : Int32} (d : decode μ.2.1 pc = .ok (.iadd, 1)) (k : q_Ev l G μ fr lo cc ss (pc + 1) lv (.int (x + y) :: st) h N Q) : q_Ev l G μ fr lo cc ss pc lv (.int y :: .int x :: st) h N Q :=
  fun p e R s m args below meth c H locs cells slots mc ms ls C hl hP hS hR => lv_iadd C.1 C.2.1 d (k p e R s m args below meth c H locs cells slots mc ms ls C hl hP hS hR)
theorem e_isub {x y : Int32} (d : decode μ.2.1 pc = .ok (.isub, 1)) (k : q_Ev l G μ fr lo cc ss (pc + 1) lv (.int (x - y) :: st) h N Q) : q_Ev l G μ fr lo cc ss pc lv (.int y :: .int x :: st) h N Q :=
  fun p e R s m args below meth c H locs cells slots mc ms ls C hl hP hS hR => lv_isub C.1 C.2.1 d (k p e R s m args below meth c H locs cells slots mc ms ls C hl hP hS hR)
theorem e_imul {x y : Int32} (d : decode μ.2.1 pc = .ok (.imul, 1)) (k : q_Ev l G μ fr lo cc ss (pc + 1) lv (.int (x * y) :: st) h N Q) : q_Ev l G μ fr lo cc ss pc lv (.int y :: .int x :: st) h N Q :=
  fun p e R s m args below meth c H locs cells slots mc ms ls C hl hP hS hR => lv_imul C.1 C.2.1 d (k p e R s m args below meth c H locs cells slots mc ms ls C hl hP hS hR)
theorem e_iand {x y : Int32} (d : decode μ.2.1 pc = .ok (.iand, 1)) (k : q_Ev l G μ fr lo cc ss (pc + 1) lv (.int (x &&& y) :: st) h N Q) : q_Ev l G μ fr lo cc ss pc lv (.int y :: .int x :: st) h N Q :=
  fun p e R s m args below meth c H locs cells slots mc ms ls C hl hP hS hR => lv_iand C.1 C.2.1 d (k p e R s m args below meth c H locs cells slots mc ms ls C hl hP hS hR)
theorem e_ior {x y : Int32} (d : decode μ.2.1 pc = .ok (.ior, 1)) (k : q_Ev l G μ fr lo cc ss (pc + 1) lv (.int (x ||| y) :: st) h N Q) : q_Ev l G μ fr lo cc ss pc lv (.int y :: .int x :: st) h N Q :=
  fun p e R s m args below meth c H locs cells slots mc ms ls C hl hP hS hR => lv_ior C.1 C.2.1 d (k p e R s m args below meth c H locs cells slots mc ms ls C hl hP hS hR)
theorem e_ixor {x y : Int32} (d : decode μ.2.1 pc = .ok (.ixor, 1)) (k : q_Ev l G μ fr lo cc ss (pc + 1) lv (.int (x ^^^ y) :: st) h N Q) : q_Ev l G μ fr lo cc ss pc lv (.int y :: .int x :: st) h N Q :=
  fun p e R s m args below meth c H locs cells slots mc ms ls C hl hP hS hR => lv_ixor C.1 C.2.1 d (k p e R s m args below meth c H locs cells slots mc ms ls C hl hP hS hR)
theorem e_ishl {x y : Int32} (d : decode μ.2.1 pc = .ok (.ishl, 1)) (k : q_Ev l G μ fr lo cc ss (pc + 1) lv (.int (x <<< (y &&& 31)) :: st) h N Q) : q_Ev l G μ fr lo cc ss pc lv (.int y :: .int x :: st) h N Q :=
  fun p e R s m args below meth c H locs cells slots mc ms ls C hl hP hS hR => lv_ishl C.1 C.2.1 d (k p e R s m args below meth c H locs cells slots mc ms ls C hl hP hS hR)
theorem e_idiv {x y : Int32} (d : decode μ.2.1 pc = .ok (.idiv, 1)) (hne : ¬ y = 0) (k : q_Ev l G μ fr lo cc ss (pc + 1) lv (.int (x / y) :: st) h N Q) : q_Ev l G μ fr lo cc ss pc lv (.int y :: .int x :: st) h N Q :=
  fun p e R s m args below meth c H locs cells slots mc ms ls C hl hP hS hR => lv_idiv C.1 C.2.1 d hne (k p e R s m args below meth c H locs cells slots mc ms ls C hl hP hS hR)
theorem e_irem {x y : Int32} (d : decode μ.2.1 pc = .ok (.irem, 1)) (hne : ¬ y = 0) (k : q_Ev l G μ fr lo cc ss (pc + 1) lv (.int (x - x / y * y) :: st) h N Q) : q_Ev l G μ fr lo cc ss pc lv (.int y :: .int x :: st) h N Q :=
  fun p e R s m args below meth c H locs cells slots mc ms ls C hl hP hS hR => lv_irem C.1 C.2.1 d hne (k p e R s m args below meth c H locs cells slots mc ms ls C hl hP hS hR)
theorem e_i2l {x : Int32} (d : decode μ.2.1 pc = .ok (.i2l, 1)) (k : q_Ev l G μ fr lo cc ss (pc + 1) lv (.long x.toInt64 :: st) h N Q) : q_Ev l G μ fr lo cc ss pc lv (.int x :: st) h N Q :=
  fun p e R s m args below meth c H locs cells slots mc ms ls C hl hP hS hR => lv_i2l C.1 C.2.1 d rfl (k p e R s m args below meth c H locs cells slots mc ms ls C hl hP hS hR)
theorem e_lcmp {x y : Int64} (d : decode μ.2.1 pc = .ok (.lcmp, 1)) (k : q_Ev l G μ fr lo cc ss (pc + 1) lv (.int (lg_cmp x y) :: st) h N Q) : q_Ev l G μ fr lo cc ss pc lv (.long y :: .long x :: st) h N Q :=
  fun p e R s m args below meth c H locs cells slots mc ms ls C hl hP hS hR => W.lcmp C.1 C.2.1 d (k p e R s m args below meth c H locs cells slots mc ms ls C hl hP hS hR)
theorem e_dup {v : Value} (d : decode μ.2.1 pc = .ok (.dup, 1)) (hv : v.category = 1) (k : q_Ev l G μ fr lo cc ss (pc + 1) lv (v :: v :: st) h N Q) : q_Ev l G μ fr lo cc ss pc lv (v :: st) h N Q :=
  fun p e R s m args below meth c H locs cells slots mc ms ls C hl hP hS hR => lv_dup C.1 C.2.1 d ((q_v_cat G v).trans hv) (k p e R s m args below meth c H locs cells slots mc ms ls C hl hP hS hR)
theorem e_dup2 {v w : Value} (d : decode μ.2.1 pc = .ok (.dup2, 1)) (hv : v.category = 1) (hw : w.category = 1) (k : q_Ev l G μ fr lo cc ss (pc + 1) lv (v :: w :: v :: w :: st) h N Q) : q_Ev l G μ fr lo cc ss pc lv (v :: w :: st) h N Q :=
  fun p e R s m args below meth c H locs cells slots mc ms ls C hl hP hS hR => lv_dup2_11 C.1 C.2.1 d ((q_v_cat G v).trans hv) ((q_v_cat G w).trans hw) (k p e R s m args below meth c H locs cells slots mc ms ls C hl hP hS hR)
theorem e_goto {off : Int} {tgt : Nat} (d : decode μ.2.1 pc = .ok (.goto off, 3)) (ht : (pc : Int) + off = (tgt : Int)) (k : q_Ev l G μ fr lo cc ss tgt lv st h N Q) : q_Ev l G μ fr lo cc ss pc lv st h N Q :=
  fun p e R s m args below meth c H locs cells slots mc ms ls C hl hP hS hR => lv_goto C.1 C.2.1 d ht (k p e R s m args below meth c H locs cells slots mc ms ls C hl hP hS hR)
theorem e_if_eq {x : Int32} {off : Int} {tgt : Nat} (d : decode μ.2.1 pc = .ok (.ifCond .eq off, 3)) (ht : (pc : Int) + off = (tgt : Int)) (kt : x = 0 → q_Ev l G μ fr lo cc ss tgt lv st h N Q) (kf : ¬ x = 0 → q_Ev l G μ fr lo cc ss (pc + 3) lv st h N Q) : q_Ev l G μ fr lo cc ss pc lv (.int x :: st) h N Q :=
  fun p e R s m args below meth c H locs cells slots mc ms ls C hl hP hS hR => lv_if_eq C.1 C.2.1 d ht (fun z => kt z p e R s m args below meth c H locs cells slots mc ms ls C hl hP hS hR) (fun z => kf z p e R s m args below meth c H locs cells slots mc ms ls C hl hP hS hR)
theorem e_if_ne {x : Int32} {off : Int} {tgt : Nat} (d : decode μ.2.1 pc = .ok (.ifCond .ne off, 3)) (ht : (pc : Int) + off = (tgt : Int)) (kt : ¬ x = 0 → q_Ev l G μ fr lo cc ss tgt lv st h N Q) (kf : x = 0 → q_Ev l G μ fr lo cc ss (pc + 3) lv st h N Q) : q_Ev l G μ fr lo cc ss pc lv (.int x :: st) h N Q :=
  fun p e R s m args below meth c H locs cells slots mc ms ls C hl hP hS hR => lv_if_ne C.1 C.2.1 d ht (fun z => kt z p e R s m args below meth c H locs cells slots mc ms ls C hl hP hS hR) (fun z => kf z p e R s m args below meth c H locs cells slots mc ms ls C hl hP hS hR)
theorem e_if_lt {x : Int32} {off : Int} {tgt : Nat} (d : decode μ.2.1 pc = .ok (.ifCond .lt off, 3)) (ht : (pc : Int) + off = (tgt : Int)) (kt : x < 0 → q_Ev l G μ fr lo cc ss tgt lv st h N Q) (kf : ¬ x < 0 → q_Ev l G μ fr lo cc ss (pc + 3) lv st h N Q) : q_Ev l G μ fr lo cc ss pc lv (.int x :: st) h N Q :=
  fun p e R s m args below meth c H locs cells slots mc ms ls C hl hP hS hR => lv_if_lt C.1 C.2.1 d ht (fun z => kt z p e R s m args below meth c H locs cells slots mc ms ls C hl hP hS hR) (fun z => kf z p e R s m args below meth c H locs cells slots mc ms ls C hl hP hS hR)
theorem e_if_ge {x : Int32} {off : Int} {tgt : Nat} (d : decode μ.2.1 pc = .ok (.ifCond .ge off, 3)) (ht : (pc : Int) + off = (tgt : Int)) (kt : 0 ≤ x → q_Ev l G μ fr lo cc ss tgt lv st h N Q) (kf : ¬ 0 ≤ x → q_Ev l G μ fr lo cc ss (pc + 3) lv st h N Q) : q_Ev l G μ fr lo cc ss pc lv (.int x :: st) h N Q :=
  fun p e R s m args below meth c H locs cells slots mc ms ls C hl hP hS hR => lv_if_ge C.1 C.2.1 d ht (fun z => kt z p e R s m args below meth c H locs cells slots mc ms ls C hl hP hS hR) (fun z => kf z p e R s m args below meth c H locs cells slots mc ms ls C hl hP hS hR)
theorem e_if_gt {x : Int32} {off : Int} {tgt : Nat} (d : decode μ.2.1 pc = .ok (.ifCond .gt off, 3)) (ht : (pc : Int) + off = (tgt : Int)) (kt : 0 < x → q_Ev l G μ fr lo cc ss tgt lv st h N Q) (kf : ¬ 0 < x → q_Ev l G μ fr lo cc ss (pc + 3) lv st h N Q) : q_Ev l G μ fr lo cc ss pc lv (.int x :: st) h N Q :=
  fun p e R s m args below meth c H locs cells slots mc ms ls C hl hP hS hR => lv_if_gt C.1 C.2.1 d ht (fun z => kt z p e R s m args below meth c H locs cells slots mc ms ls C hl hP hS hR) (fun z => kf z p e R s m args below meth c H locs cells slots mc ms ls C hl hP hS hR)
theorem e_if_le {x : Int32} {off : Int} {tgt : Nat} (d : decode μ.2.1 pc = .ok (.ifCond .le off, 3)) (ht : (pc : Int) + off = (tgt : Int)) (kt : x ≤ 0 → q_Ev l G μ fr lo cc ss tgt lv st h N Q) (kf : ¬ x ≤ 0 → q_Ev l G μ fr lo cc ss (pc + 3) lv st h N Q) : q_Ev l G μ fr lo cc ss pc lv (.int x :: st) h N Q :=
  fun p e R s m args below meth c H locs cells slots mc ms ls C hl hP hS hR => lv_if_le C.1 C.2.1 d ht (fun z => kt z p e R s m args below meth c H locs cells slots mc ms ls C hl hP hS hR) (fun z => kf z p e R s m args below meth c H locs cells slots mc ms ls C hl hP hS hR)
theorem e_icmp_eq {x y : Int32} {off : Int} {tgt : Nat} (d : decode μ.2.1 pc = .ok (.if_icmp .eq off, 3)) (ht : (pc : Int) + off = (tgt : Int)) (kt : x = y → q_Ev l G μ fr lo cc ss tgt lv st h N Q) (kf : ¬ x = y → q_Ev l G μ fr lo cc ss (pc + 3) lv st h N Q) : q_Ev l G μ fr lo cc ss pc lv (.int y :: .int x :: st) h N Q :=
  fun p e R s m args below meth c H locs cells slots mc ms ls C hl hP hS hR => lv_icmp_eq C.1 C.2.1 d ht (fun z => kt z p e R s m args below meth c H locs cells slots mc ms ls C hl hP hS hR) (fun z => kf z p e R s m args below meth c H locs cells slots mc ms ls C hl hP hS hR)
theorem e_icmp_ne {x y : Int32} {off : Int} {tgt : Nat} (d : decode μ.2.1 pc = .ok (.if_icmp .ne off, 3)) (ht : (pc : Int) + off = (tgt : Int)) (kt : ¬ x = y → q_Ev l G μ fr lo cc ss tgt lv st h N Q) (kf : x = y → q_Ev l G μ fr lo cc ss (pc + 3) lv st h N Q) : q_Ev l G μ fr lo cc ss pc lv (.int y :: .int x :: st) h N Q :=
  fun p e R s m args below meth c H locs cells slots mc ms ls C hl hP hS hR => lv_icmp_ne C.1 C.2.1 d ht (fun z => kt z p e R s m args below meth c H locs cells slots mc ms ls C hl hP hS hR) (fun z => kf z p e R s m args below meth c H locs cells slots mc ms ls C hl hP hS hR)
theorem e_icmp_lt {x y : Int32} {off : Int} {tgt : Nat} (d : decode μ.2.1 pc = .ok (.if_icmp .lt off, 3)) (ht : (pc : Int) + off = (tgt : Int)) (kt : x < y → q_Ev l G μ fr lo cc ss tgt lv st h N Q) (kf : ¬ x < y → q_Ev l G μ fr lo cc ss (pc + 3) lv st h N Q) : q_Ev l G μ fr lo cc ss pc lv (.int y :: .int x :: st) h N Q :=
  fun p e R s m args below meth c H locs cells slots mc ms ls C hl hP hS hR => lv_icmp_lt C.1 C.2.1 d ht (fun z => kt z p e R s m args below meth c H locs cells slots mc ms ls C hl hP hS hR) (fun z => kf z p e R s m args below meth c H locs cells slots mc ms ls C hl hP hS hR)
theorem e_icmp_ge {x y : Int32} {off : Int} {tgt : Nat} (d : decode μ.2.1 pc = .ok (.if_icmp .ge off, 3)) (ht : (pc : Int) + off = (tgt : Int)) (kt : y ≤ x → q_Ev l G μ fr lo cc ss tgt lv st h N Q) (kf : ¬ y ≤ x → q_Ev l G μ fr lo cc ss (pc + 3) lv st h N Q) : q_Ev l G μ fr lo cc ss pc lv (.int y :: .int x :: st) h N Q :=
  fun p e R s m args below meth c H locs cells slots mc ms ls C hl hP hS hR => lv_icmp_ge C.1 C.2.1 d ht (fun z => kt z p e R s m args below meth c H locs cells slots mc ms ls C hl hP hS hR) (fun z => kf z p e R s m args below meth c H locs cells slots mc ms ls C hl hP hS hR)
theorem e_icmp_gt {x y : Int32} {off : Int} {tgt : Nat} (d : decode μ.2.1 pc = .ok (.if_icmp .gt off, 3)) (ht : (pc : Int) + off = (tgt : Int)) (kt : y < x → q_Ev l G μ fr lo cc ss tgt lv st h N Q) (kf : ¬ y < x → q_Ev l G μ fr lo cc ss (pc + 3) lv st h N Q) : q_Ev l G μ fr lo cc ss pc lv (.int y :: .int x :: st) h N Q :=
  fun p e R s m args below meth c H locs cells slots mc ms ls C hl hP hS hR => lv_icmp_gt C.1 C.2.1 d ht (fun z => kt z p e R s m args below meth c H locs cells slots mc ms ls C hl hP hS hR) (fun z => kf z p e R s m args below meth c H locs cells slots mc ms ls C hl hP hS hR)
theorem e_icmp_le {x y : Int32} {off : Int} {tgt : Nat} (d : decode μ.2.1 pc = .ok (.if_icmp .le off, 3)) (ht : (pc : Int) + off = (tgt : Int)) (kt : x ≤ y → q_Ev l G μ fr lo cc ss tgt lv st h N Q) (kf : ¬ x ≤ y → q_Ev l G μ fr lo cc ss (pc + 3) lv st h N Q) : q_Ev l G μ fr lo cc ss pc lv (.int y :: .int x :: st) h N Q :=
  fun p e R s m args below meth c H locs cells slots mc ms ls C hl hP hS hR => lv_icmp_le C.1 C.2.1 d ht (fun z => kt z p e R s m args below meth c H locs cells slots mc ms ls C hl hP hS hR) (fun z => kf z p e R s m args below meth c H locs cells slots mc ms ls C hl hP hS hR)
theorem e_tableOut {dflt a b : Int} {offs : Array Int} {len : Nat} {x : Int32} {tgt : Nat} (d : decode μ.2.1 pc = .ok (.tableswitch dflt a b offs, len)) (hx : x.toInt < a ∨ b < x.toInt) (ht : (pc : Int) + dflt = (tgt : Int)) (k : q_Ev l G μ fr lo cc ss tgt lv st h N Q) : q_Ev l G μ fr lo cc ss pc lv (.int x :: st) h N Q :=
  fun p e R s m args below meth c H locs cells slots mc ms ls C hl hP hS hR => lv_tableOut C.1 C.2.1 d hx ht (k p e R s m args below meth c H locs cells slots mc ms ls C hl hP hS hR)
theorem e_tableIn {dflt a b : Int} {offs : Array Int} {len : Nat} {x : Int32} {off : Int} {tgt : Nat} (d : decode μ.2.1 pc = .ok (.tableswitch dflt a b offs, len)) (h1 : ¬ x.toInt < a) (h2 : ¬ b < x.toInt) (ho : offs[(x.toInt - a).toNat]? = some off) (ht : (pc : Int) + off = (tgt : Int)) (k : q_Ev l G μ fr lo cc ss tgt lv st h N Q) : q_Ev l G μ fr lo cc ss pc lv (.int x :: st) h N Q :=
  fun p e R s m args below meth c H locs cells slots mc ms ls C hl hP hS hR => lv_tableIn C.1 C.2.1 d h1 h2 ho ht (k p e R s m args below meth c H locs cells slots mc ms ls C hl hP hS hR)
theorem e_lookup {dflt : Int} {ps : Array (Int × Int)} {len : Nat} {x : Int32} {off : Int} {tgt : Nat} (d : decode μ.2.1 pc = .ok (.lookupswitch dflt ps, len)) (hp : (ps.toList.zip (ps.toList.drop 1)).all (fun (a, next) => a.1 < next.1) = true) (ho : Op.lookupswitch.offset ps.toList dflt x.toInt = off) (ht : (pc : Int) + off = (tgt : Int)) (k : q_Ev l G μ fr lo cc ss tgt lv st h N Q) : q_Ev l G μ fr lo cc ss pc lv (.int x :: st) h N Q :=
  fun p e R s m args below meth c H locs cells slots mc ms ls C hl hP hS hR => lv_lookup C.1 C.2.1 d hp ho ht (k p e R s m args below meth c H locs cells slots mc ms ls C hl hP hS hR)
theorem e_iret {v : Int32} (d : decode μ.2.1 pc = .ok (.ireturn, 1)) (hr : μ.2.2.2.1 = some .int) (hq : Q (.inl (some (.int v))) h N) : q_Ev l G μ fr lo cc ss pc lv [.int v] h N Q := by
  intro p e R s m args below meth c H locs cells slots mc ms ls C hl hP hS hR
  refine W.widen (k := mc) (n := ms) (by omega) (by omega) (vx_ret ?_)
  exact W.iret (v := v) C.1 C.2.1 (C.2.2.1.trans hr) (fun t ht hW => ⟨some (.int v), h, N, rfl, hq, by rw [ht]; exact hP, hS.F ht⟩) (fun q hq => hS.2.2 q hq) d C.2.2.2.2.2.2.1
theorem e_vret (d : decode μ.2.1 pc = .ok (.return_, 1)) (hr : μ.2.2.2.1 = none) (hq : Q (.inl (none)) h N) : q_Ev l G μ fr lo cc ss pc lv [] h N Q := by
  intro p e R s m args below meth c H locs cells slots mc ms ls C hl hP hS hR
  refine W.widen (k := mc) (n := ms) (by omega) (by omega) (vx_ret ?_)
  exact W.vret C.1 C.2.1 (C.2.2.1.trans hr) (fun t ht hW => ⟨none, h, N, rfl, hq, by rw [ht]; exact hP, hS.F ht⟩) (fun q hq => hS.2.2 q hq) d C.2.2.2.2.2.2.1
theorem e_zret {v : Int32} (d : decode μ.2.1 pc = .ok (.ireturn, 1)) (hr : μ.2.2.2.1 = some .boolean) (hn : narrow .boolean (.int v) = .int v) (hq : Q (.inl (some (.int v))) h N) : q_Ev l G μ fr lo cc ss pc lv [.int v] h N Q := by
  intro p e R s m args below meth c H locs cells slots mc ms ls C hl hP hS hR
  refine W.widen (k := mc) (n := ms) (by omega) (by omega) (vx_ret ?_)
  exact W.zret (v := v) C.1 C.2.1 (C.2.2.1.trans hr) hn (fun t ht hW => ⟨some (.int v), h, N, rfl, hq, by rw [ht]; exact hP, hS.F ht⟩) (fun q hq => hS.2.2 q hq) d C.2.2.2.2.2.2.1
theorem e_aret {a : Nat} {cn : String} (d : decode μ.2.1 pc = .ok (.areturn, 1)) (hr : μ.2.2.2.1 = some (.object cn)) (hq : Q (.inl (some (.ref a))) h N) : q_Ev l G μ fr lo cc ss pc lv [.ref a] h N Q := by
  intro p e R s m args below meth c H locs cells slots mc ms ls C hl hP hS hR
  refine W.widen (k := mc) (n := ms) (by omega) (by omega) (vx_ret ?_)
  exact W.aret (v := .ref (q_ad G a)) C.1 C.2.1 (C.2.2.1.trans hr) (Or.inl ⟨_, rfl⟩) (Or.inr ⟨_, rfl⟩) (fun t ht hW => ⟨some (.ref a), h, N, rfl, hq, by rw [ht]; exact hP, hS.F ht⟩) (fun q hq => hS.2.2 q hq) d C.2.2.2.2.2.2.1
theorem q_Ev.mono {Q' : q_Q} (k : q_Ev l G μ fr lo cc ss pc lv st h N Q') (hq : ∀ o h N, Q' o h N → Q o h N) : q_Ev l G μ fr lo cc ss pc lv st h N Q := by
  intro p e R s m args below meth c H locs cells slots mc ms ls C hl hP hS hR
  intro T hT X
  obtain ⟨t, a1, o, b1, b2, b3⟩ := k p e R s m args below meth c H locs cells slots mc ms ls C hl hP hS hR T hT X
  refine ⟨t, a1, o, b1, b2, ?_⟩
  rcases b3 with ⟨⟨r, h', N', c1, c2, c3⟩, c4⟩ | ⟨q, c1, E, ce, L, ⟨h', N', c2, c3⟩, c4⟩
  · exact Or.inl ⟨⟨r, h', N', c1, hq _ _ _ c2, c3⟩, c4⟩
  · exact Or.inr ⟨q, c1, E, ce, L, ⟨h', N', hq _ _ _ c2, c3⟩, c4⟩
theorem q_Ev.room {fr' lo' cc' ss' : Nat} (k : q_Ev l G μ fr' lo' cc' ss' pc lv st h N Q) (h1 : fr' ≤ fr) (h2 : lo' ≤ lo) (h3 : cc' ≤ cc) (h4 : ss' ≤ ss) : q_Ev l G μ fr lo cc ss pc lv st h N Q := by
  intro p e R s m args below meth c H locs cells slots mc ms ls C hl hP hS hR
  exact k p e R s m args below meth c H locs cells slots mc ms ls C hl hP hS (by omega)
/-- fewer locals are known -/
theorem q_Ev.loc {lv' : List (Option Value)} (k : q_Ev l G μ fr lo cc ss pc lv' st h N Q) (hs : ∀ (i : Nat) (v : Value), lv'[i]? = some (some v) → lv[i]? = some (some v)) : q_Ev l G μ fr lo cc ss pc lv st h N Q := by
  intro p e R s m args below meth c H locs cells slots mc ms ls C hl hP hS hR
  exact k p e R s m args below meth c H locs cells slots mc ms ls C ⟨hl.1, hl.2.1, fun i v hi => hl.2.2 i v (hs i v hi)⟩ hP hS hR
end QR
end
section
/-! THE LOGIC'S ROWS for the heap: fields, arrays, new cells -/
theorem q_ad_ne {G : q_G} {k j : Nat} (hk : 0 < k) (hj : 0 < j) (h : j ≠ k) : q_ad G j ≠ q_ad G k := by
  cases k with
  | zero => omega
  | succ k =>
    cases j with
    | zero => omega
    | succ j =>
      show G.2.2.2.1 + j ≠ G.2.2.2.1 + k
      omega
theorem q_ad_A {G : q_G} {k : Nat} (hk : 0 < k) : q_A G (q_ad G k) := by
  cases k with
  | zero => omega
  | succ k => exact Nat.le_add_right _ _
theorem q_P.set {G : q_G} {h : q_H} {N k : Nat} {H H1 : Heap} {e0 e : q_E} (hP : q_P G h N H) (hk : h k = some e0) (hz : H1.size = H.size) (he : va_at G.1 q_cl (q_ad G k, q_e G e) H1) (oq : ∀ q : Nat, q ≠ q_ad G k → H1[q]? = H[q]?) : q_P G (q_up h k e) N H1 := by
  refine ⟨hz.trans hP.1, fun j e2 hj => ?_⟩
  unfold q_up at hj
  by_cases c : j = k
  · subst c
    rw [if_pos rfl] at hj
    cases hj
    exact ⟨(hP.2 j e0 hk).1, (hP.2 j e0 hk).2.1, he⟩
  · rw [if_neg c] at hj
    obtain ⟨a1, a2, a3⟩ := hP.2 j e2 hj
    exact ⟨a1, a2, a3.kept (oq _ (q_ad_ne (hP.2 k e0 hk).1 a1 c))⟩
theorem q_ad_new (G : q_G) (N : Nat) : q_ad G (N + 1) = G.2.2.2.1 + N := rfl
theorem q_P.new {G : q_G} {h : q_H} {N : Nat} {H H1 : Heap} {e : q_E} (hP : q_P G h N H) (hz : H1.size = H.size + 1) (he : va_at G.1 q_cl (H.size, q_e G e) H1) (oq : ∀ q : Nat, q < H.size → H1[q]? = H[q]?) : q_P G (q_up h (N + 1) e) (N + 1) H1 := by
  refine ⟨by rw [hz, hP.1]; omega, fun j e2 hj => ?_⟩
  unfold q_up at hj
  by_cases c : j = N + 1
  · subst c
    rw [if_pos rfl] at hj
    cases hj
    refine ⟨by omega, Nat.le_refl _, ?_⟩
    rw [q_ad_new, ← hP.1]
    exact he
  · rw [if_neg c] at hj
    obtain ⟨a1, a2, a3⟩ := hP.2 j e2 hj
    exact ⟨a1, by omega, a3.kept (oq _ a3.lt)⟩
theorem q_S.grow {A : Nat → Prop} {H0 H H1 : Heap} {locs : List Loc} (hS : va_S A H0 H locs) (hz : H1.size = H.size + 1) (oq : ∀ q : Nat, q < H.size → H1[q]? = H[q]?) : va_S A H0 H1 locs := ⟨Nat.le_trans hS.1 (by omega), fun x h1 h2 => (oq x (Nat.lt_of_lt_of_le h1 hS.1)).trans (hS.2.1 x h1 h2), hS.2.2⟩
theorem q_one {D : va_G} {cl : List vw_C} {x : Nat × va_E} {H : Heap} (h : va_at D cl x H) : va_P D cl [x] H := fun j q hj => by
  cases j with
  | zero => cases hj; exact h
  | succ j => simp at hj
abbrev q_ai (n : Nat) (f : Nat → Int32) : q_E := .inl (0, n, .inl f)
abbrev q_az (n : Nat) (f : Nat → Int32) : q_E := .inl (2, n, .inl f)
abbrev q_al (n : Nat) (f : Nat → Int64) : q_E := .inl (1, n, .inr (.inl f))
abbrev q_ar (t n : Nat) (f : Nat → Option Nat) : q_E := .inl (t, n, .inr (.inr (.inr (.inr f))))
/-- a field, by the place in a class's pool: class ci, its field k, its type, final or not -/
def q_F (own : String) (idx ci k : Nat) (ty : FieldType) (fin : Bool) : Prop := ∃ (C : String) (T : u_T) (n : Nat) (ty0 : Nat → FieldType), q_cl[ci]? = some (C, T, n) ∧ (∀ w ∈ u_ws C T n, w ∈ q_good) ∧ (∀ j, j < n → parseFieldDescriptor (T j).2.2.1 = some (ty0 j)) ∧ (∀ a, a < n → ∀ b, b < n → a ≠ b → (T a).2.1 ≠ (T b).2.1) ∧ k < n ∧ Cond.fieldLink own idx C (T k).2.1 (T k).2.2.1 ∈ q_good ∧ (T k).1 = C ∧ parseFieldDescriptor (T k).2.2.1 = some ty ∧ (T k).2.2.2 = fin
section QH
variable {l : Launch} {G : q_G} {μ : q_M} {fr lo cc ss pc N : Nat} {lv : List (Option Value)} {st : List Value} {h : q_H} {Q : q_Q}
/-- what lies beyond the cells made is none -/
theorem e_fresh (k : (∀ j, N < j → h j = none) → h 0 = none → q_Ev l G μ fr lo cc ss pc lv st h N Q) : q_Ev l G μ fr lo cc ss pc lv st h N Q := by
  intro p e R s m args below meth c H locs cells slots mc ms ls C hl hP hS hR
  refine k (fun j hj => ?_) ?_ p e R s m args below meth c H locs cells slots mc ms ls C hl hP hS hR
  · cases hx : h j with
    | none => rfl
    | some x => exact absurd (hP.2 j x hx).2.1 (by omega)
  · cases hx : h 0 with
    | none => rfl
    | some x => exact absurd (hP.2 0 x hx).1 (by omega)
theorem e_get {a ci k idx : Nat} {fs : List Value} {ty : FieldType} {fin : Bool} {v : Value} (d : decode μ.2.1 pc = .ok (.getfield idx, 3)) (hf : q_F μ.1.cls idx ci k ty fin) (ha : h a = some (.inr (ci, fs))) (hv : fs[k]? = some v) (kk : q_Ev l G μ fr lo cc ss (pc + 3) lv (v :: st) h N Q) : q_Ev l G μ fr lo cc ss pc lv (.ref a :: st) h N Q := by
  intro p e R s m args below meth c H locs cells slots mc ms ls C hl hP hS hR
  obtain ⟨Cn, T, n, ty0, f1, f2, f3, f4, f5, f6, f7, f8, f9⟩ := hf
  obtain ⟨hx, hb, hr, hml, hown, hts, hlk, htb, hnm, htr, hK⟩ := id C
  exact va_get (D := G.1) (cl := q_cl) (tys := q_ty G) (ws := [(q_ad G a, .inr (ci, fs.map (q_v G)))]) (v := q_v G v) hx hb hts f2 hown hK.1 (q_one (hP.2 a _ ha).2.2) 0 rfl f1 k f5 (hts _ f6) (fun x hx => by rw [f7] at hx; exact hx) (by simp [hv]) d (kk p e R s m args below meth c H locs cells slots mc ms ls C hl hP hS hR)
theorem e_put {a ci k idx : Nat} {fs : List Value} {ty : FieldType} {v : Value} (d : decode μ.2.1 pc = .ok (.putfield idx, 3)) (hf : q_F μ.1.cls idx ci k ty false) (ha : h a = some (.inr (ci, fs))) (hl0 : k < fs.length) (hn : ∀ G : q_G, narrow ty (q_v G v) = q_v G v) (hft : ∀ G : q_G, fits ty (q_v G v) = true) (kk : q_Ev l G μ fr lo cc ss (pc + 3) lv st (q_up h a (.inr (ci, fs.set k v))) N Q) : q_Ev l G μ fr lo cc ss pc lv (v :: .ref a :: st) h N Q := by
  intro p e R s m args below meth c H locs cells slots mc ms ls C hl hP hS hR
  obtain ⟨Cn, T, n, ty0, f1, f2, f3, f4, f5, f6, f7, f8, f9⟩ := hf
  obtain ⟨hx, hb, hr, hml, hown, hts, hlk, htb, hnm, htr, hK⟩ := id C
  have hap := va_apart (own := μ.1.cls) hts f2 ty0 f3 f4 hK.1 f1
  have hpos := (hP.2 a _ ha).1
  obtain ⟨r, h1, cell, q1, q2, q3, q4⟩ := (hP.2 a _ ha).2.2
  have hr9 : r = (Cn, T, n) := Option.some.inj (h1.symm.trans f1)
  subst hr9
  obtain ⟨hS9, hfc, kC, hkC, hkind⟩ := hK.1.1 ci _ f1
  obtain ⟨cf, kf, fi, f, hi, hsl⟩ := hS9 k f5
  have hlay := hts _ (f2 _ (u_in_lay f5))
  unfold u_lay at hlay
  rw [if_neg (by rw [f9]; decide)] at hlay
  have hst := (u_facts hfc hkC (u_lays hts f2 f5) hi).1
  have h6 := u_store hfc hkC hkind hlay hi f8 (hn G) (hft G)
  refine W.putK hx hb (f := f) ⟨hown, hts _ f6, ⟨_, _, _, by rw [f7] at hi; exact hi⟩, hst⟩ (by rw [q2]; exact h6) q1 q3 (by rw [hsl]; exact k2_hasslot (q4 k f5)) rfl rfl d fun H' e1 e2 e3 => ?_
  rw [hsl] at e1 ⊢
  refine kk p e R s m args below meth c H' _ cells slots mc ms ls C hl (hP.set ha e2 ⟨_, f1, ?_⟩ e3) (hS.put e2 e3 (q_ad_A hpos)) hR
  refine t_OB.to (V := updV (vp_V (fs.map (q_v G))) k (q_v G v)) ⟨_, e1, q2, q3, t_set q4 hap f5 (q_v G v)⟩ (fun j _ => ?_)
  rw [vp_updV_set (by simpa using hl0)]
  simp only [List.map_set]
theorem e_putF {a ci k idx : Nat} {fs : List Value} {ty : FieldType} {v : Value} (d : decode μ.2.1 pc = .ok (.putfield idx, 3)) (hf : q_F μ.1.cls idx ci k ty true) (hin : μ.1.name = "<init>") (hcl : (q_cl[ci]?).map (fun r => r.1) = some μ.1.cls) (ha : h a = some (.inr (ci, fs))) (hl0 : k < fs.length) (hn : ∀ G : q_G, narrow ty (q_v G v) = q_v G v) (hft : ∀ G : q_G, fits ty (q_v G v) = true) (kk : q_Ev l G μ fr lo cc ss (pc + 3) lv st (q_up h a (.inr (ci, fs.set k v))) N Q) : q_Ev l G μ fr lo cc ss pc lv (v :: .ref a :: st) h N Q := by
  intro p e R s m args below meth c H locs cells slots mc ms ls C hl hP hS hR
  obtain ⟨Cn, T, n, ty0, f1, f2, f3, f4, f5, f6, f7, f8, f9⟩ := hf
  obtain ⟨hx, hb, hr, hml, hown, hts, hlk, htb, hnm, htr, hK⟩ := id C
  have hCn : Cn = μ.1.cls := by rw [f1] at hcl; exact Option.some.inj hcl
  have hap := va_apart (own := μ.1.cls) hts f2 ty0 f3 f4 hK.1 f1
  have hpos := (hP.2 a _ ha).1
  obtain ⟨r, h1, cell, q1, q2, q3, q4⟩ := (hP.2 a _ ha).2.2
  have hr9 : r = (Cn, T, n) := Option.some.inj (h1.symm.trans f1)
  subst hr9
  obtain ⟨hS9, hfc, kC, hkC, hkind⟩ := hK.1.1 ci _ f1
  obtain ⟨cf, kf, fi, f, hi, hsl⟩ := hS9 k f5
  have hlay := hts _ (f2 _ (u_in_lay f5))
  unfold u_lay at hlay
  rw [if_pos f9] at hlay
  have hst := (u_facts hfc hkC (u_lays hts f2 f5) hi).1
  have hcf : m.cls = cf := by
    obtain ⟨_, _, c', _, _, _, -, -, hf', -, -, -, hown2, -⟩ := Cond.laysFinal_spec hlay
    have e1 : c' = cf := by have := hi.symm.trans hf'; simp at this; exact this.1.symm
    rw [f7, hCn] at hown2
    rw [← e1]; exact Option.some.inj (hown.symm.trans hown2)
  have h6 := u_fits hfc hkC hkind (Or.inr hlay) hi f8 (hn G) (hft G)
  refine W.putFinK hx hb hown (hts _ f6) (by rw [f7] at hi; exact hi) hst hcf (hnm.trans hin) (by rw [q2]; exact h6) q1 q3 (by rw [hsl]; exact k2_hasslot (q4 k f5)) rfl rfl d fun H' e1 e2 e3 => ?_
  rw [hsl] at e1 ⊢
  refine kk p e R s m args below meth c H' _ cells slots mc ms ls C hl (hP.set ha e2 ⟨_, f1, ?_⟩ e3) (hS.put e2 e3 (q_ad_A hpos)) hR
  refine t_OB.to (V := updV (vp_V (fs.map (q_v G))) k (q_v G v)) ⟨_, e1, q2, q3, t_set q4 hap f5 (q_v G v)⟩ (fun j _ => ?_)
  rw [vp_updV_set (by simpa using hl0)]
  simp only [List.map_set]
theorem e_iald {a n : Nat} {f : Nat → Int32} {i : Int32} (d : decode μ.2.1 pc = .ok (.iaload, 1)) (ha : h a = some (q_ai n f)) (hi : vp_in i n) (kk : q_Ev l G μ fr lo cc ss (pc + 1) lv (.int (f i.toNatClampNeg) :: st) h N Q) : q_Ev l G μ fr lo cc ss pc lv (.int i :: .ref a :: st) h N Q := by
  intro p e R s m args below meth c H locs cells slots mc ms ls C hl hP hS hR
  obtain ⟨hx, hb, hr, hml, hown, hts, hlk, htb, hnm, htr, hK⟩ := id C
  exact va_iald (D := G.1) (cl := q_cl) (tys := q_ty G) (ws := [(q_ad G a, .inl (G.2.1 0, n, .inl f))]) hx hb hK.1 (q_one (hP.2 a _ ha).2.2) 0 0 rfl rfl hi d (kk p e R s m args below meth c H locs cells slots mc ms ls C hl hP hS hR)
theorem e_zald {a n : Nat} {f : Nat → Int32} {i : Int32} (d : decode μ.2.1 pc = .ok (.baload, 1)) (ha : h a = some (q_az n f)) (hi : vp_in i n) (kk : q_Ev l G μ fr lo cc ss (pc + 1) lv (.int (f i.toNatClampNeg) :: st) h N Q) : q_Ev l G μ fr lo cc ss pc lv (.int i :: .ref a :: st) h N Q := by
  intro p e R s m args below meth c H locs cells slots mc ms ls C hl hP hS hR
  obtain ⟨hx, hb, hr, hml, hown, hts, hlk, htb, hnm, htr, hK⟩ := id C
  exact va_zald (D := G.1) (cl := q_cl) (tys := q_ty G) (ws := [(q_ad G a, .inl (G.2.1 2, n, .inl f))]) hx hb hK.1 (q_one (hP.2 a _ ha).2.2) 0 2 rfl rfl hi d (kk p e R s m args below meth c H locs cells slots mc ms ls C hl hP hS hR)
theorem e_lald {a n : Nat} {f : Nat → Int64} {i : Int32} (d : decode μ.2.1 pc = .ok (.laload, 1)) (ha : h a = some (q_al n f)) (hi : vp_in i n) (kk : q_Ev l G μ fr lo cc ss (pc + 1) lv (.long (f i.toNatClampNeg) :: st) h N Q) : q_Ev l G μ fr lo cc ss pc lv (.int i :: .ref a :: st) h N Q := by
  intro p e R s m args below meth c H locs cells slots mc ms ls C hl hP hS hR
  obtain ⟨hx, hb, hr, hml, hown, hts, hlk, htb, hnm, htr, hK⟩ := id C
  exact va_lald (D := G.1) (cl := q_cl) (tys := q_ty G) (ws := [(q_ad G a, .inl (G.2.1 1, n, .inr (.inl f)))]) hx hb hK.1 (q_one (hP.2 a _ ha).2.2) 0 1 rfl rfl hi d (kk p e R s m args below meth c H locs cells slots mc ms ls C hl hP hS hR)
theorem e_aald {a t n : Nat} {C0 : String} {f : Nat → Option Nat} {i : Int32} {x : Nat} (d : decode μ.2.1 pc = .ok (.aaload, 1)) (ha : h a = some (q_ar t n f)) (ht : ∀ G : q_G, (q_ty G)[t]? = some (G.2.1 t, .object C0)) (hi : vp_in i n) (hx0 : f i.toNatClampNeg = some x) (kk : q_Ev l G μ fr lo cc ss (pc + 1) lv (.ref x :: st) h N Q) : q_Ev l G μ fr lo cc ss pc lv (.int i :: .ref a :: st) h N Q := by
  intro p e R s m args below meth c H locs cells slots mc ms ls C hl hP hS hR
  obtain ⟨hx, hb, hr, hml, hown, hts, hlk, htb, hnm, htr, hK⟩ := id C
  refine va_aldq (D := G.1) (cl := q_cl) (tys := q_ty G) (ws := [(q_ad G a, .inl (G.2.1 t, n, .inr (.inr (.inr (.inr (fun j => (f j).map (q_ad G)))))))]) hx hb hK.1 (q_one (hP.2 a _ ha).2.2) 0 t rfl (ht G) hi d ?_
  rw [hx0]
  exact kk p e R s m args below meth c H locs cells slots mc ms ls C hl hP hS hR
theorem e_iast {a n : Nat} {f : Nat → Int32} {i x : Int32} (d : decode μ.2.1 pc = .ok (.iastore, 1)) (ha : h a = some (q_ai n f)) (hi : vp_in i n) (kk : q_Ev l G μ fr lo cc ss (pc + 1) lv st (q_up h a (q_ai n (upd f i.toNatClampNeg x))) N Q) : q_Ev l G μ fr lo cc ss pc lv (.int x :: .int i :: .ref a :: st) h N Q := by
  intro p e R s m args below meth c H locs cells slots mc ms ls C hl hP hS hR
  obtain ⟨hx, hb, hr, hml, hown, hts, hlk, htb, hnm, htr, hK⟩ := id C
  have hpos := (hP.2 a _ ha).1
  have hat : H[q_ad G a]? = some (arrV (G.2.1 0) n (fun j => .int (f j))) := (hP.2 a _ ha).2.2
  refine W.iast hx hb hat ((hK.1.2 0 _ rfl).1 n (fun j => .int (f j))) (fun q => by cases q) (by rw [arrV_size]; exact hi) rfl rfl d fun H1 e1 z oq => ?_
  refine kk p e R s m args below meth c H1 _ cells slots mc ms ls C hl (hP.set ha z ?_ oq) (hS.put z oq (q_ad_A hpos)) hR
  show H1[q_ad G a]? = some (arrV (G.2.1 0) n (fun j => .int (upd f i.toNatClampNeg x j)))
  rw [e1, arrV_store]
  congr 2
  funext q
  by_cases hq : q = i.toNatClampNeg
  · subst hq
    simp [updV, upd]
  · simp [updV, upd, hq]
theorem e_zast {a n : Nat} {f : Nat → Int32} {i x : Int32} (d : decode μ.2.1 pc = .ok (.bastore, 1)) (ha : h a = some (q_az n f)) (hi : vp_in i n) (hn : narrow .boolean (.int x) = .int x) (kk : q_Ev l G μ fr lo cc ss (pc + 1) lv st (q_up h a (q_az n (upd f i.toNatClampNeg x))) N Q) : q_Ev l G μ fr lo cc ss pc lv (.int x :: .int i :: .ref a :: st) h N Q := by
  intro p e R s m args below meth c H locs cells slots mc ms ls C hl hP hS hR
  obtain ⟨hx, hb, hr, hml, hown, hts, hlk, htb, hnm, htr, hK⟩ := id C
  have hpos := (hP.2 a _ ha).1
  have hat : H[q_ad G a]? = some (arrV (G.2.1 2) n (fun j => .int (f j))) := (hP.2 a _ ha).2.2
  refine W.zast hx hb hat ((hK.1.2 2 _ rfl).1 n (fun j => .int (f j))) (fun q => by cases q) (by rw [arrV_size]; exact hi) rfl rfl d fun H1 e1 z oq => ?_
  refine kk p e R s m args below meth c H1 _ cells slots mc ms ls C hl (hP.set ha z ?_ oq) (hS.put z oq (q_ad_A hpos)) hR
  show H1[q_ad G a]? = some (arrV (G.2.1 2) n (fun j => .int (upd f i.toNatClampNeg x j)))
  rw [e1, hn, arrV_store]
  congr 2
  funext q
  by_cases hq : q = i.toNatClampNeg
  · subst hq
    simp [updV, upd]
  · simp [updV, upd, hq]
theorem e_last {a n : Nat} {f : Nat → Int64} {i : Int32} {x : Int64} (d : decode μ.2.1 pc = .ok (.lastore, 1)) (ha : h a = some (q_al n f)) (hi : vp_in i n) (kk : q_Ev l G μ fr lo cc ss (pc + 1) lv st (q_up h a (q_al n (vp_updL f i.toNatClampNeg x))) N Q) : q_Ev l G μ fr lo cc ss pc lv (.long x :: .int i :: .ref a :: st) h N Q := by
  intro p e R s m args below meth c H locs cells slots mc ms ls C hl hP hS hR
  obtain ⟨hx, hb, hr, hml, hown, hts, hlk, htb, hnm, htr, hK⟩ := id C
  have hpos := (hP.2 a _ ha).1
  have hat : H[q_ad G a]? = some (arrV (G.2.1 1) n (fun j => .long (f j))) := (hP.2 a _ ha).2.2
  refine W.last hx hb hat ((hK.1.2 1 _ rfl).1 n (fun j => .long (f j))) (fun q => by cases q) (by rw [arrV_size]; exact hi) rfl rfl d fun H1 e1 z oq => ?_
  refine kk p e R s m args below meth c H1 _ cells slots mc ms ls C hl (hP.set ha z ?_ oq) (hS.put z oq (q_ad_A hpos)) hR
  show H1[q_ad G a]? = some (arrV (G.2.1 1) n (fun j => .long (vp_updL f i.toNatClampNeg x j)))
  rw [e1, arrV_store]
  congr 2
  funext q
  by_cases hq : q = i.toNatClampNeg
  · subst hq
    simp [updV, vp_updL]
  · simp [updV, vp_updL, hq]
theorem e_aast {a t n v ci : Nat} {vs : List Value} {r : vw_C} {f : Nat → Option Nat} {i : Int32} (d : decode μ.2.1 pc = .ok (.aastore, 1)) (ha : h a = some (q_ar t n f)) (hv : h v = some (.inr (ci, vs))) (hc : q_cl[ci]? = some r) (ht : ∀ G : q_G, (q_ty G)[t]? = some (G.2.1 t, .object r.1)) (hi : vp_in i n) (kk : q_Ev l G μ fr lo cc ss (pc + 1) lv st (q_up h a (q_ar t n (va_up f i.toNatClampNeg (some v)))) N Q) : q_Ev l G μ fr lo cc ss pc lv (.ref v :: .int i :: .ref a :: st) h N Q := by
  intro p e R s m args below meth c H locs cells slots mc ms ls C hl hP hS hR
  obtain ⟨hx, hb, hr, hml, hown, hts, hlk, htb, hnm, htr, hK⟩ := id C
  have hpos := (hP.2 a _ ha).1
  have hat : H[q_ad G a]? = some (arrV (G.2.1 t) n (fun j => va_rf ((f j).map (q_ad G)))) := (hP.2 a _ ha).2.2
  have hlt : i.toNatClampNeg < n := Nat.not_le.mp fun q => hi (Or.inr q)
  have h0 : ¬ i < 0 := fun q => hi (Or.inl q)
  obtain ⟨r', hr', cellV, g1, g2, g3, -⟩ := (hP.2 v _ hv).2.2
  have hcls := (hK.1.1 ci r hc).2
  obtain ⟨kA, comp, k1, k2, k3, -⟩ := (hK.1.2 t _ (ht G)).2
  have hcomp : comp = G.1.1 ci := Option.some.inj (k3.symm.trans hcls.1)
  subst hcomp
  obtain ⟨kC, hkC, -⟩ := hcls.2
  refine W.aast hx hb hat (fun q h => by cases h) (fun h => by cases h) k1 k2 rfl hkC ⟨h0, by rw [arrV_size]; exact hlt⟩ g1 (fun q h => by rw [g3] at h; cases h) (by rw [g2]; exact hkC) (by rw [g2]; exact va_assign hcls) rfl rfl d fun H1 e1 z oq => ?_
  refine kk p e R s m args below meth c H1 _ cells slots mc ms ls C hl (hP.set ha z ?_ oq) (hS.put z oq (q_ad_A hpos)) hR
  show H1[q_ad G a]? = some (arrV (G.2.1 t) n (fun j => va_rf ((va_up f i.toNatClampNeg (some v) j).map (q_ad G))))
  rw [e1, arrV_store]
  congr 2
  funext q
  by_cases hq : q = i.toNatClampNeg
  · subst hq
    simp [updV, va_up, va_rf]
  · simp [updV, va_up, hq]
theorem e_alen {a t n : Nat} {x : (Nat → Int32) ⊕ (Nat → Int64) ⊕ (Nat → UInt32) ⊕ (Nat → UInt64) ⊕ (Nat → Option Nat)} {ty : FieldType} (d : decode μ.2.1 pc = .ok (.arraylength, 1)) (ha : h a = some (.inl (t, n, x))) (ht : ∀ G : q_G, (q_ty G)[t]? = some (G.2.1 t, ty)) (kk : q_Ev l G μ fr lo cc ss (pc + 1) lv (.int (nI n) :: st) h N Q) : q_Ev l G μ fr lo cc ss pc lv (.ref a :: st) h N Q := by
  intro p e R s m args below meth c H locs cells slots mc ms ls C hl hP hS hR
  obtain ⟨hx, hb, hr, hml, hown, hts, hlk, htb, hnm, htr, hK⟩ := id C
  refine va_alen (D := G.1) (cl := q_cl) (tys := q_ty G) (ws := [(q_ad G a, .inl (G.2.1 t, q_a G (n, x)))]) (v := nI n) hx hb hK.1 (q_one (hP.2 a _ ha).2.2) 0 t rfl (ht G) ?_ d (kk p e R s m args below meth c H locs cells slots mc ms ls C hl hP hS hR)
  rcases x with f | f | f | f | f <;> rfl
theorem e_sld {i : Int32} (d : decode μ.2.1 pc = .ok (.iaload, 1)) (hi : vp_in i G.2.2.2.2.1) (kk : q_Ev l G μ fr lo cc ss (pc + 1) lv (.int (G.2.2.2.2.2 i.toNatClampNeg) :: st) h N Q) : q_Ev l G μ fr lo cc ss pc lv (.int i :: .ref 0 :: st) h N Q := by
  intro p e R s m args below meth c H locs cells slots mc ms ls C hl hP hS hR
  obtain ⟨hx, hb, hr, hml, hown, hts, hlk, htb, hnm, htr, hK⟩ := id C
  exact va_sld hx hb hK.2.1 (Nat.lt_of_lt_of_le hK.2.2.1 hK.2.2.2.1) (Nat.not_le.mpr hK.2.2.1) hS hi d (kk p e R s m args below meth c H locs cells slots mc ms ls C hl hP hS hR)
theorem e_slen (d : decode μ.2.1 pc = .ok (.arraylength, 1)) (kk : q_Ev l G μ fr lo cc ss (pc + 1) lv (.int (nI G.2.2.2.2.1) :: st) h N Q) : q_Ev l G μ fr lo cc ss pc lv (.ref 0 :: st) h N Q := by
  intro p e R s m args below meth c H locs cells slots mc ms ls C hl hP hS hR
  obtain ⟨hx, hb, hr, hml, hown, hts, hlk, htb, hnm, htr, hK⟩ := id C
  exact va_slen hx hb hK.2.1 (Nat.lt_of_lt_of_le hK.2.2.1 hK.2.2.2.1) (Nat.not_le.mpr hK.2.2.1) hS d (kk p e R s m args below meth c H locs cells slots mc ms ls C hl hP hS hR)
end QH
end
section
/-! THE LOGIC'S ROWS for new cells, calls, throws; a method's contract out of its body -/
section QN
variable {l : Launch} {G : q_G} {μ : q_M} {fr lo cc ss pc N : Nat} {lv : List (Option Value)} {st : List Value} {h : q_H} {Q : q_Q}
theorem e_newI {n : Int32} {n' cc' ss' : Nat} (d : decode μ.2.1 pc = .ok (.newarray .int, 2)) (hw : Cond.arrayClass .int ∈ q_good) (hn : ¬ n < 0) (hN : n.toNatClampNeg = n') (hb9 : n' ≤ 1000000) (h1 : cc' + 1 ≤ cc) (h2 : ss' + n' ≤ ss) (kk : q_Ev l G μ fr lo cc' ss' (pc + 2) lv (.ref (N + 1) :: st) (q_up h (N + 1) (q_ai n' (fun _ => 0))) (N + 1) Q) : q_Ev l G μ fr lo cc ss pc lv (.int n :: st) h N Q := by
  intro p e R s m args below meth c H locs cells slots mc ms ls C hl hP hS hR
  obtain ⟨hx, hb, hr, hml, hown, hts, hlk, htb, hnm, htr, hK⟩ := id C
  refine va_newaK (atype := .int) (h := H.size) hx hb (hts _ hw) rfl d rfl hn hN (by show n' * 4 ≤ _; omega) (by omega) (by omega) rfl fun H1 cA e1 z o1 _ f1 => ?_
  have hA : G.2.1 0 = cA := Option.some.inj ((hK.1.2 0 _ rfl).2.symm.trans f1)
  refine W.eq (g2 := F0 m (pc + 2) ls ((.ref (N + 1) :: st : List Value).map (q_v G))) (by show _ = _; rw [hP.1]; rfl) ?_
  exact kk p e R s m args below meth c H1 locs (cells + 1) (slots + n') mc ms ls C hl (hP.new z (by show H1[H.size]? = some (arrV (G.2.1 0) n' (fun _ => .int 0)); rw [e1, hA]; rfl) o1) (q_S.grow hS z o1) (by omega)
theorem e_newZ {n : Int32} {n' cc' ss' : Nat} (d : decode μ.2.1 pc = .ok (.newarray .boolean, 2)) (hw : Cond.arrayClass .boolean ∈ q_good) (hn : ¬ n < 0) (hN : n.toNatClampNeg = n') (hb9 : n' ≤ 1000000) (h1 : cc' + 1 ≤ cc) (h2 : ss' + n' ≤ ss) (kk : q_Ev l G μ fr lo cc' ss' (pc + 2) lv (.ref (N + 1) :: st) (q_up h (N + 1) (q_az n' (fun _ => 0))) (N + 1) Q) : q_Ev l G μ fr lo cc ss pc lv (.int n :: st) h N Q := by
  intro p e R s m args below meth c H locs cells slots mc ms ls C hl hP hS hR
  obtain ⟨hx, hb, hr, hml, hown, hts, hlk, htb, hnm, htr, hK⟩ := id C
  refine va_newaK (atype := .boolean) (h := H.size) hx hb (hts _ hw) rfl d rfl hn hN (by show n' * 1 ≤ _; omega) (by omega) (by omega) rfl fun H1 cA e1 z o1 _ f1 => ?_
  have hA : G.2.1 2 = cA := Option.some.inj ((hK.1.2 2 _ rfl).2.symm.trans f1)
  refine W.eq (g2 := F0 m (pc + 2) ls ((.ref (N + 1) :: st : List Value).map (q_v G))) (by show _ = _; rw [hP.1]; rfl) ?_
  exact kk p e R s m args below meth c H1 locs (cells + 1) (slots + n') mc ms ls C hl (hP.new z (by show H1[H.size]? = some (arrV (G.2.1 2) n' (fun _ => .int 0)); rw [e1, hA]; rfl) o1) (q_S.grow hS z o1) (by omega)
theorem e_newL {n : Int32} {n' cc' ss' : Nat} (d : decode μ.2.1 pc = .ok (.newarray .long, 2)) (hw : Cond.arrayClass .long ∈ q_good) (hn : ¬ n < 0) (hN : n.toNatClampNeg = n') (hb9 : n' ≤ 1000000) (h1 : cc' + 1 ≤ cc) (h2 : ss' + n' ≤ ss) (kk : q_Ev l G μ fr lo cc' ss' (pc + 2) lv (.ref (N + 1) :: st) (q_up h (N + 1) (q_al n' (fun _ => 0))) (N + 1) Q) : q_Ev l G μ fr lo cc ss pc lv (.int n :: st) h N Q := by
  intro p e R s m args below meth c H locs cells slots mc ms ls C hl hP hS hR
  obtain ⟨hx, hb, hr, hml, hown, hts, hlk, htb, hnm, htr, hK⟩ := id C
  refine va_newaK (atype := .long) (h := H.size) hx hb (hts _ hw) rfl d rfl hn hN (by show n' * 8 ≤ _; omega) (by omega) (by omega) rfl fun H1 cA e1 z o1 _ f1 => ?_
  have hA : G.2.1 1 = cA := Option.some.inj ((hK.1.2 1 _ rfl).2.symm.trans f1)
  refine W.eq (g2 := F0 m (pc + 2) ls ((.ref (N + 1) :: st : List Value).map (q_v G))) (by show _ = _; rw [hP.1]; rfl) ?_
  exact kk p e R s m args below meth c H1 locs (cells + 1) (slots + n') mc ms ls C hl (hP.new z (by show H1[H.size]? = some (arrV (G.2.1 1) n' (fun _ => .long 0)); rw [e1, hA]; rfl) o1) (q_S.grow hS z o1) (by omega)
theorem e_newR {n : Int32} {t idx n' cc' ss' : Nat} {C0 : String} (d : decode μ.2.1 pc = .ok (.anewarray idx, 3)) (hw : Cond.classLink μ.1.cls idx C0 ∈ q_good) (hao : C0 ∈ q_ao) (ht : ∀ G : q_G, (q_ty G)[t]? = some (G.2.1 t, .object C0)) (hn : ¬ n < 0) (hN : n.toNatClampNeg = n') (hb9 : n' ≤ 1000000) (h1 : cc' + 1 ≤ cc) (h2 : ss' + n' ≤ ss) (kk : q_Ev l G μ fr lo cc' ss' (pc + 3) lv (.ref (N + 1) :: st) (q_up h (N + 1) (q_ar t n' (fun _ => none))) (N + 1) Q) : q_Ev l G μ fr lo cc ss pc lv (.int n :: st) h N Q := by
  intro p e R s m args below meth c H locs cells slots mc ms ls C hl hP hS hR
  obtain ⟨hx, hb, hr, hml, hown, hts, hlk, htb, hnm, htr, hK⟩ := id C
  subst hN
  refine W.anew hx hb hown (hts _ hw) (va_AO.use (hK.2.2.2.2.2.2.2.2.2 C0 hao)) rfl d rfl hn (by omega) (by omega) (by omega) fun cA kA comp f1 f2 f3 f4 => ?_
  generalize hH1 : H.push ({ cls := cA, slots := Array.replicate n.toNatClampNeg .null, vm := .none } : Cell) = H1
  have z1 : H1.size = H.size + 1 := by rw [← hH1, Array.size_push]
  have e1 : H1[H.size]? = some (arrV cA n.toNatClampNeg (fun _ => .null)) := by rw [← hH1, Array.getElem?_push_size, ← arrV_new]
  have o1 : ∀ q : Nat, q < H.size → H1[q]? = H[q]? := fun q hq => by rw [← hH1, Array.getElem?_push, if_neg (Nat.ne_of_lt hq)]
  have hA : G.2.1 t = cA := by
    obtain ⟨kA2, comp2, k1, k2, k3, k4⟩ := (hK.1.2 t _ (ht G)).2
    exact Option.some.inj (k4.symm.trans f1)
  refine W.eq (g2 := F0 m (pc + 3) ls ((.ref (N + 1) :: st : List Value).map (q_v G))) (by show _ = _; rw [hP.1]; rfl) ?_
  exact kk p e R s m args below meth c H1 locs (cells + 1) (slots + n.toNatClampNeg) mc ms ls C hl (hP.new z1 (by show H1[H.size]? = some (arrV (G.2.1 t) n.toNatClampNeg (fun _ => .null)); rw [e1, hA]) o1) (q_S.grow hS z1 o1) (by omega)
/-- 'new' by the place in a class's pool: class ci of n fields, which begin as fs -/
def q_N (own : String) (idx ci n : Nat) (fs : List Value) : Prop := ∃ (C : String) (T : u_T) (ty0 : Nat → FieldType), q_cl[ci]? = some (C, T, n) ∧ (∀ w ∈ u_ws C T n, w ∈ q_good) ∧ (∀ j, j < n → parseFieldDescriptor (T j).2.2.1 = some (ty0 j)) ∧ Cond.classLink own idx C ∈ q_good ∧ Cond.instantiable C n ∈ q_good ∧ Cond.initialized C ∈ q_good ∧ (∀ j, j < n → defaultValue (ty0 j) = vp_V fs j) ∧ ∀ G : q_G, fs.map (q_v G) = fs
theorem e_new {idx ci n cc' ss' : Nat} {fs : List Value} (d : decode μ.2.1 pc = .ok (.new idx, 3)) (hf : q_N μ.1.cls idx ci n fs) (h1 : cc' + 1 ≤ cc) (h2 : ss' + n ≤ ss) (kk : q_Ev l G μ fr lo cc' ss' (pc + 3) lv (.ref (N + 1) :: st) (q_up h (N + 1) (.inr (ci, fs))) (N + 1) Q) : q_Ev l G μ fr lo cc ss pc lv st h N Q := by
  intro p e R s m args below meth c H locs cells slots mc ms ls C hl hP hS hR
  obtain ⟨Cn, T, ty0, f1, f2, f3, f4, f5, f6, f7, f8⟩ := hf
  obtain ⟨hx, hb, hr, hml, hown, hts, hlk, htb, hnm, htr, hK⟩ := id C
  have hKn := hK.1.1 ci _ f1
  refine W.newcK (h := H.size) hx hb hown (hts _ f4) (hts _ f5) (hts _ f6) rfl d (by omega) (by omega) hKn.2.1 rfl fun H1 kC hkC e1 z1 o1 => ?_
  refine W.eq (g2 := F0 m (pc + 3) ls ((.ref (N + 1) :: st : List Value).map (q_v G))) (by show _ = _; rw [hP.1]; rfl) ?_
  refine kk p e R s m args below meth c H1 locs (cells + 1) (slots + n) mc ms ls C hl (hP.new z1 ⟨_, f1, ?_⟩ o1) (q_S.grow hS z1 o1) (by omega)
  show t_OB H.size _ _ _ H1 (vp_V (fs.map (q_v G)))
  rw [f8 G]
  exact (u_born ty0 hts f2 hKn hkC e1 f3).to f7
theorem q_cats (G : q_G) (st : List Value) : ((st.map (q_v G)).map fun v => v.category).sum = (st.map fun v => v.category).sum := by
  rw [List.map_map]
  congr 1
  apply List.map_congr_left
  intro v _
  exact q_v_cat G v
theorem e_objInit {idx a : Nat} (d : decode μ.2.1 pc = .ok (.invokespecial idx, 3)) (hw : Cond.methodLink μ.1.cls idx objectInit ∈ q_good) (hw2 : Cond.instanceMethod objectInit ∈ q_good) (hw3 : Cond.code objectInit ⟨#[0xb1]⟩ 1 none ∈ q_good) (hfr : 1 ≤ fr) (hlo : (st.map fun v => v.category).sum + 12 ≤ lo) (kk : q_Ev l G μ fr lo cc ss (pc + 3) lv st h N Q) : q_Ev l G μ fr lo cc ss pc lv (.ref a :: st) h N Q := by
  intro p e R s m args below meth c H locs cells slots mc ms ls C hl hP hS hR
  obtain ⟨hx, hb, hr, hml, hown, hts, hlk, htb, hnm, htr, hK⟩ := id C
  refine W.objInit (rest := st.map (q_v G)) hx hb hown (hts _ hw) (hts _ hw2) (hts _ hw3) rfl (by rw [hml]; exact hl.1) rfl d (by omega) ?_ (kk p e R s m args below meth c H locs cells slots mc ms ls C hl hP hS hR)
  rw [q_cats]
  show 2 * 0 + _ + 12 ≤ _
  omega
end QN
/-- the locals at a method's entry -/
def q_in0 (av : List Value) (n : Nat) : List (Option Value) := av.map some ++ List.replicate (n - av.length) none
theorem q_args_mem (G : q_G) : ∀ (av : List Value) (i0 i : Nat) (v : Value), (∀ v ∈ av, v.category = 1) → av[i]? = some v → (i0 + i, q_v G v) ∈ lv_args i0 (av.map (q_v G)) := by
  intro av
  induction av with
  | nil => intro i0 i v _ h; simp at h
  | cons a r ih =>
    intro i0 i v hc h
    have h1 : ¬ (q_v G a).category = 2 := by rw [q_v_cat, hc a List.mem_cons_self]; decide
    simp only [List.map_cons, lv_args, if_neg h1]
    cases i with
    | zero =>
      simp at h
      subst h
      exact List.mem_cons_self
    | succ i =>
      have := ih (i0 + 1) i v (fun w hw => hc w (List.mem_cons_of_mem _ hw)) (by simpa using h)
      rw [show i0 + (i + 1) = i0 + 1 + i by omega]
      exact List.mem_cons_of_mem _ this
theorem q_sl_len (G : q_G) (av : List Value) (hc : ∀ v ∈ av, v.category = 1) : (lg_sl (av.map (q_v G))).length = av.length := by
  induction av with
  | nil => rfl
  | cons a r ih =>
    have h1 : ¬ (q_v G a).category = 2 := by rw [q_v_cat, hc a List.mem_cons_self]; decide
    have := ih (fun w hw => hc w (List.mem_cons_of_mem _ hw))
    simp only [lg_sl, List.map_cons, List.flatMap_cons, if_neg h1, List.length_append, List.length_cons, List.length_nil] at this ⊢
    omega
theorem q_entry {G : q_G} {av : List Value} {n : Nat} (hc : ∀ v ∈ av, v.category = 1) (hn : av.length ≤ n) : q_lv G ((lg_sl (av.map (q_v G)) ++ List.replicate (n - (lg_sl (av.map (q_v G))).length) Slot.unset).toArray) n (q_in0 av n) := by
  have hl := lv_entry (av.map (q_v G)) (n := n) (by rw [q_sl_len G av hc]; exact hn)
  refine ⟨hl.1, hl.2.1, fun i v hi => ?_⟩
  unfold q_in0 at hi
  have hia : av[i]? = some v := by
    by_cases c : i < av.length
    · rw [List.getElem?_append_left (by simpa using c)] at hi
      simpa using hi
    · rw [List.getElem?_append_right (by simpa using Nat.not_lt.mp c)] at hi
      have := List.mem_of_getElem? hi
      simp at this
  refine ⟨?_, hc v (List.mem_of_getElem? hia)⟩
  have := hl.2.2 _ (q_args_mem G av 0 i v hc hia)
  simpa using this
theorem q_Met.mk {l : Launch} {G : q_G} {μ : q_M} {fr lo cc ss N : Nat} {av : List Value} {h : q_H} {Q : q_Q} (htr : l.stackTraces = false) (hy : plainName μ.1.cls = true) (hh : μ.2.2.2.2 = []) (hc : ∀ v ∈ av, v.category = 1) (hn : av.length ≤ μ.2.2.1) (k : q_Ev l G μ fr lo cc ss 0 (q_in0 av μ.2.2.1) [] h N Q) : q_Met l G μ fr lo cc ss av h N Q := by
  unfold q_Met
  have hcw : q_cw μ = .code μ.1 μ.2.1 μ.2.2.1 μ.2.2.2.1 := by unfold q_cw; rw [hh]
  rw [hcw]
  refine vx_ofW (cc := μ.2.1) (maxL := μ.2.2.1) (ret := μ.2.2.2.1) hy rfl ?_
  intro p e s m args below meth c s₁ B hml hne hv
  obtain ⟨rfl, hP, hK⟩ := hv
  have hts := atoms_spec B.pre
  have hte : c.exceptionTable.toList = tableOf μ.2.2.2.2 := by
    rw [hh]
    cases hx : c.exceptionTable.toList with
    | nil => rfl
    | cons x r => exact absurd (by rw [hx]; exact List.mem_cons_self) (hne x)
  rw [lg_entry_eq]
  exact k p e _ s m _ below meth c s.heap [] 0 0 cc ss _ ⟨B.exec, B.bytes, B.returns, hml, findClass_of_methodNamed B.named, fun w hw => hts w (List.mem_cons_of_mem _ hw), B.notSynchronized, hte, (name_of_methodNamed B.named B.method).1, htr, hK⟩ (q_entry hc hn) hP va_S.rf ⟨Nat.le_refl _, Nat.le_refl _, Nat.le_of_eq (Nat.zero_add _), Nat.le_of_eq (Nat.zero_add _), Nat.le_of_eq (Nat.zero_add _), Nat.le_of_eq (Nat.zero_add _)⟩
theorem q_Met.mkH {l : Launch} {G : q_G} {μ : q_M} {fr lo cc ss N : Nat} {av : List Value} {h : q_H} {Q : q_Q} {x0 : Nat × Nat × Nat × Nat} {r0 : List (Nat × Nat × Nat × Nat)} (htr : l.stackTraces = false) (hy : plainName μ.1.cls = true) (hh : μ.2.2.2.2 = x0 :: r0) (hc : ∀ v ∈ av, v.category = 1) (hn : av.length ≤ μ.2.2.1) (k : q_Ev l G μ fr lo cc ss 0 (q_in0 av μ.2.2.1) [] h N Q) : q_Met l G μ fr lo cc ss av h N Q := by
  unfold q_Met
  have hcw : q_cw μ = .codeWith μ.1 μ.2.1 μ.2.2.1 μ.2.2.2.1 (x0 :: r0) := by unfold q_cw; rw [hh]
  rw [hcw]
  refine vx_ofWH (cc := μ.2.1) (maxL := μ.2.2.1) (ret := μ.2.2.2.1) (hh := x0 :: r0) hy rfl ?_
  intro p e s m args below meth c s₁ B hml hv
  obtain ⟨rfl, hP, hK⟩ := hv
  have hts := atoms_spec B.pre
  have hte : c.exceptionTable.toList = tableOf μ.2.2.2.2 := by
    rw [hh]
    exact vx_table (x := μ.1) B (hts _ List.mem_cons_self)
  rw [lg_entry_eq]
  exact k p e _ s m _ below meth c s.heap [] 0 0 cc ss _ ⟨B.exec, B.bytes, B.returns, hml, findClass_of_methodNamed B.named, fun w hw => hts w (List.mem_cons_of_mem _ hw), B.notSynchronized, hte, (name_of_methodNamed B.named B.method).1, htr, hK⟩ (q_entry hc hn) hP va_S.rf ⟨Nat.le_refl _, Nat.le_refl _, Nat.le_of_eq (Nat.zero_add _), Nat.le_of_eq (Nat.zero_add _), Nat.le_of_eq (Nat.zero_add _), Nat.le_of_eq (Nat.zero_add _)⟩
end
section
/-! THE LOGIC'S ROWS for calls and throws -/
theorem q_good_G {μ : q_M} (hc : q_cw μ ∈ q_good) : GoodIn q_good (q_cw μ :: q_good) := fun w hw => by
  rcases List.mem_cons.mp hw with rfl | hw
  · exact ⟨hc, good_of_word (List.mem_filter.mp hc).2⟩
  · exact ⟨hw, good_of_word (List.mem_filter.mp hw).2⟩
def q_yok (y : MethodName) (n : Nat) : Prop := (y.cls ≠ "java/lang/invoke/MethodHandle" ∧ y.cls ≠ "java/lang/invoke/VarHandle") ∧ (parseMethodDescriptor y.desc).map (fun d => d.parameters.length) = some n
/-- the words of a call of an instance's method (own: the caller's class, idx: the place in its pool, n arguments) -/
def q_CV (own : String) (idx : Nat) (ν : q_M) (n : Nat) : Prop := ν.2.2.2.2 = [] ∧ q_cw ν ∈ q_good ∧ Cond.methodLink own idx ν.1 ∈ q_good ∧ Cond.instanceMethod ν.1 ∈ q_good ∧ Cond.selects ν.1.cls ν.1 ν.1 ∈ q_good ∧ Cond.initialized ν.1.cls ∈ q_good ∧ q_yok ν.1 n
/-- .. of a static one -/
def q_CS (own : String) (idx : Nat) (ν : q_M) (n : Nat) : Prop := ν.2.2.2.2 = [] ∧ q_cw ν ∈ q_good ∧ Cond.methodLink own idx ν.1 ∈ q_good ∧ Cond.static ν.1 ∈ q_good ∧ Cond.initialized ν.1.cls ∈ q_good ∧ q_yok ν.1 n
/-- .. of a constructor -/
def q_CI (own : String) (idx : Nat) (ν : q_M) (n : Nat) : Prop := ν.2.2.2.2 = [] ∧ ν.2.2.2.1 = none ∧ ν.1.name = "<init>" ∧ q_cw ν ∈ q_good ∧ Cond.methodLink own idx ν.1 ∈ q_good ∧ Cond.instanceMethod ν.1 ∈ q_good ∧ Cond.initialized ν.1.cls ∈ q_good ∧ q_yok ν.1 n
/-- .. of a nest mate's static method, of a nest mate's constructor -/
def q_CSN (own : String) (idx : Nat) (ν : q_M) (n : Nat) : Prop := ν.2.2.2.2 = [] ∧ q_cw ν ∈ q_good ∧ Cond.methodLinkNest own idx ν.1 "ZnodeService" ∈ q_nest ∧ Cond.static ν.1 ∈ q_good ∧ Cond.initialized ν.1.cls ∈ q_good ∧ q_yok ν.1 n
def q_CIN (own : String) (idx : Nat) (ν : q_M) (n : Nat) : Prop := ν.2.2.2.2 = [] ∧ ν.2.2.2.1 = none ∧ ν.1.name = "<init>" ∧ q_cw ν ∈ q_good ∧ Cond.methodLinkNest own idx ν.1 "ZnodeService" ∈ q_nest ∧ Cond.instanceMethod ν.1 ∈ q_good ∧ Cond.initialized ν.1.cls ∈ q_good ∧ q_yok ν.1 n
theorem q_cw0 {ν : q_M} (h : ν.2.2.2.2 = []) : q_cw ν = .code ν.1 ν.2.1 ν.2.2.1 ν.2.2.2.1 := by unfold q_cw; rw [h]
theorem q_K.call {G : q_G} {s U : State} {H : Heap} {locs : List Loc} (h : q_K G s) (hS : va_S (q_A G) s.heap H locs) (hU : U.heap = H) (hW : s.WarmedH U.vm) : q_K G U := h.moved hW (by rw [hU]; exact hS.1) (fun q h1 h2 => by rw [hU]; exact hS.2.1 q h1 h2)
/-- a method that throws nothing, as the kit's own contract -/
theorem q_Met.met {l : Launch} {G : q_G} {μ : q_M} {fr lo cc ss N : Nat} {av : List Value} {h : q_H} {Q : q_Q} (k : q_Met l G μ fr lo cc ss av h N Q) (hx : ∀ E h N, ¬ Q (.inr E) h N) : Met l μ.1 (q_cw μ :: q_good) { frames := fr, locals := lo, cells := cc, slots := ss } (q_Pc G av h N) (q_Qc G Q) cc ss (q_A G) := by
  intro p e ha hc hk s m args below hf hap hP hK
  obtain ⟨n, o, h1, h2, h3, h4⟩ := k p e ha hc hk s m args below hf hap hP hK
  refine ⟨n, o, h1, h2, h3, ?_⟩
  rcases h4 with h4 | ⟨q, -, E, ce, L, ⟨h', N', c2, -⟩, -⟩
  · exact h4
  · exact absurd c2 (hx _ _ _)
theorem q_tl (G : q_G) (r : Option Value) (st : List Value) : (r.map (q_v G)).toList ++ st.map (q_v G) = (r.toList ++ st).map (q_v G) := by cases r <;> simp
section QC
variable {l : Launch} {G : q_G} {μ ν : q_M} {fr lo cc ss pc N : Nat} {lv : List (Option Value)} {st : List Value} {h : q_H} {Q Q' : q_Q} {fr' lo' cc' ss' cc2 ss2 idx n : Nat} {As : List Value}
/-- behind a call that may throw, in a body without a table -/
theorem e_back (hh : μ.2.2.2.2 = []) (hcc : cc' + cc2 ≤ cc) (hss : ss' + ss2 ≤ ss)
    {p : Program} {e : Env} {R : Room} {s : State} {m : MethodId} {args : Array Value} {below : List Frame} {meth : Method} {c : Code} {H : Heap} {locs : List Loc} {cells slots mc ms : Nat} {ls : Array Slot} {sk : List Value} {a : Array Value}
    (C : q_Cx l G μ p s m args meth c) (hl : q_lv G ls μ.2.2.1 lv) (hS : va_S (q_A G) s.heap H locs) (hR : fr ≤ R.frames ∧ lo ≤ R.locals ∧ cells + cc ≤ R.cells ∧ slots + ss ≤ R.slots ∧ cells + cc ≤ mc ∧ slots + ss ≤ ms)
    (run : vx_Run p l e R s m args below meth c H locs cells slots cc' ss' (F0 m pc ls sk) (st.map (q_v G)) (q_Qc G Q' a) (q_XC G Q') (q_A G))
    (hx : ∀ E h' N', Q' (.inr E) h' N' → Q (.inr E) h' N') (kr : ∀ r h' N', Q' (.inl r) h' N' → q_Ev l G μ fr lo cc2 ss2 (pc + 3) lv (r.toList ++ st) h' N' Q) :
    W p l e R s m args below meth c H locs cells slots (vx_MQ below (q_Qc G Q) (q_XC G Q) args s mc ms (q_A G)) (F0 m pc ls sk) := by
  intro T hT X
  rcases run T hT X with ⟨v, st₀, t, T', L, h0, X', hL, e1, e2, ⟨r, h', N', hv, hq, hP', hF⟩, go⟩ | ⟨q, st₀, t, T', L, E, ce, h0, X', hL, e1, e2, ⟨h', N', hq, hP', hF⟩, hce, hcv, hcl, go⟩
  · cases hv
    obtain ⟨k1, k2, k3⟩ := vx_keep h0 e1 hS (fun _ _ z => z) (fun _ z => z) hL hF
    obtain ⟨t2, a1, b1⟩ := kr r h' N' hq p e R s m args below meth c T'.heap (locs ++ L) (cells + cc') (slots + ss') mc ms ls C hl (by rw [e1]; exact hP') k3 (by omega) T' rfl X'
    refine ⟨t2, go t2 ?_, b1⟩
    have := q_tl G r st
    simp only [this]
    exact a1
  · obtain ⟨k1, k2, k3⟩ := vx_keep h0 e1 hS (fun _ _ z => z) (fun _ z => z) hL hF
    have hout : ∀ x ∈ c.exceptionTable.toList, covers x pc = false := by
      rw [C.2.2.2.2.2.2.2.1, hh]
      intro x hx
      cases hx
    obtain ⟨t2, a1, b1⟩ := vx_out (Qc := q_Qc G Q) (XC := q_XC G Q) (free := q_A G) (below := below) (mc := mc) (ms := ms) (pc := pc) (ls := ls) (rest := st.map (q_v G)) hout C.2.2.2.2.2.2.1 (H := T'.heap) (by rw [e1]; exact hce) hcv hcl (fun t3 ht3 _ => ⟨h', N', hx _ _ _ hq, by rw [ht3, e1]; exact hP', k3.F ht3⟩) k3.2.2 (cells := cells + cc') (slots := slots + ss') (by omega) (by omega) T' rfl X'
    exact ⟨t2, go.trans a1, b1⟩
theorem e_callV {b ci nn : Nat} {T : u_T} {fs : List Value} (d : decode μ.2.1 pc = .ok (.invokevirtual idx, 3)) (hh : μ.2.2.2.2 = []) (hC : q_CV μ.1.cls idx ν n) (hb : h b = some (.inr (ci, fs))) (hcl : q_cl[ci]? = some (ν.1.cls, T, nn)) (hM : q_Met l G ν fr' lo' cc' ss' (.ref b :: As) h N Q') (hn : As.length = n) (hfr : fr' + 1 ≤ fr) (hlo : 8 + (ν.2.2.1 + 11) + lo' ≤ lo) (hcc : cc' + cc2 ≤ cc) (hss : ss' + ss2 ≤ ss) (hst : (st.map fun v => v.category).sum ≤ 8)
    (hx : ∀ E h' N', Q' (.inr E) h' N' → Q (.inr E) h' N') (kr : ∀ r h' N', Q' (.inl r) h' N' → q_Ev l G μ fr lo cc2 ss2 (pc + 3) lv (r.toList ++ st) h' N' Q) : q_Ev l G μ fr lo cc ss pc lv (As.reverse ++ .ref b :: st) h N Q := by
  intro p e R s m args below meth c H locs cells slots mc ms ls C hl hP hS hR
  obtain ⟨hx9, hb9, hr, hml, hown, hts, hlk, htb, hnm, htr, hK⟩ := id C
  obtain ⟨c1, c2, c3, c4, c5, c6, c7⟩ := hC
  rw [q_cw0 c1] at c2
  have hG := q_good_G (μ := ν) (by rw [q_cw0 c1]; exact c2)
  obtain ⟨r, h1, cell, q1, q2, q3, q4⟩ := (hP.2 b _ hb).2.2
  have hat : ∃ cell : Cell, H[q_ad G b]? = some cell ∧ cell.vm.isStatics = false ∧ s.vm.findClass ν.1.cls = some cell.cls := ⟨cell, q1, by rw [q3]; rfl, by rw [q2]; exact (hK.1.1 ci _ hcl).2.1⟩
  have run := vx_runV (p := p) (l := l) (e := e) (R := R) (s := s) (m := m) (args := args) (below := below) (meth := meth) (c := c) (H := H) (locs := locs) (cells := cells) (slots := slots) (Ts := q_good) (own := μ.1.cls) (C := ν.1.cls) (index := idx) (n := n) (bytes := ν.2.1) (maxL := ν.2.2.1) (ret := ν.2.2.2.1) (As := As.map (q_v G)) (b := q_ad G b) (rest := st.map (q_v G)) (g := F0 m pc ls ((As.reverse ++ .ref b :: st).map (q_v G))) ⟨hx9, hb9, hml, hown, hts⟩ hM
    ⟨callB_of n hts hG (by rw [q_cw0 c1]) rfl rfl (hts _ c6) (hts _ c3) ⟨c7.1.1, c7.1.2, c7.2⟩ ⟨Nat.le_trans hfr hR.1, Nat.le_trans hlo hR.2.1⟩, hts _ c4, hts _ c5⟩
    ⟨q_blind G _ h N, hat, fun U hU hW => ⟨rfl, by rw [hU]; exact hP, hK.call hS hU hW⟩⟩ rfl (by rw [List.length_map]; exact hn) hl.1 (by simp [q_v]) (lv_room (by rw [q_cats]; exact hst)) d ⟨by omega, by omega⟩
  exact e_back hh hcc hss C hl hS hR run hx kr
theorem e_callS (d : decode μ.2.1 pc = .ok (.invokestatic idx, 3)) (hh : μ.2.2.2.2 = []) (hC : q_CS μ.1.cls idx ν n) (hM : q_Met l G ν fr' lo' cc' ss' As h N Q') (hn : As.length = n) (hfr : fr' + 1 ≤ fr) (hlo : 8 + (ν.2.2.1 + 11) + lo' ≤ lo) (hcc : cc' + cc2 ≤ cc) (hss : ss' + ss2 ≤ ss) (hst : (st.map fun v => v.category).sum ≤ 8)
    (hx : ∀ E h' N', Q' (.inr E) h' N' → Q (.inr E) h' N') (kr : ∀ r h' N', Q' (.inl r) h' N' → q_Ev l G μ fr lo cc2 ss2 (pc + 3) lv (r.toList ++ st) h' N' Q) : q_Ev l G μ fr lo cc ss pc lv (As.reverse ++ st) h N Q := by
  intro p e R s m args below meth c H locs cells slots mc ms ls C hl hP hS hR
  obtain ⟨hx9, hb9, hr, hml, hown, hts, hlk, htb, hnm, htr, hK⟩ := id C
  obtain ⟨c1, c2, c3, c4, c5, c6⟩ := hC
  rw [q_cw0 c1] at c2
  have hG := q_good_G (μ := ν) (by rw [q_cw0 c1]; exact c2)
  have run := vx_runS (p := p) (l := l) (e := e) (R := R) (s := s) (m := m) (args := args) (below := below) (meth := meth) (c := c) (H := H) (locs := locs) (cells := cells) (slots := slots) (Ts := q_good) (own := μ.1.cls) (index := idx) (n := n) (bytes := ν.2.1) (maxL := ν.2.2.1) (ret := ν.2.2.2.1) (As := As.map (q_v G)) (rest := st.map (q_v G)) (g := F0 m pc ls ((As.reverse ++ st).map (q_v G))) ⟨hx9, hb9, hml, hown, hts⟩ hM
    ⟨callB_of n hts hG (by rw [q_cw0 c1]) rfl rfl (hts _ c5) (hts _ c3) ⟨c6.1.1, c6.1.2, c6.2⟩ ⟨Nat.le_trans hfr hR.1, Nat.le_trans hlo hR.2.1⟩, hts _ c4⟩
    ⟨q_blind G _ h N, fun U hU hW => ⟨rfl, by rw [hU]; exact hP, hK.call hS hU hW⟩⟩ rfl (by rw [List.length_map]; exact hn) hl.1 (by simp) (lv_room (by rw [q_cats]; exact hst)) d ⟨by omega, by omega⟩
  exact e_back hh hcc hss C hl hS hR run hx kr
/-- behind a call that throws nothing -/
theorem e_backN (hcc : cc' + cc2 ≤ cc) (hss : ss' + ss2 ≤ ss)
    {p : Program} {e : Env} {R : Room} {s : State} {m : MethodId} {args : Array Value} {below : List Frame} {meth : Method} {c : Code} {H : Heap} {locs : List Loc} {cells slots mc ms : Nat} {ls : Array Slot} {sk : List Value} {a : Array Value}
    (C : q_Cx l G μ p s m args meth c) (hl : q_lv G ls μ.2.2.1 lv) (hS : va_S (q_A G) s.heap H locs) (hR : fr ≤ R.frames ∧ lo ≤ R.locals ∧ cells + cc ≤ R.cells ∧ slots + ss ≤ R.slots ∧ cells + cc ≤ mc ∧ slots + ss ≤ ms)
    (run : va_Run p l e R s m args below meth c H locs cells slots cc' ss' (F0 m pc ls sk) (st.map (q_v G)) (q_Qc G Q' a) (q_A G))
    (kr : ∀ r h' N', Q' (.inl r) h' N' → q_Ev l G μ fr lo cc2 ss2 (pc + 3) lv (r.toList ++ st) h' N' Q) :
    W p l e R s m args below meth c H locs cells slots (vx_MQ below (q_Qc G Q) (q_XC G Q) args s mc ms (q_A G)) (F0 m pc ls sk) := by
  intro T hT X
  obtain ⟨v, st₀, t, T', L, h0, X', hL, e1, e2, ⟨r, h', N', hv, hq, hP', hF⟩, go⟩ := run T hT X
  cases hv
  obtain ⟨k1, k2, k3⟩ := vx_keep h0 e1 hS (fun _ _ z => z) (fun _ z => z) hL hF
  obtain ⟨t2, a1, b1⟩ := kr r h' N' hq p e R s m args below meth c T'.heap (locs ++ L) (cells + cc') (slots + ss') mc ms ls C hl (by rw [e1]; exact hP') k3 (by omega) T' rfl X'
  refine ⟨t2, go t2 ?_, b1⟩
  have := q_tl G r st
  simp only [this]
  exact a1
theorem e_callI {b : Nat} (d : decode μ.2.1 pc = .ok (.invokespecial idx, 3)) (hC : q_CI μ.1.cls idx ν n) (hM : q_Met l G ν fr' lo' cc' ss' (.ref b :: As) h N Q') (hn : As.length = n) (hfr : fr' + 1 ≤ fr) (hlo : 8 + (ν.2.2.1 + 11) + lo' ≤ lo) (hcc : cc' + cc2 ≤ cc) (hss : ss' + ss2 ≤ ss) (hst : (st.map fun v => v.category).sum ≤ 8)
    (hx : ∀ E h' N', ¬ Q' (.inr E) h' N') (kr : ∀ r h' N', Q' (.inl r) h' N' → q_Ev l G μ fr lo cc2 ss2 (pc + 3) lv (r.toList ++ st) h' N' Q) : q_Ev l G μ fr lo cc ss pc lv (As.reverse ++ .ref b :: st) h N Q := by
  intro p e R s m args below meth c H locs cells slots mc ms ls C hl hP hS hR
  obtain ⟨hx9, hb9, hr, hml, hown, hts, hlk, htb, hnm, htr, hK⟩ := id C
  obtain ⟨c1, c0, c8, c2, c3, c4, c6, c7⟩ := hC
  rw [q_cw0 c1] at c2
  have hG := q_good_G (μ := ν) (by rw [q_cw0 c1]; exact c2)
  have run := va_runI (p := p) (l := l) (e := e) (R := R) (s := s) (m := m) (args := args) (below := below) (meth := meth) (c := c) (H := H) (locs := locs) (cells := cells) (slots := slots) (Ts := q_good) (own := μ.1.cls) (index := idx) (n := n) (bytes := ν.2.1) (maxL := ν.2.2.1) (As := As.map (q_v G)) (b := q_ad G b) (rest := st.map (q_v G)) (g := F0 m pc ls ((As.reverse ++ .ref b :: st).map (q_v G))) ⟨hx9, hb9, hml, hown, hts⟩ (hM.met hx)
    ⟨callB_of n hts hG (by rw [q_cw0 c1, c0]) rfl rfl (hts _ c6) (hts _ c3) ⟨c7.1.1, c7.1.2, c7.2⟩ ⟨Nat.le_trans hfr hR.1, Nat.le_trans hlo hR.2.1⟩, c8, hts _ c4⟩
    ⟨q_blind G _ h N, fun U hU hW => ⟨rfl, by rw [hU]; exact hP, hK.call hS hU hW⟩⟩ rfl (by rw [List.length_map]; exact hn) hl.1 (by simp [q_v]) (lv_room (by rw [q_cats]; exact hst)) d ⟨by omega, by omega⟩
  exact e_backN hcc hss C hl hS hR run kr
theorem e_callIN {b : Nat} (d : decode μ.2.1 pc = .ok (.invokespecial idx, 3)) (hC : q_CIN μ.1.cls idx ν n) (hM : q_Met l G ν fr' lo' cc' ss' (.ref b :: As) h N Q') (hn : As.length = n) (hfr : fr' + 1 ≤ fr) (hlo : 8 + (ν.2.2.1 + 11) + lo' ≤ lo) (hcc : cc' + cc2 ≤ cc) (hss : ss' + ss2 ≤ ss) (hst : (st.map fun v => v.category).sum ≤ 8)
    (hx : ∀ E h' N', ¬ Q' (.inr E) h' N') (kr : ∀ r h' N', Q' (.inl r) h' N' → q_Ev l G μ fr lo cc2 ss2 (pc + 3) lv (r.toList ++ st) h' N' Q) : q_Ev l G μ fr lo cc ss pc lv (As.reverse ++ .ref b :: st) h N Q := by
  intro p e R s m args below meth c H locs cells slots mc ms ls C hl hP hS hR
  obtain ⟨hx9, hb9, hr, hml, hown, hts, hlk, htb, hnm, htr, hK⟩ := id C
  obtain ⟨c1, c0, c8, c2, c3, c4, c6, c7⟩ := hC
  rw [q_cw0 c1] at c2
  have hG := q_good_G (μ := ν) (by rw [q_cw0 c1]; exact c2)
  have run := va_runIN (p := p) (l := l) (e := e) (R := R) (s := s) (m := m) (args := args) (below := below) (meth := meth) (c := c) (H := H) (locs := locs) (cells := cells) (slots := slots) (Ts := q_good) (own := μ.1.cls) (host := "ZnodeService") (index := idx) (n := n) (bytes := ν.2.1) (maxL := ν.2.2.1) (As := As.map (q_v G)) (b := q_ad G b) (rest := st.map (q_v G)) (g := F0 m pc ls ((As.reverse ++ .ref b :: st).map (q_v G))) ⟨hx9, hb9, hml, hown, hts⟩ (hM.met hx)
    ⟨va_cnB n hts hG (by rw [q_cw0 c1, c0]) rfl rfl (hK.2.2.2.2.2.2.2.1 _ c3) (hts _ c6) ⟨c7.1.1, c7.1.2, c7.2⟩ ⟨Nat.le_trans hfr hR.1, Nat.le_trans hlo hR.2.1⟩, c8, hts _ c4⟩
    ⟨q_blind G _ h N, fun U hU hW => ⟨rfl, by rw [hU]; exact hP, hK.call hS hU hW⟩⟩ rfl (by rw [List.length_map]; exact hn) hl.1 (by simp [q_v]) (lv_room (by rw [q_cats]; exact hst)) d ⟨by omega, by omega⟩
  exact e_backN hcc hss C hl hS hR run kr
theorem e_callSN (d : decode μ.2.1 pc = .ok (.invokestatic idx, 3)) (hC : q_CSN μ.1.cls idx ν n) (hM : q_Met l G ν fr' lo' cc' ss' As h N Q') (hn : As.length = n) (hfr : fr' + 1 ≤ fr) (hlo : 8 + (ν.2.2.1 + 11) + lo' ≤ lo) (hcc : cc' + cc2 ≤ cc) (hss : ss' + ss2 ≤ ss) (hst : (st.map fun v => v.category).sum ≤ 8)
    (hx : ∀ E h' N', ¬ Q' (.inr E) h' N') (kr : ∀ r h' N', Q' (.inl r) h' N' → q_Ev l G μ fr lo cc2 ss2 (pc + 3) lv (r.toList ++ st) h' N' Q) : q_Ev l G μ fr lo cc ss pc lv (As.reverse ++ st) h N Q := by
  intro p e R s m args below meth c H locs cells slots mc ms ls C hl hP hS hR
  obtain ⟨hx9, hb9, hr, hml, hown, hts, hlk, htb, hnm, htr, hK⟩ := id C
  obtain ⟨c1, c2, c3, c4, c5, c6⟩ := hC
  rw [q_cw0 c1] at c2
  have hG := q_good_G (μ := ν) (by rw [q_cw0 c1]; exact c2)
  have run := va_runSN (p := p) (l := l) (e := e) (R := R) (s := s) (m := m) (args := args) (below := below) (meth := meth) (c := c) (H := H) (locs := locs) (cells := cells) (slots := slots) (Ts := q_good) (own := μ.1.cls) (host := "ZnodeService") (index := idx) (n := n) (bytes := ν.2.1) (maxL := ν.2.2.1) (ret := ν.2.2.2.1) (As := As.map (q_v G)) (rest := st.map (q_v G)) (g := F0 m pc ls ((As.reverse ++ st).map (q_v G))) ⟨hx9, hb9, hml, hown, hts⟩ (hM.met hx)
    ⟨va_cnB n hts hG (by rw [q_cw0 c1]) rfl rfl (hK.2.2.2.2.2.2.2.1 _ c3) (hts _ c5) ⟨c6.1.1, c6.1.2, c6.2⟩ ⟨Nat.le_trans hfr hR.1, Nat.le_trans hlo hR.2.1⟩, hts _ c4, trivial⟩
    ⟨q_blind G _ h N, fun U hU hW => ⟨rfl, by rw [hU]; exact hP, hK.call hS hU hW⟩⟩ rfl (by rw [List.length_map]; exact hn) hl.1 (by simp) (lv_room (by rw [q_cats]; exact hst)) d ⟨by omega, by omega⟩
  exact e_backN hcc hss C hl hS hR run kr
/-- the words of 'throw new E()' -/
def q_X (own : String) (ik ic : Nat) (E : String) : Prop := Bundle.fit E = true ∧ Cond.classLink own ik E ∈ q_good ∧ Cond.initialized E ∈ q_good ∧ (∀ w ∈ vx_at0 own ic E ["java/lang/RuntimeException", "java/lang/Exception"], w ∈ q_good ∨ w ∈ q_face)
theorem q_good_ot {w : Cond} (h : w ∈ q_good) : vx_ot w = true := by
  have := (List.mem_filter.mp h).2
  simp [vx_ot, this]
theorem q_face_ot {w : Cond} (h : w ∈ q_face) : vx_ot w = true := by
  have := (List.mem_filter.mp h).2
  simp only [q_fw, Bool.and_eq_true] at this
  simp [vx_ot, this.2]
theorem e_throw {ik ic : Nat} {E : String} (hh : μ.2.2.2.2 = []) (hX : q_X μ.1.cls ik ic E) (d0 : decode μ.2.1 pc = .ok (.new ik, 3)) (d3 : decode μ.2.1 (pc + 3) = .ok (.dup, 1)) (d4 : decode μ.2.1 (pc + 4) = .ok (.invokespecial ic, 3)) (d7 : decode μ.2.1 (pc + 7) = .ok (.athrow, 1)) (hfr : 6 ≤ fr) (hlo : (st.map fun v => v.category).sum + 81 ≤ lo) (hcc : 1 ≤ cc) (hss : 6 ≤ ss) (hq : ∀ N', N ≤ N' → Q (.inr E) h N') : q_Ev l G μ fr lo cc ss pc lv st h N Q := by
  intro p e R s m args below meth c H locs cells slots mc ms ls C hl hP hS hR
  obtain ⟨hx9, hb9, hr, hml, hown, hts, hlk, htb, hnm, htr, hK⟩ := id C
  obtain ⟨c1, c2, c3, c4⟩ := hX
  refine vx_throw0 (own := μ.1.cls) (cls := E) (names := ["java/lang/RuntimeException", "java/lang/Exception"]) (A := q_A G) hx9 hb9 htr hown c1 (by decide +kernel) (hts _ c2) (hts _ c3) (fun w hw => ?_) (fun w hw => ?_) hK.2.2.2.2.1 hK.2.2.2.2.2.1 hS (by rw [hml]; exact hl.1) d0 d3 d4 d7 ?_ ?_ ?_ (by omega) (by omega) hlk (fun t ha h1 h2 => ?_) hS.2.2 (by omega) (by omega)
  · rcases c4 w hw with h9 | h9
    · exact hts w h9
    · exact va_Nw.use (by have := (List.mem_filter.mp h9).2; simp only [q_fw, Bool.and_eq_true] at this; exact this.2) (hK.2.2.2.2.2.2.1 w h9)
  · rcases List.mem_cons.mp hw with rfl | hw
    · exact q_good_ot c2
    rcases List.mem_cons.mp hw with rfl | hw
    · exact q_good_ot c3
    · rcases c4 w hw with h9 | h9
      · exact q_good_ot h9
      · exact q_face_ot h9
  · rw [htb, hh]
    intro x hx
    cases hx
  · show 2 + 3 < R.frames
    omega
  · rw [q_cats]
    show _ + (13 * (2 + 1) + 42) ≤ _
    omega
  · refine ⟨h, t.heap.size - G.2.2.2.1, hq _ ?_, ⟨?_, fun k e2 hk => ?_⟩, ⟨Nat.le_trans hS.1 h1, fun q z1 z2 => (h2 q (Nat.lt_of_lt_of_le z1 hS.1)).trans (hS.2.1 q z1 z2)⟩⟩
    · have := hP.1
      omega
    · have := hP.1
      omega
    · obtain ⟨a1, a2, a3⟩ := hP.2 k e2 hk
      refine ⟨a1, ?_, a3.kept (h2 _ a3.lt)⟩
      have := hP.1
      omega
end QC
end
section
/-! THE LOGIC'S ROWS for a call in a body with a table of handlers, and for a call of such a body -/
theorem q_lv.unset {G : q_G} {ls ls' : Array Slot} {nL i : Nat} {lv : List (Option Value)} {w0 : Value} (h : q_lv G ls nL lv) (h' : lv_has ls' nL ((i, w0) :: (q_pr G lv).filter (fun q => !(q.1 == i) && !(q.1 + 1 == i && q.2.category == 2)))) : q_lv G ls' nL (lv.set i none) := by
  refine ⟨h'.1, h'.2.1, fun j w hj => ?_⟩
  by_cases e : i = j
  · subst e
    rw [List.getElem?_set_self'] at hj
    cases hl : lv[i]? with
    | none => simp [hl] at hj
    | some x => simp [hl] at hj
  · rw [List.getElem?_set_ne e] at hj
    have h3 := h.2.2 j w hj
    refine ⟨h'.2.2 (j, q_v G w) (List.mem_cons_of_mem _ (List.mem_filter.mpr ⟨q_pr_mem.mpr ⟨w, hj, rfl⟩, ?_⟩)), h3.2⟩
    have e2 : ¬ j = i := fun q => e q.symm
    simp [e2, q_v_cat, h3.2]
/-- where a thrown E goes in μ's body, thrown at pc -/
def q_Hd (μ : q_M) (pc : Nat) (E : String) (hp : Nat) : Prop := ∃ (pre : List ExceptionTableEntry) (x : ExceptionTableEntry) (suf : List ExceptionTableEntry) (name : String), tableOf μ.2.2.2.2 = pre ++ x :: suf ∧ (∀ z ∈ pre, z.catchType ≠ 0 ∧ ∃ nm : String, Cond.classLink μ.1.cls z.catchType nm ∈ q_good ∧ (E, nm) ∈ q_nc) ∧ covers x pc = true ∧ x.catchType ≠ 0 ∧ Cond.classLink μ.1.cls x.catchType name ∈ q_good ∧ Cond.castable E name ∈ q_face ∧ x.handlerPc = hp
section QT
variable {l : Launch} {G : q_G} {μ ν : q_M} {fr lo cc ss pc N : Nat} {lv : List (Option Value)} {st : List Value} {h : q_H} {Q Q' : q_Q} {fr' lo' cc' ss' cc2 ss2 idx n : Nat} {As : List Value}
theorem e_callVT {b ci nn : Nat} {T : u_T} {fs : List Value} (d : decode μ.2.1 pc = .ok (.invokevirtual idx, 3)) (hC : q_CV μ.1.cls idx ν n) (hb : h b = some (.inr (ci, fs))) (hcl : q_cl[ci]? = some (ν.1.cls, T, nn)) (hM : q_Met l G ν fr' lo' cc' ss' (.ref b :: As) h N Q') (hn : As.length = n) (hfr : fr' + 1 ≤ fr) (hlo : 8 + (ν.2.2.1 + 11) + lo' ≤ lo) (hcc : cc' + cc2 ≤ cc) (hss : ss' + ss2 ≤ ss) (hst : (st.map fun v => v.category).sum ≤ 8)
    (kx : ∀ E h' N', Q' (.inr E) h' N' → ∃ (hp k len : Nat), q_Hd μ pc E hp ∧ (decode μ.2.1 hp = .ok (.astore k, 2) ∧ len = 2 ∨ ∃ k4 : Fin 4, decode μ.2.1 hp = .ok (.astore_n k4, 1) ∧ (k4 : Nat) = k ∧ len = 1) ∧ k < μ.2.2.1 ∧ q_Ev l G μ fr lo cc2 ss2 (hp + len) (lv.set k none) [] h' N' Q)
    (kr : ∀ r h' N', Q' (.inl r) h' N' → q_Ev l G μ fr lo cc2 ss2 (pc + 3) lv (r.toList ++ st) h' N' Q) : q_Ev l G μ fr lo cc ss pc lv (As.reverse ++ .ref b :: st) h N Q := by
  intro p e R s m args below meth c H locs cells slots mc ms ls C hl hP hS hR
  obtain ⟨hx9, hb9, hr, hml, hown, hts, hlk, htb, hnm, htr, hK⟩ := id C
  obtain ⟨c1, c2, c3, c4, c5, c6, c7⟩ := hC
  rw [q_cw0 c1] at c2
  have hG := q_good_G (μ := ν) (by rw [q_cw0 c1]; exact c2)
  obtain ⟨r, h1, cell, q1, q2, q3, q4⟩ := (hP.2 b _ hb).2.2
  have hat : ∃ cell : Cell, H[q_ad G b]? = some cell ∧ cell.vm.isStatics = false ∧ s.vm.findClass ν.1.cls = some cell.cls := ⟨cell, q1, by rw [q3]; rfl, by rw [q2]; exact (hK.1.1 ci _ hcl).2.1⟩
  have run := vx_runV (p := p) (l := l) (e := e) (R := R) (s := s) (m := m) (args := args) (below := below) (meth := meth) (c := c) (H := H) (locs := locs) (cells := cells) (slots := slots) (Ts := q_good) (own := μ.1.cls) (C := ν.1.cls) (index := idx) (n := n) (bytes := ν.2.1) (maxL := ν.2.2.1) (ret := ν.2.2.2.1) (As := As.map (q_v G)) (b := q_ad G b) (rest := st.map (q_v G)) (g := F0 m pc ls ((As.reverse ++ .ref b :: st).map (q_v G))) ⟨hx9, hb9, hml, hown, hts⟩ hM
    ⟨callB_of n hts hG (by rw [q_cw0 c1]) rfl rfl (hts _ c6) (hts _ c3) ⟨c7.1.1, c7.1.2, c7.2⟩ ⟨Nat.le_trans hfr hR.1, Nat.le_trans hlo hR.2.1⟩, hts _ c4, hts _ c5⟩
    ⟨q_blind G _ h N, hat, fun U hU hW => ⟨rfl, by rw [hU]; exact hP, hK.call hS hU hW⟩⟩ rfl (by rw [List.length_map]; exact hn) hl.1 (by simp [q_v]) (lv_room (by rw [q_cats]; exact hst)) d ⟨by omega, by omega⟩
  intro T hT X
  rcases run T hT X with ⟨v, st₀, t, T', L, h0, X', hL, e1, e2, ⟨r, h', N', hv, hq, hP', hF⟩, go⟩ | ⟨q, st₀, t, T', L, E, ce, h0, X', hL, e1, e2, ⟨h', N', hq, hP', hF⟩, hce, hcv, hcl9, go⟩
  · cases hv
    obtain ⟨k1, k2, k3⟩ := vx_keep h0 e1 hS (fun _ _ z => z) (fun _ z => z) hL hF
    obtain ⟨t2, a1, b1⟩ := kr r h' N' hq p e R s m args below meth c T'.heap (locs ++ L) (cells + cc') (slots + ss') mc ms ls C hl (by rw [e1]; exact hP') k3 (by omega) T' rfl X'
    refine ⟨t2, go t2 ?_, b1⟩
    have := q_tl G r st
    simp only [this]
    exact a1
  · obtain ⟨k1, k2, k3⟩ := vx_keep h0 e1 hS (fun _ _ z => z) (fun _ z => z) hL hF
    obtain ⟨hp, k, len, ⟨pre, x, suf, name, t1, t2, t3, t4, t5, t6, t7⟩, hd, hk, kk⟩ := kx E h' N' hq
    have hcf : Cond.onTables (Cond.castable E name) = true := rfl
    have K : vx_W p l e R s m args below meth c T'.heap (locs ++ L) (cells + cc') (slots + ss') (vx_MQ below (q_Qc G Q) (q_XC G Q) args s mc ms (q_A G)) (F0 m pc ls (st.map (q_v G))) q := by
      refine vx_catch (own := μ.1.cls) (name := name) (E := E) (ce := ce) hown pre x suf (htb.trans t1) (fun z hz => Or.inr ⟨(t2 z hz).1, ?_⟩) t3 t4 (hts _ t5) (va_Nw.use hcf (hK.2.2.2.2.2.2.1 _ t6)) (by rw [e1]; exact hce) hcv hcl9 ?_
      · obtain ⟨nm, g1, g2⟩ := (t2 z hz).2
        exact ⟨nm, hts _ g1, hK.2.2.2.2.2.2.2.2.1 (E, nm) g2⟩
      · rw [t7]
        rcases hd with ⟨hd, rfl⟩ | ⟨k4, hd, rfl, rfl⟩
        · refine lv_astore hx9 hb9 hd hl.has hk rfl (fun ls2 h2 => ?_)
          exact kk p e R s m args below meth c T'.heap (locs ++ L) (cells + cc') (slots + ss') mc ms ls2 C (hl.unset h2) (by rw [e1]; exact hP') k3 (by omega)
        · refine lv_astore_n hx9 hb9 hd rfl hl.has hk rfl (fun ls2 h2 => ?_)
          exact kk p e R s m args below meth c T'.heap (locs ++ L) (cells + cc') (slots + ss') mc ms ls2 C (hl.unset h2) (by rw [e1]; exact hP') k3 (by omega)
    obtain ⟨t2', a1, b1⟩ := K T' rfl X'
    exact ⟨t2', go.trans a1, b1⟩
/-- the words of a call of a static method with a table -/
def q_CSX (own : String) (idx : Nat) (ν : q_M) (n : Nat) : Prop := (∃ x r, ν.2.2.2.2 = x :: r) ∧ q_cw ν ∈ q_good ∧ Cond.methodLink own idx ν.1 ∈ q_good ∧ Cond.static ν.1 ∈ q_good ∧ Cond.initialized ν.1.cls ∈ q_good ∧ q_yok ν.1 n
theorem e_callSX (d : decode μ.2.1 pc = .ok (.invokestatic idx, 3)) (hh : μ.2.2.2.2 = []) (hC : q_CSX μ.1.cls idx ν n) (hM : q_Met l G ν fr' lo' cc' ss' As h N Q') (hn : As.length = n) (hfr : fr' + 1 ≤ fr) (hlo : 8 + (ν.2.2.1 + 11) + lo' ≤ lo) (hcc : cc' + cc2 ≤ cc) (hss : ss' + ss2 ≤ ss) (hst : (st.map fun v => v.category).sum ≤ 8)
    (hx : ∀ E h' N', Q' (.inr E) h' N' → Q (.inr E) h' N') (kr : ∀ r h' N', Q' (.inl r) h' N' → q_Ev l G μ fr lo cc2 ss2 (pc + 3) lv (r.toList ++ st) h' N' Q) : q_Ev l G μ fr lo cc ss pc lv (As.reverse ++ st) h N Q := by
  intro p e R s m args below meth c H locs cells slots mc ms ls C hl hP hS hR
  obtain ⟨hx9, hb9, hr, hml, hown, hts, hlk, htb, hnm, htr, hK⟩ := id C
  obtain ⟨⟨x0, r0, c1⟩, c2, c3, c4, c5, c6⟩ := hC
  have hG := q_good_G (μ := ν) c2
  have hcw : q_cw ν = .codeWith ν.1 ν.2.1 ν.2.2.1 ν.2.2.2.1 (x0 :: r0) := by unfold q_cw; rw [c1]
  have run := vx_runSX (p := p) (l := l) (e := e) (R := R) (s := s) (m := m) (args := args) (below := below) (meth := meth) (c := c) (H := H) (locs := locs) (cells := cells) (slots := slots) (Ts := q_good) (own := μ.1.cls) (index := idx) (n := n) (bytes := ν.2.1) (maxL := ν.2.2.1) (ret := ν.2.2.2.1) (hh := x0 :: r0) (As := As.map (q_v G)) (rest := st.map (q_v G)) (g := F0 m pc ls ((As.reverse ++ st).map (q_v G))) ⟨hx9, hb9, hml, hown, hts⟩ hM
    ⟨⟨rfl, rfl, Nat.le_trans hfr hR.1, Nat.le_trans hlo hR.2.1, pay_in hts hG, by rw [hcw]; exact List.mem_cons_self⟩, by rw [← hcw]; exact hts _ c2, hts _ c5, ⟨c6.1.1, c6.1.2⟩, fun sig h9 => by have h8 := c6.2; rw [h9] at h8; exact (Option.some.inj h8).symm, hts _ c3, hts _ c4⟩
    ⟨q_blind G _ h N, fun U hU hW => ⟨rfl, by rw [hU]; exact hP, hK.call hS hU hW⟩⟩ rfl (by rw [List.length_map]; exact hn) hl.1 (by simp) (lv_room (by rw [q_cats]; exact hst)) d ⟨by omega, by omega⟩
  exact e_back hh hcc hss C hl hS hR run hx kr
end QT
end
section
/-! Facts of the pools, by wip/whole/gen_facts.py: fl_ fields, nw_ new, cv_ cs_ ci_ cn_ cm_ cx_ calls, xx_ throws -/
theorem fl_en_13 : q_F "ZnodeService$Entry" 13 0 1 (.int) true := ⟨_, _, _, q_ty0, rfl, q_ws0, q_tk0, q_nm0, by decide, k_304, rfl, by decide +kernel, rfl⟩
theorem fl_en_16 : q_F "ZnodeService$Entry" 16 0 2 (.int) true := ⟨_, _, _, q_ty0, rfl, q_ws0, q_tk0, q_nm0, by decide, k_307, rfl, by decide +kernel, rfl⟩
theorem fl_en_19 : q_F "ZnodeService$Entry" 19 0 3 (.int) true := ⟨_, _, _, q_ty0, rfl, q_ws0, q_tk0, q_nm0, by decide, k_309, rfl, by decide +kernel, rfl⟩
theorem fl_en_22 : q_F "ZnodeService$Entry" 22 0 4 (.boolean) true := ⟨_, _, _, q_ty0, rfl, q_ws0, q_tk0, q_nm0, by decide, k_312, rfl, by decide +kernel, rfl⟩
theorem fl_en_7 : q_F "ZnodeService$Entry" 7 0 0 (.int) true := ⟨_, _, _, q_ty0, rfl, q_ws0, q_tk0, q_nm0, by decide, k_301, rfl, by decide +kernel, rfl⟩
theorem fl_sv_11 : q_F "ZnodeService$Server" 11 1 0 (.array (.object "ZnodeService$Entry")) true := ⟨_, _, _, q_ty1, rfl, q_ws1, q_tk1, q_nm1, by decide, k_65, rfl, by decide +kernel, rfl⟩
theorem fl_sv_20 : q_F "ZnodeService$Server" 20 1 1 (.object "ZnodeService$Tree") true := ⟨_, _, _, q_ty1, rfl, q_ws1, q_tk1, q_nm1, by decide, k_67, rfl, by decide +kernel, rfl⟩
theorem fl_sv_24 : q_F "ZnodeService$Server" 24 1 2 (.int) false := ⟨_, _, _, q_ty1, rfl, q_ws1, q_tk1, q_nm1, by decide, k_69, rfl, by decide +kernel, rfl⟩
theorem fl_sv_28 : q_F "ZnodeService$Server" 28 1 3 (.int) false := ⟨_, _, _, q_ty1, rfl, q_ws1, q_tk1, q_nm1, by decide, k_71, rfl, by decide +kernel, rfl⟩
theorem fl_sv_31 : q_F "ZnodeService$Server" 31 1 4 (.int) false := ⟨_, _, _, q_ty1, rfl, q_ws1, q_tk1, q_nm1, by decide, k_73, rfl, by decide +kernel, rfl⟩
theorem fl_sv_34 : q_F "ZnodeService$Server" 34 1 5 (.boolean) false := ⟨_, _, _, q_ty1, rfl, q_ws1, q_tk1, q_nm1, by decide, k_75, rfl, by decide +kernel, rfl⟩
theorem fl_sv_38 : q_F "ZnodeService$Server" 38 1 6 (.boolean) false := ⟨_, _, _, q_ty1, rfl, q_ws1, q_tk1, q_nm1, by decide, k_77, rfl, by decide +kernel, rfl⟩
theorem fl_ss_15 : q_F "ZnodeService$Session" 15 2 1 (.array (.int)) true := ⟨_, _, _, q_ty2, rfl, q_ws2, q_tk2, q_nm2, by decide, k_100, rfl, by decide +kernel, rfl⟩
theorem fl_ss_18 : q_F "ZnodeService$Session" 18 2 2 (.int) false := ⟨_, _, _, q_ty2, rfl, q_ws2, q_tk2, q_nm2, by decide, k_101, rfl, by decide +kernel, rfl⟩
theorem fl_ss_22 : q_F "ZnodeService$Session" 22 2 3 (.boolean) false := ⟨_, _, _, q_ty2, rfl, q_ws2, q_tk2, q_nm2, by decide, k_103, rfl, by decide +kernel, rfl⟩
theorem fl_ss_26 : q_F "ZnodeService$Session" 26 2 4 (.boolean) false := ⟨_, _, _, q_ty2, rfl, q_ws2, q_tk2, q_nm2, by decide, k_105, rfl, by decide +kernel, rfl⟩
theorem fl_ss_29 : q_F "ZnodeService$Session" 29 2 5 (.int) false := ⟨_, _, _, q_ty2, rfl, q_ws2, q_tk2, q_nm2, by decide, k_107, rfl, by decide +kernel, rfl⟩
theorem fl_ss_32 : q_F "ZnodeService$Session" 32 2 6 (.int) false := ⟨_, _, _, q_ty2, rfl, q_ws2, q_tk2, q_nm2, by decide, k_109, rfl, by decide +kernel, rfl⟩
theorem fl_ss_35 : q_F "ZnodeService$Session" 35 2 7 (.int) false := ⟨_, _, _, q_ty2, rfl, q_ws2, q_tk2, q_nm2, by decide, k_111, rfl, by decide +kernel, rfl⟩
theorem fl_ss_47 : q_F "ZnodeService$Session" 47 0 0 (.int) true := ⟨_, _, _, q_ty0, rfl, q_ws0, q_tk0, q_nm0, by decide, k_303, rfl, by decide +kernel, rfl⟩
theorem fl_ss_52 : q_F "ZnodeService$Session" 52 0 1 (.int) true := ⟨_, _, _, q_ty0, rfl, q_ws0, q_tk0, q_nm0, by decide, k_306, rfl, by decide +kernel, rfl⟩
theorem fl_ss_59 : q_F "ZnodeService$Session" 59 3 2 (.array (.int)) true := ⟨_, _, _, q_ty3, rfl, q_ws3, q_tk3, q_nm3, by decide, k_43, rfl, by decide +kernel, rfl⟩
theorem fl_ss_64 : q_F "ZnodeService$Session" 64 0 3 (.int) true := ⟨_, _, _, q_ty0, rfl, q_ws0, q_tk0, q_nm0, by decide, k_311, rfl, by decide +kernel, rfl⟩
theorem fl_ss_9 : q_F "ZnodeService$Session" 9 2 0 (.array (.int)) true := ⟨_, _, _, q_ty2, rfl, q_ws2, q_tk2, q_nm2, by decide, k_99, rfl, by decide +kernel, rfl⟩
theorem fl_tr_15 : q_F "ZnodeService$Tree" 15 3 1 (.array (.int)) true := ⟨_, _, _, q_ty3, rfl, q_ws3, q_tk3, q_nm3, by decide, k_39, rfl, by decide +kernel, rfl⟩
theorem fl_tr_18 : q_F "ZnodeService$Tree" 18 3 2 (.array (.int)) true := ⟨_, _, _, q_ty3, rfl, q_ws3, q_tk3, q_nm3, by decide, k_41, rfl, by decide +kernel, rfl⟩
theorem fl_tr_21 : q_F "ZnodeService$Tree" 21 3 3 (.array (.int)) true := ⟨_, _, _, q_ty3, rfl, q_ws3, q_tk3, q_nm3, by decide, k_44, rfl, by decide +kernel, rfl⟩
theorem fl_tr_30 : q_F "ZnodeService$Tree" 30 0 0 (.int) true := ⟨_, _, _, q_ty0, rfl, q_ws0, q_tk0, q_nm0, by decide, k_302, rfl, by decide +kernel, rfl⟩
theorem fl_tr_40 : q_F "ZnodeService$Tree" 40 0 1 (.int) true := ⟨_, _, _, q_ty0, rfl, q_ws0, q_tk0, q_nm0, by decide, k_305, rfl, by decide +kernel, rfl⟩
theorem fl_tr_43 : q_F "ZnodeService$Tree" 43 0 2 (.int) true := ⟨_, _, _, q_ty0, rfl, q_ws0, q_tk0, q_nm0, by decide, k_308, rfl, by decide +kernel, rfl⟩
theorem fl_tr_49 : q_F "ZnodeService$Tree" 49 0 3 (.int) true := ⟨_, _, _, q_ty0, rfl, q_ws0, q_tk0, q_nm0, by decide, k_310, rfl, by decide +kernel, rfl⟩
theorem fl_tr_54 : q_F "ZnodeService$Tree" 54 0 4 (.boolean) true := ⟨_, _, _, q_ty0, rfl, q_ws0, q_tk0, q_nm0, by decide, k_313, rfl, by decide +kernel, rfl⟩
theorem fl_tr_9 : q_F "ZnodeService$Tree" 9 3 0 (.array (.int)) true := ⟨_, _, _, q_ty3, rfl, q_ws3, q_tk3, q_nm3, by decide, k_37, rfl, by decide +kernel, rfl⟩
theorem fl_zs_100 : q_F "ZnodeService" 100 2 5 (.int) false := ⟨_, _, _, q_ty2, rfl, q_ws2, q_tk2, q_nm2, by decide, k_108, rfl, by decide +kernel, rfl⟩
theorem fl_zs_11 : q_F "ZnodeService" 11 4 0 (.array (.object "ZnodeService$Server")) true := ⟨_, _, _, q_ty4, rfl, q_ws4, q_tk4, q_nm4, by decide, k_130, rfl, by decide +kernel, rfl⟩
theorem fl_zs_113 : q_F "ZnodeService" 113 3 2 (.array (.int)) true := ⟨_, _, _, q_ty3, rfl, q_ws3, q_tk3, q_nm3, by decide, k_42, rfl, by decide +kernel, rfl⟩
theorem fl_zs_117 : q_F "ZnodeService" 117 3 3 (.array (.int)) true := ⟨_, _, _, q_ty3, rfl, q_ws3, q_tk3, q_nm3, by decide, k_45, rfl, by decide +kernel, rfl⟩
theorem fl_zs_152 : q_F "ZnodeService" 152 3 1 (.array (.int)) true := ⟨_, _, _, q_ty3, rfl, q_ws3, q_tk3, q_nm3, by decide, k_40, rfl, by decide +kernel, rfl⟩
theorem fl_zs_166 : q_F "ZnodeService" 166 3 0 (.array (.int)) true := ⟨_, _, _, q_ty3, rfl, q_ws3, q_tk3, q_nm3, by decide, k_38, rfl, by decide +kernel, rfl⟩
theorem fl_zs_17 : q_F "ZnodeService" 17 4 1 (.array (.object "ZnodeService$Session")) true := ⟨_, _, _, q_ty4, rfl, q_ws4, q_tk4, q_nm4, by decide, k_131, rfl, by decide +kernel, rfl⟩
theorem fl_zs_179 : q_F "ZnodeService" 179 1 2 (.int) false := ⟨_, _, _, q_ty1, rfl, q_ws1, q_tk1, q_nm1, by decide, k_70, rfl, by decide +kernel, rfl⟩
theorem fl_zs_185 : q_F "ZnodeService" 185 1 3 (.int) false := ⟨_, _, _, q_ty1, rfl, q_ws1, q_tk1, q_nm1, by decide, k_72, rfl, by decide +kernel, rfl⟩
theorem fl_zs_188 : q_F "ZnodeService" 188 1 6 (.boolean) false := ⟨_, _, _, q_ty1, rfl, q_ws1, q_tk1, q_nm1, by decide, k_78, rfl, by decide +kernel, rfl⟩
theorem fl_zs_202 : q_F "ZnodeService" 202 2 6 (.int) false := ⟨_, _, _, q_ty2, rfl, q_ws2, q_tk2, q_nm2, by decide, k_110, rfl, by decide +kernel, rfl⟩
theorem fl_zs_205 : q_F "ZnodeService" 205 1 1 (.object "ZnodeService$Tree") true := ⟨_, _, _, q_ty1, rfl, q_ws1, q_tk1, q_nm1, by decide, k_68, rfl, by decide +kernel, rfl⟩
theorem fl_zs_211 : q_F "ZnodeService" 211 1 4 (.int) false := ⟨_, _, _, q_ty1, rfl, q_ws1, q_tk1, q_nm1, by decide, k_74, rfl, by decide +kernel, rfl⟩
theorem fl_zs_232 : q_F "ZnodeService" 232 1 0 (.array (.object "ZnodeService$Entry")) true := ⟨_, _, _, q_ty1, rfl, q_ws1, q_tk1, q_nm1, by decide, k_66, rfl, by decide +kernel, rfl⟩
theorem fl_zs_24 : q_F "ZnodeService" 24 4 2 (.object "ZnodeService$Tree") true := ⟨_, _, _, q_ty4, rfl, q_ws4, q_tk4, q_nm4, by decide, k_132, rfl, by decide +kernel, rfl⟩
theorem fl_zs_28 : q_F "ZnodeService" 28 4 3 (.int) false := ⟨_, _, _, q_ty4, rfl, q_ws4, q_tk4, q_nm4, by decide, k_133, rfl, by decide +kernel, rfl⟩
theorem fl_zs_32 : q_F "ZnodeService" 32 4 4 (.int) false := ⟨_, _, _, q_ty4, rfl, q_ws4, q_tk4, q_nm4, by decide, k_134, rfl, by decide +kernel, rfl⟩
theorem fl_zs_35 : q_F "ZnodeService" 35 4 5 (.int) false := ⟨_, _, _, q_ty4, rfl, q_ws4, q_tk4, q_nm4, by decide, k_135, rfl, by decide +kernel, rfl⟩
theorem fl_zs_51 : q_F "ZnodeService" 51 2 3 (.boolean) false := ⟨_, _, _, q_ty2, rfl, q_ws2, q_tk2, q_nm2, by decide, k_104, rfl, by decide +kernel, rfl⟩
theorem fl_zs_55 : q_F "ZnodeService" 55 2 4 (.boolean) false := ⟨_, _, _, q_ty2, rfl, q_ws2, q_tk2, q_nm2, by decide, k_106, rfl, by decide +kernel, rfl⟩
theorem fl_zs_88 : q_F "ZnodeService" 88 2 7 (.int) false := ⟨_, _, _, q_ty2, rfl, q_ws2, q_tk2, q_nm2, by decide, k_112, rfl, by decide +kernel, rfl⟩
theorem fl_zs_91 : q_F "ZnodeService" 91 2 2 (.int) false := ⟨_, _, _, q_ty2, rfl, q_ws2, q_tk2, q_nm2, by decide, k_102, rfl, by decide +kernel, rfl⟩
theorem fl_zs_97 : q_F "ZnodeService" 97 1 5 (.boolean) false := ⟨_, _, _, q_ty1, rfl, q_ws1, q_tk1, q_nm1, by decide, k_76, rfl, by decide +kernel, rfl⟩
theorem fl_md_105 : q_F "ZnodeServiceModel" 105 5 10 (.int) false := ⟨_, _, _, q_ty5, rfl, q_ws5, q_tk5, q_nm5, by decide, k_632, rfl, by decide +kernel, rfl⟩
theorem fl_md_13 : q_F "ZnodeServiceModel" 13 5 2 (.array (.int)) true := ⟨_, _, _, q_ty5, rfl, q_ws5, q_tk5, q_nm5, by decide, k_624, rfl, by decide +kernel, rfl⟩
theorem fl_md_152 : q_F "ZnodeServiceModel" 152 5 12 (.int) false := ⟨_, _, _, q_ty5, rfl, q_ws5, q_tk5, q_nm5, by decide, k_634, rfl, by decide +kernel, rfl⟩
theorem fl_md_16 : q_F "ZnodeServiceModel" 16 5 3 (.array (.int)) true := ⟨_, _, _, q_ty5, rfl, q_ws5, q_tk5, q_nm5, by decide, k_625, rfl, by decide +kernel, rfl⟩
theorem fl_md_19 : q_F "ZnodeServiceModel" 19 5 4 (.array (.int)) true := ⟨_, _, _, q_ty5, rfl, q_ws5, q_tk5, q_nm5, by decide, k_626, rfl, by decide +kernel, rfl⟩
theorem fl_md_22 : q_F "ZnodeServiceModel" 22 5 5 (.array (.int)) true := ⟨_, _, _, q_ty5, rfl, q_ws5, q_tk5, q_nm5, by decide, k_627, rfl, by decide +kernel, rfl⟩
theorem fl_md_25 : q_F "ZnodeServiceModel" 25 5 6 (.array (.int)) true := ⟨_, _, _, q_ty5, rfl, q_ws5, q_tk5, q_nm5, by decide, k_628, rfl, by decide +kernel, rfl⟩
theorem fl_md_28 : q_F "ZnodeServiceModel" 28 5 7 (.array (.int)) true := ⟨_, _, _, q_ty5, rfl, q_ws5, q_tk5, q_nm5, by decide, k_629, rfl, by decide +kernel, rfl⟩
theorem fl_md_31 : q_F "ZnodeServiceModel" 31 5 8 (.array (.boolean)) true := ⟨_, _, _, q_ty5, rfl, q_ws5, q_tk5, q_nm5, by decide, k_630, rfl, by decide +kernel, rfl⟩
theorem fl_md_35 : q_F "ZnodeServiceModel" 35 5 9 (.array (.boolean)) true := ⟨_, _, _, q_ty5, rfl, q_ws5, q_tk5, q_nm5, by decide, k_631, rfl, by decide +kernel, rfl⟩
theorem fl_md_38 : q_F "ZnodeServiceModel" 38 5 11 (.int) false := ⟨_, _, _, q_ty5, rfl, q_ws5, q_tk5, q_nm5, by decide, k_633, rfl, by decide +kernel, rfl⟩
theorem fl_md_42 : q_F "ZnodeServiceModel" 42 5 13 (.array (.boolean)) true := ⟨_, _, _, q_ty5, rfl, q_ws5, q_tk5, q_nm5, by decide, k_635, rfl, by decide +kernel, rfl⟩
theorem fl_md_45 : q_F "ZnodeServiceModel" 45 5 14 (.array (.boolean)) true := ⟨_, _, _, q_ty5, rfl, q_ws5, q_tk5, q_nm5, by decide, k_636, rfl, by decide +kernel, rfl⟩
theorem fl_md_48 : q_F "ZnodeServiceModel" 48 5 15 (.array (.int)) true := ⟨_, _, _, q_ty5, rfl, q_ws5, q_tk5, q_nm5, by decide, k_637, rfl, by decide +kernel, rfl⟩
theorem fl_md_51 : q_F "ZnodeServiceModel" 51 5 16 (.array (.int)) true := ⟨_, _, _, q_ty5, rfl, q_ws5, q_tk5, q_nm5, by decide, k_638, rfl, by decide +kernel, rfl⟩
theorem fl_md_54 : q_F "ZnodeServiceModel" 54 5 17 (.array (.int)) true := ⟨_, _, _, q_ty5, rfl, q_ws5, q_tk5, q_nm5, by decide, k_639, rfl, by decide +kernel, rfl⟩
theorem fl_md_57 : q_F "ZnodeServiceModel" 57 5 18 (.array (.boolean)) true := ⟨_, _, _, q_ty5, rfl, q_ws5, q_tk5, q_nm5, by decide, k_640, rfl, by decide +kernel, rfl⟩
theorem fl_md_60 : q_F "ZnodeServiceModel" 60 5 19 (.array (.boolean)) true := ⟨_, _, _, q_ty5, rfl, q_ws5, q_tk5, q_nm5, by decide, k_641, rfl, by decide +kernel, rfl⟩
theorem fl_md_63 : q_F "ZnodeServiceModel" 63 5 20 (.array (.int)) true := ⟨_, _, _, q_ty5, rfl, q_ws5, q_tk5, q_nm5, by decide, k_642, rfl, by decide +kernel, rfl⟩
theorem fl_md_66 : q_F "ZnodeServiceModel" 66 5 21 (.array (.int)) true := ⟨_, _, _, q_ty5, rfl, q_ws5, q_tk5, q_nm5, by decide, k_643, rfl, by decide +kernel, rfl⟩
theorem fl_md_69 : q_F "ZnodeServiceModel" 69 5 22 (.array (.boolean)) true := ⟨_, _, _, q_ty5, rfl, q_ws5, q_tk5, q_nm5, by decide, k_644, rfl, by decide +kernel, rfl⟩
theorem fl_md_7 : q_F "ZnodeServiceModel" 7 5 1 (.array (.int)) true := ⟨_, _, _, q_ty5, rfl, q_ws5, q_tk5, q_nm5, by decide, k_623, rfl, by decide +kernel, rfl⟩
theorem fl_md_72 : q_F "ZnodeServiceModel" 72 5 23 (.array (.int)) true := ⟨_, _, _, q_ty5, rfl, q_ws5, q_tk5, q_nm5, by decide, k_645, rfl, by decide +kernel, rfl⟩
theorem fl_md_75 : q_F "ZnodeServiceModel" 75 5 24 (.array (.int)) true := ⟨_, _, _, q_ty5, rfl, q_ws5, q_tk5, q_nm5, by decide, k_646, rfl, by decide +kernel, rfl⟩
theorem fl_md_78 : q_F "ZnodeServiceModel" 78 5 25 (.array (.int)) true := ⟨_, _, _, q_ty5, rfl, q_ws5, q_tk5, q_nm5, by decide, k_647, rfl, by decide +kernel, rfl⟩
theorem fl_md_81 : q_F "ZnodeServiceModel" 81 5 26 (.array (.int)) true := ⟨_, _, _, q_ty5, rfl, q_ws5, q_tk5, q_nm5, by decide, k_648, rfl, by decide +kernel, rfl⟩
theorem fl_md_84 : q_F "ZnodeServiceModel" 84 5 0 (.int) false := ⟨_, _, _, q_ty5, rfl, q_ws5, q_tk5, q_nm5, by decide, k_622, rfl, by decide +kernel, rfl⟩
theorem ci_sv_19 : q_CI "ZnodeService$Server" 19 m_tr_init 0 := ⟨rfl, rfl, rfl, k_32, k_64, k_31, k_2, ⟨⟨by decide +kernel, by decide +kernel⟩, by decide +kernel⟩⟩
theorem ci_zs_135 : q_CI "ZnodeService" 135 m_en_init 5 := ⟨rfl, rfl, rfl, k_299, k_297, k_298, k_12, ⟨⟨by decide +kernel, by decide +kernel⟩, by decide +kernel⟩⟩
theorem ci_zs_23 : q_CI "ZnodeService" 23 m_tr_init 0 := ⟨rfl, rfl, rfl, k_32, k_30, k_31, k_2, ⟨⟨by decide +kernel, by decide +kernel⟩, by decide +kernel⟩⟩
theorem cm_zs_38 : q_CIN "ZnodeService" 38 m_sv_init 0 := ⟨rfl, rfl, rfl, k_59, k_57, k_58, k_4, ⟨⟨by decide +kernel, by decide +kernel⟩, by decide +kernel⟩⟩
theorem cm_zs_39 : q_CIN "ZnodeService" 39 m_ss_init 0 := ⟨rfl, rfl, rfl, k_97, k_95, k_96, k_5, ⟨⟨by decide +kernel, by decide +kernel⟩, by decide +kernel⟩⟩
theorem ci_lw_84 : q_CI "ZnodeServiceLaw" 84 m_zs_init 0 := ⟨rfl, rfl, rfl, k_20, k_18, k_19, k_1, ⟨⟨by decide +kernel, by decide +kernel⟩, by decide +kernel⟩⟩
theorem ci_lw_87 : q_CI "ZnodeServiceLaw" 87 m_md_init 0 := ⟨rfl, rfl, rfl, k_620, k_618, k_619, k_6, ⟨⟨by decide +kernel, by decide +kernel⟩, by decide +kernel⟩⟩
theorem nw_sv_17 : q_N "ZnodeService$Server" 17 3 4 [.null, .null, .null, .null] := ⟨_, _, q_ty3, rfl, q_ws3, q_tk3, k_63, k_29, k_2, by intro j hj; have h9 := hj; revert h9; revert hj; revert j; decide +kernel, fun _ => rfl⟩
theorem xx_zs_120 : q_X "ZnodeService" 120 122 "java/lang/UnsupportedOperationException" := ⟨by decide +kernel, k_436, k_14, by decide +kernel⟩
theorem xx_zs_130 : q_X "ZnodeService" 130 132 "java/lang/IndexOutOfBoundsException" := ⟨by decide +kernel, k_452, k_15, by decide +kernel⟩
theorem nw_zs_133 : q_N "ZnodeService" 133 0 5 [.int 0, .int 0, .int 0, .int 0, .int 0] := ⟨_, _, q_ty0, rfl, q_ws0, q_tk0, k_295, k_296, k_12, by intro j hj; have h9 := hj; revert h9; revert hj; revert j; decide +kernel, fun _ => rfl⟩
theorem nw_zs_15 : q_N "ZnodeService" 15 2 8 [.null, .null, .int 0, .int 0, .int 0, .int 0, .int 0, .int 0] := ⟨_, _, q_ty2, rfl, q_ws2, q_tk2, k_26, k_94, k_5, by intro j hj; have h9 := hj; revert h9; revert hj; revert j; decide +kernel, fun _ => rfl⟩
theorem xx_zs_169 : q_X "ZnodeService" 169 171 "java/util/NoSuchElementException" := ⟨by decide +kernel, k_421, k_13, by decide +kernel⟩
theorem nw_zs_21 : q_N "ZnodeService" 21 3 4 [.null, .null, .null, .null] := ⟨_, _, q_ty3, rfl, q_ws3, q_tk3, k_28, k_29, k_2, by intro j hj; have h9 := hj; revert h9; revert hj; revert j; decide +kernel, fun _ => rfl⟩
theorem xx_zs_217 : q_X "ZnodeService" 217 219 "java/lang/IllegalArgumentException" := ⟨by decide +kernel, k_164, k_10, by decide +kernel⟩
theorem xx_zs_66 : q_X "ZnodeService" 66 68 "java/lang/IllegalStateException" := ⟨by decide +kernel, k_244, k_11, by decide +kernel⟩
theorem nw_zs_9 : q_N "ZnodeService" 9 1 7 [.null, .null, .int 0, .int 0, .int 0, .int 0, .int 0] := ⟨_, _, q_ty1, rfl, q_ws1, q_tk1, k_24, k_56, k_4, by intro j hj; have h9 := hj; revert h9; revert hj; revert j; decide +kernel, fun _ => rfl⟩
theorem nw_lw_8 : q_N "ZnodeServiceLaw" 8 4 6 [.null, .null, .null, .int 0, .int 0, .int 0] := ⟨_, _, q_ty4, rfl, q_ws4, q_tk4, k_16, k_17, k_1, by intro j hj; have h9 := hj; revert h9; revert hj; revert j; decide +kernel, fun _ => rfl⟩
theorem nw_lw_85 : q_N "ZnodeServiceLaw" 85 5 27 [.int 0, .null, .null, .null, .null, .null, .null, .null, .null, .null, .int 0, .int 0, .int 0, .null, .null, .null, .null, .null, .null, .null, .null, .null, .null, .null, .null, .null, .null] := ⟨_, _, q_ty5, rfl, q_ws5, q_tk5, k_616, k_617, k_6, by intro j hj; have h9 := hj; revert h9; revert hj; revert j; decide +kernel, fun _ => rfl⟩
theorem cs_ss_41 : q_CS "ZnodeService$Session" 41 m_ar_fill 2 := ⟨rfl, k_36, k_290, k_35, k_3, ⟨⟨by decide +kernel, by decide +kernel⟩, by decide +kernel⟩⟩
theorem cn_ss_70 : q_CSN "ZnodeService$Session" 70 m_zs_parentOf 1 := ⟨rfl, k_343, k_383, k_342, k_1, ⟨⟨by decide +kernel, by decide +kernel⟩, by decide +kernel⟩⟩
theorem cs_tr_24 : q_CS "ZnodeService$Tree" 24 m_ar_fill 2 := ⟨rfl, k_36, k_34, k_35, k_3, ⟨⟨by decide +kernel, by decide +kernel⟩, by decide +kernel⟩⟩
theorem cn_tr_58 : q_CSN "ZnodeService$Tree" 58 m_zs_parentOf 1 := ⟨rfl, k_343, k_341, k_342, k_1, ⟨⟨by decide +kernel, by decide +kernel⟩, by decide +kernel⟩⟩
theorem cn_tr_62 : q_CSN "ZnodeService$Tree" 62 m_zs_childOf 2 := ⟨rfl, k_346, k_344, k_345, k_1, ⟨⟨by decide +kernel, by decide +kernel⟩, by decide +kernel⟩⟩
theorem cs_zs_106 : q_CS "ZnodeService" 106 m_zs_parentOf 1 := ⟨rfl, k_343, k_413, k_342, k_1, ⟨⟨by decide +kernel, by decide +kernel⟩, by decide +kernel⟩⟩
theorem cs_zs_109 : q_CS "ZnodeService" 109 m_zs_requireNode 2 := ⟨rfl, k_416, k_414, k_415, k_1, ⟨⟨by decide +kernel, by decide +kernel⟩, by decide +kernel⟩⟩
theorem cs_zs_123 : q_CS "ZnodeService" 123 m_zs_childOf 2 := ⟨rfl, k_346, k_451, k_345, k_1, ⟨⟨by decide +kernel, by decide +kernel⟩, by decide +kernel⟩⟩
theorem cs_zs_142 : q_CS "ZnodeService" 142 m_zs_requirePath 1 := ⟨rfl, k_480, k_478, k_479, k_1, ⟨⟨by decide +kernel, by decide +kernel⟩, by decide +kernel⟩⟩
theorem cs_zs_145 : q_CS "ZnodeService" 145 m_zs_requireVersion 1 := ⟨rfl, k_483, k_481, k_482, k_1, ⟨⟨by decide +kernel, by decide +kernel⟩, by decide +kernel⟩⟩
theorem cs_zs_40 : q_CS "ZnodeService" 40 m_zs_requireSession 1 := ⟨rfl, k_160, k_158, k_159, k_1, ⟨⟨by decide +kernel, by decide +kernel⟩, by decide +kernel⟩⟩
theorem cs_zs_44 : q_CS "ZnodeService" 44 m_zs_requireServer 1 := ⟨rfl, k_231, k_229, k_230, k_1, ⟨⟨by decide +kernel, by decide +kernel⟩, by decide +kernel⟩⟩
theorem cs_zs_47 : q_CS "ZnodeService" 47 m_zs_requireRange 3 := ⟨rfl, k_163, k_161, k_162, k_1, ⟨⟨by decide +kernel, by decide +kernel⟩, by decide +kernel⟩⟩
theorem cx_lw_101 : q_CSX "ZnodeServiceLaw" 101 m_lw_ping 3 := ⟨⟨_, _, rfl⟩, k_386, k_384, k_385, k_0, ⟨⟨by decide +kernel, by decide +kernel⟩, by decide +kernel⟩⟩
theorem cx_lw_104 : q_CSX "ZnodeServiceLaw" 104 m_lw_move 4 := ⟨⟨_, _, rfl⟩, k_393, k_391, k_392, k_0, ⟨⟨by decide +kernel, by decide +kernel⟩, by decide +kernel⟩⟩
theorem cx_lw_108 : q_CSX "ZnodeServiceLaw" 108 m_lw_create 6 := ⟨⟨_, _, rfl⟩, k_405, k_403, k_404, k_0, ⟨⟨by decide +kernel, by decide +kernel⟩, by decide +kernel⟩⟩
theorem cx_lw_112 : q_CSX "ZnodeServiceLaw" 112 m_lw_set 6 := ⟨⟨_, _, rfl⟩, k_473, k_471, k_472, k_0, ⟨⟨by decide +kernel, by decide +kernel⟩, by decide +kernel⟩⟩
theorem cx_lw_115 : q_CSX "ZnodeServiceLaw" 115 m_lw_delete 5 := ⟨⟨_, _, rfl⟩, k_490, k_488, k_489, k_0, ⟨⟨by decide +kernel, by decide +kernel⟩, by decide +kernel⟩⟩
theorem cx_lw_118 : q_CSX "ZnodeServiceLaw" 118 m_lw_get 5 := ⟨⟨_, _, rfl⟩, k_502, k_500, k_501, k_0, ⟨⟨by decide +kernel, by decide +kernel⟩, by decide +kernel⟩⟩
theorem cx_lw_122 : q_CSX "ZnodeServiceLaw" 122 m_lw_exists 5 := ⟨⟨_, _, rfl⟩, k_517, k_515, k_516, k_0, ⟨⟨by decide +kernel, by decide +kernel⟩, by decide +kernel⟩⟩
theorem cx_lw_125 : q_CSX "ZnodeServiceLaw" 125 m_lw_children 5 := ⟨⟨_, _, rfl⟩, k_524, k_522, k_523, k_0, ⟨⟨by decide +kernel, by decide +kernel⟩, by decide +kernel⟩⟩
theorem cx_lw_128 : q_CSX "ZnodeServiceLaw" 128 m_lw_fact 5 := ⟨⟨_, _, rfl⟩, k_531, k_529, k_530, k_0, ⟨⟨by decide +kernel, by decide +kernel⟩, by decide +kernel⟩⟩
theorem cx_lw_131 : q_CSX "ZnodeServiceLaw" 131 m_lw_event 3 := ⟨⟨_, _, rfl⟩, k_538, k_536, k_537, k_0, ⟨⟨by decide +kernel, by decide +kernel⟩, by decide +kernel⟩⟩
theorem cx_lw_134 : q_CSX "ZnodeServiceLaw" 134 m_lw_crash 3 := ⟨⟨_, _, rfl⟩, k_549, k_547, k_548, k_0, ⟨⟨by decide +kernel, by decide +kernel⟩, by decide +kernel⟩⟩
theorem cx_lw_137 : q_CSX "ZnodeServiceLaw" 137 m_lw_restart 3 := ⟨⟨_, _, rfl⟩, k_556, k_554, k_555, k_0, ⟨⟨by decide +kernel, by decide +kernel⟩, by decide +kernel⟩⟩
theorem cx_lw_140 : q_CSX "ZnodeServiceLaw" 140 m_lw_alone 4 := ⟨⟨_, _, rfl⟩, k_563, k_561, k_562, k_0, ⟨⟨by decide +kernel, by decide +kernel⟩, by decide +kernel⟩⟩
theorem cx_lw_144 : q_CSX "ZnodeServiceLaw" 144 m_lw_elect 2 := ⟨⟨_, _, rfl⟩, k_570, k_568, k_569, k_0, ⟨⟨by decide +kernel, by decide +kernel⟩, by decide +kernel⟩⟩
theorem cx_lw_148 : q_CSX "ZnodeServiceLaw" 148 m_lw_tick 3 := ⟨⟨_, _, rfl⟩, k_589, k_587, k_588, k_0, ⟨⟨by decide +kernel, by decide +kernel⟩, by decide +kernel⟩⟩
theorem cx_lw_151 : q_CSX "ZnodeServiceLaw" 151 m_lw_state 4 := ⟨⟨_, _, rfl⟩, k_596, k_594, k_595, k_0, ⟨⟨by decide +kernel, by decide +kernel⟩, by decide +kernel⟩⟩
theorem cx_lw_154 : q_CSX "ZnodeServiceLaw" 154 m_lw_count 3 := ⟨⟨_, _, rfl⟩, k_607, k_605, k_606, k_0, ⟨⟨by decide +kernel, by decide +kernel⟩, by decide +kernel⟩⟩
theorem cx_lw_88 : q_CSX "ZnodeServiceLaw" 88 m_lw_open 5 := ⟨⟨_, _, rfl⟩, k_151, k_149, k_150, k_0, ⟨⟨by decide +kernel, by decide +kernel⟩, by decide +kernel⟩⟩
theorem cx_lw_97 : q_CSX "ZnodeServiceLaw" 97 m_lw_close 3 := ⟨⟨_, _, rfl⟩, k_265, k_263, k_264, k_0, ⟨⟨by decide +kernel, by decide +kernel⟩, by decide +kernel⟩⟩
theorem cv_ss_38 : q_CV "ZnodeService$Session" 38 m_ss_dropWatches 0 := ⟨rfl, k_289, k_286, k_287, k_288, k_5, ⟨⟨by decide +kernel, by decide +kernel⟩, by decide +kernel⟩⟩
theorem cv_ss_55 : q_CV "ZnodeService$Session" 55 m_ss_tellOf 2 := ⟨rfl, k_378, k_375, k_377, k_s10, k_5, ⟨⟨by decide +kernel, by decide +kernel⟩, by decide +kernel⟩⟩
theorem cv_ss_66 : q_CV "ZnodeService$Session" 66 m_ss_tellWatches 3 := ⟨rfl, k_382, k_379, k_381, k_s11, k_5, ⟨⟨by decide +kernel, by decide +kernel⟩, by decide +kernel⟩⟩
theorem cv_tr_36 : q_CV "ZnodeService$Tree" 36 m_tr_makeNode 1 := ⟨rfl, k_340, k_337, k_338, k_339, k_2, ⟨⟨by decide +kernel, by decide +kernel⟩, by decide +kernel⟩⟩
theorem cv_tr_45 : q_CV "ZnodeService$Tree" 45 m_tr_dropNode 1 := ⟨rfl, k_350, k_347, k_348, k_349, k_2, ⟨⟨by decide +kernel, by decide +kernel⟩, by decide +kernel⟩⟩
theorem cv_tr_51 : q_CV "ZnodeService$Tree" 51 m_tr_dropOwned 1 := ⟨rfl, k_354, k_351, k_352, k_353, k_2, ⟨⟨by decide +kernel, by decide +kernel⟩, by decide +kernel⟩⟩
theorem cv_tr_66 : q_CV "ZnodeService$Tree" 66 m_tr_has 1 := ⟨rfl, k_420, k_499, k_418, k_419, k_2, ⟨⟨by decide +kernel, by decide +kernel⟩, by decide +kernel⟩⟩
theorem cv_zs_103 : q_CV "ZnodeService" 103 m_ss_dropWatches 0 := ⟨rfl, k_289, k_402, k_287, k_288, k_5, ⟨⟨by decide +kernel, by decide +kernel⟩, by decide +kernel⟩⟩
theorem cv_zs_127 : q_CV "ZnodeService" 127 m_tr_has 1 := ⟨rfl, k_420, k_417, k_418, k_419, k_2, ⟨⟨by decide +kernel, by decide +kernel⟩, by decide +kernel⟩⟩
theorem cv_zs_138 : q_CV "ZnodeService" 138 m_zs_proposeChange 1 := ⟨rfl, k_470, k_467, k_469, k_s13, k_1, ⟨⟨by decide +kernel, by decide +kernel⟩, by decide +kernel⟩⟩
theorem cv_zs_148 : q_CV "ZnodeService" 148 m_zs_isOtherVersion 2 := ⟨rfl, k_487, k_484, k_486, k_s14, k_1, ⟨⟨by decide +kernel, by decide +kernel⟩, by decide +kernel⟩⟩
theorem cv_zs_155 : q_CV "ZnodeService" 155 m_tr_childrenOf 1 := ⟨rfl, k_498, k_495, k_496, k_497, k_2, ⟨⟨by decide +kernel, by decide +kernel⟩, by decide +kernel⟩⟩
theorem cv_zs_158 : q_CV "ZnodeService" 158 m_zs_treeOf 1 := ⟨rfl, k_510, k_507, k_509, k_s15, k_1, ⟨⟨by decide +kernel, by decide +kernel⟩, by decide +kernel⟩⟩
theorem cv_zs_162 : q_CV "ZnodeService" 162 m_ss_watch 2 := ⟨rfl, k_514, k_511, k_512, k_513, k_5, ⟨⟨by decide +kernel, by decide +kernel⟩, by decide +kernel⟩⟩
theorem cv_zs_172 : q_CV "ZnodeService" 172 m_ss_takeEvent 0 := ⟨rfl, k_546, k_543, k_544, k_545, k_5, ⟨⟨by decide +kernel, by decide +kernel⟩, by decide +kernel⟩⟩
theorem cv_zs_176 : q_CV "ZnodeService" 176 m_zs_isAt 2 := ⟨rfl, k_370, k_367, k_369, k_s9, k_1, ⟨⟨by decide +kernel, by decide +kernel⟩, by decide +kernel⟩⟩
theorem cv_zs_182 : q_CV "ZnodeService" 182 m_zs_spread 0 := ⟨rfl, k_358, k_355, k_357, k_s7, k_1, ⟨⟨by decide +kernel, by decide +kernel⟩, by decide +kernel⟩⟩
theorem cv_zs_191 : q_CV "ZnodeService" 191 m_sv_isOnline 0 := ⟨rfl, k_239, k_236, k_237, k_238, k_4, ⟨⟨by decide +kernel, by decide +kernel⟩, by decide +kernel⟩⟩
theorem cv_zs_194 : q_CV "ZnodeService" 194 m_sv_leadsBefore 1 := ⟨rfl, k_578, k_575, k_576, k_577, k_4, ⟨⟨by decide +kernel, by decide +kernel⟩, by decide +kernel⟩⟩
theorem cv_zs_198 : q_CV "ZnodeService" 198 m_zs_planAnew 1 := ⟨rfl, k_582, k_579, k_581, k_s16, k_1, ⟨⟨by decide +kernel, by decide +kernel⟩, by decide +kernel⟩⟩
theorem cv_zs_208 : q_CV "ZnodeService" 208 m_tr_countNodes 0 := ⟨rfl, k_604, k_601, k_602, k_603, k_2, ⟨⟨by decide +kernel, by decide +kernel⟩, by decide +kernel⟩⟩
theorem cv_zs_214 : q_CV "ZnodeService" 214 m_ss_standing 0 := ⟨rfl, k_615, k_612, k_613, k_614, k_5, ⟨⟨by decide +kernel, by decide +kernel⟩, by decide +kernel⟩⟩
theorem cv_zs_220 : q_CV "ZnodeService" 220 m_zs_appendAndPlan 1 := ⟨rfl, k_328, k_325, k_327, k_s6, k_1, ⟨⟨by decide +kernel, by decide +kernel⟩, by decide +kernel⟩⟩
theorem cv_zs_223 : q_CV "ZnodeService" 223 m_sv_append 1 := ⟨rfl, k_332, k_329, k_330, k_331, k_4, ⟨⟨by decide +kernel, by decide +kernel⟩, by decide +kernel⟩⟩
theorem cv_zs_226 : q_CV "ZnodeService" 226 m_tr_play 1 := ⟨rfl, k_336, k_333, k_334, k_335, k_2, ⟨⟨by decide +kernel, by decide +kernel⟩, by decide +kernel⟩⟩
theorem cv_zs_229 : q_CV "ZnodeService" 229 m_tr_clear 0 := ⟨rfl, k_586, k_583, k_584, k_585, k_2, ⟨⟨by decide +kernel, by decide +kernel⟩, by decide +kernel⟩⟩
theorem cv_zs_236 : q_CV "ZnodeService" 236 m_sv_follow 2 := ⟨rfl, k_362, k_359, k_360, k_361, k_4, ⟨⟨by decide +kernel, by decide +kernel⟩, by decide +kernel⟩⟩
theorem cv_zs_240 : q_CV "ZnodeService" 240 m_zs_applyLog 1 := ⟨rfl, k_366, k_363, k_365, k_s8, k_1, ⟨⟨by decide +kernel, by decide +kernel⟩, by decide +kernel⟩⟩
theorem cv_zs_243 : q_CV "ZnodeService" 243 m_ss_hear 2 := ⟨rfl, k_374, k_371, k_372, k_373, k_5, ⟨⟨by decide +kernel, by decide +kernel⟩, by decide +kernel⟩⟩
theorem cv_zs_58 : q_CV "ZnodeService" 58 m_zs_isLinked 1 := ⟨rfl, k_235, k_232, k_234, k_s1, k_1, ⟨⟨by decide +kernel, by decide +kernel⟩, by decide +kernel⟩⟩
theorem cv_zs_62 : q_CV "ZnodeService" 62 m_zs_hasQuorum 0 := ⟨rfl, k_243, k_240, k_242, k_s2, k_1, ⟨⟨by decide +kernel, by decide +kernel⟩, by decide +kernel⟩⟩
theorem cv_zs_69 : q_CV "ZnodeService" 69 m_ss_start 3 := ⟨rfl, k_262, k_259, k_260, k_261, k_5, ⟨⟨by decide +kernel, by decide +kernel⟩, by decide +kernel⟩⟩
theorem cv_zs_72 : q_CV "ZnodeService" 72 m_zs_requireReach 1 := ⟨rfl, k_273, k_270, k_272, k_s3, k_1, ⟨⟨by decide +kernel, by decide +kernel⟩, by decide +kernel⟩⟩
theorem cv_zs_75 : q_CV "ZnodeService" 75 m_zs_requireQuorum 0 := ⟨rfl, k_277, k_274, k_276, k_s4, k_1, ⟨⟨by decide +kernel, by decide +kernel⟩, by decide +kernel⟩⟩
theorem cv_zs_78 : q_CV "ZnodeService" 78 m_tr_countOwned 1 := ⟨rfl, k_281, k_278, k_279, k_280, k_2, ⟨⟨by decide +kernel, by decide +kernel⟩, by decide +kernel⟩⟩
theorem cv_zs_82 : q_CV "ZnodeService" 82 m_ss_end 0 := ⟨rfl, k_285, k_282, k_283, k_284, k_5, ⟨⟨by decide +kernel, by decide +kernel⟩, by decide +kernel⟩⟩
theorem cv_zs_85 : q_CV "ZnodeService" 85 m_zs_closeDueSessions 0 := ⟨rfl, k_294, k_291, k_293, k_s5, k_1, ⟨⟨by decide +kernel, by decide +kernel⟩, by decide +kernel⟩⟩
theorem cv_zs_94 : q_CV "ZnodeService" 94 m_zs_requireOpen 1 := ⟨rfl, k_401, k_398, k_400, k_s12, k_1, ⟨⟨by decide +kernel, by decide +kernel⟩, by decide +kernel⟩⟩
theorem cv_lw_100 : q_CV "ZnodeServiceLaw" 100 m_md_close 1 := ⟨rfl, k_784, k_781, k_782, k_783, k_6, ⟨⟨by decide +kernel, by decide +kernel⟩, by decide +kernel⟩⟩
theorem cv_lw_103 : q_CV "ZnodeServiceLaw" 103 m_md_ping 1 := ⟨rfl, k_804, k_801, k_802, k_803, k_6, ⟨⟨by decide +kernel, by decide +kernel⟩, by decide +kernel⟩⟩
theorem cv_lw_107 : q_CV "ZnodeServiceLaw" 107 m_md_move 2 := ⟨rfl, k_808, k_805, k_806, k_807, k_6, ⟨⟨by decide +kernel, by decide +kernel⟩, by decide +kernel⟩⟩
theorem cv_lw_111 : q_CV "ZnodeServiceLaw" 111 m_md_create 4 := ⟨rfl, k_812, k_809, k_810, k_811, k_6, ⟨⟨by decide +kernel, by decide +kernel⟩, by decide +kernel⟩⟩
theorem cv_lw_114 : q_CV "ZnodeServiceLaw" 114 m_md_set 4 := ⟨rfl, k_816, k_813, k_814, k_815, k_6, ⟨⟨by decide +kernel, by decide +kernel⟩, by decide +kernel⟩⟩
theorem cv_lw_117 : q_CV "ZnodeServiceLaw" 117 m_md_delete 3 := ⟨rfl, k_820, k_817, k_818, k_819, k_6, ⟨⟨by decide +kernel, by decide +kernel⟩, by decide +kernel⟩⟩
theorem cv_lw_121 : q_CV "ZnodeServiceLaw" 121 m_md_get 3 := ⟨rfl, k_828, k_825, k_826, k_827, k_6, ⟨⟨by decide +kernel, by decide +kernel⟩, by decide +kernel⟩⟩
theorem cv_lw_124 : q_CV "ZnodeServiceLaw" 124 m_md_exists 3 := ⟨rfl, k_836, k_833, k_834, k_835, k_6, ⟨⟨by decide +kernel, by decide +kernel⟩, by decide +kernel⟩⟩
theorem cv_lw_127 : q_CV "ZnodeServiceLaw" 127 m_md_children 3 := ⟨rfl, k_840, k_837, k_838, k_839, k_6, ⟨⟨by decide +kernel, by decide +kernel⟩, by decide +kernel⟩⟩
theorem cv_lw_130 : q_CV "ZnodeServiceLaw" 130 m_md_fact 3 := ⟨rfl, k_844, k_841, k_842, k_843, k_6, ⟨⟨by decide +kernel, by decide +kernel⟩, by decide +kernel⟩⟩
theorem cv_lw_133 : q_CV "ZnodeServiceLaw" 133 m_md_event 1 := ⟨rfl, k_848, k_845, k_846, k_847, k_6, ⟨⟨by decide +kernel, by decide +kernel⟩, by decide +kernel⟩⟩
theorem cv_lw_136 : q_CV "ZnodeServiceLaw" 136 m_md_crash 1 := ⟨rfl, k_852, k_849, k_850, k_851, k_6, ⟨⟨by decide +kernel, by decide +kernel⟩, by decide +kernel⟩⟩
theorem cv_lw_139 : q_CV "ZnodeServiceLaw" 139 m_md_restart 1 := ⟨rfl, k_856, k_853, k_854, k_855, k_6, ⟨⟨by decide +kernel, by decide +kernel⟩, by decide +kernel⟩⟩
theorem cv_lw_143 : q_CV "ZnodeServiceLaw" 143 m_md_alone 2 := ⟨rfl, k_860, k_857, k_858, k_859, k_6, ⟨⟨by decide +kernel, by decide +kernel⟩, by decide +kernel⟩⟩
theorem cv_lw_147 : q_CV "ZnodeServiceLaw" 147 m_md_elect 0 := ⟨rfl, k_864, k_861, k_862, k_863, k_6, ⟨⟨by decide +kernel, by decide +kernel⟩, by decide +kernel⟩⟩
theorem cv_lw_150 : q_CV "ZnodeServiceLaw" 150 m_md_tick 1 := ⟨rfl, k_868, k_865, k_866, k_867, k_6, ⟨⟨by decide +kernel, by decide +kernel⟩, by decide +kernel⟩⟩
theorem cv_lw_153 : q_CV "ZnodeServiceLaw" 153 m_md_state 2 := ⟨rfl, k_872, k_869, k_870, k_871, k_6, ⟨⟨by decide +kernel, by decide +kernel⟩, by decide +kernel⟩⟩
theorem cv_lw_156 : q_CV "ZnodeServiceLaw" 156 m_md_count 1 := ⟨rfl, k_876, k_873, k_874, k_875, k_6, ⟨⟨by decide +kernel, by decide +kernel⟩, by decide +kernel⟩⟩
theorem cv_lw_17 : q_CV "ZnodeServiceLaw" 17 m_zs_close 1 := ⟨rfl, k_269, k_266, k_267, k_268, k_1, ⟨⟨by decide +kernel, by decide +kernel⟩, by decide +kernel⟩⟩
theorem cv_lw_21 : q_CV "ZnodeServiceLaw" 21 m_zs_ping 1 := ⟨rfl, k_390, k_387, k_388, k_389, k_1, ⟨⟨by decide +kernel, by decide +kernel⟩, by decide +kernel⟩⟩
theorem cv_lw_24 : q_CV "ZnodeServiceLaw" 24 m_zs_move 2 := ⟨rfl, k_397, k_394, k_395, k_396, k_1, ⟨⟨by decide +kernel, by decide +kernel⟩, by decide +kernel⟩⟩
theorem cv_lw_28 : q_CV "ZnodeServiceLaw" 28 m_zs_create 4 := ⟨rfl, k_412, k_409, k_410, k_411, k_1, ⟨⟨by decide +kernel, by decide +kernel⟩, by decide +kernel⟩⟩
theorem cv_lw_38 : q_CV "ZnodeServiceLaw" 38 m_zs_set 4 := ⟨rfl, k_477, k_474, k_475, k_476, k_1, ⟨⟨by decide +kernel, by decide +kernel⟩, by decide +kernel⟩⟩
theorem cv_lw_41 : q_CV "ZnodeServiceLaw" 41 m_zs_delete 3 := ⟨rfl, k_494, k_491, k_492, k_493, k_1, ⟨⟨by decide +kernel, by decide +kernel⟩, by decide +kernel⟩⟩
theorem cv_lw_44 : q_CV "ZnodeServiceLaw" 44 m_zs_get 3 := ⟨rfl, k_506, k_503, k_504, k_505, k_1, ⟨⟨by decide +kernel, by decide +kernel⟩, by decide +kernel⟩⟩
theorem cv_lw_48 : q_CV "ZnodeServiceLaw" 48 m_zs_exists 3 := ⟨rfl, k_521, k_518, k_519, k_520, k_1, ⟨⟨by decide +kernel, by decide +kernel⟩, by decide +kernel⟩⟩
theorem cv_lw_52 : q_CV "ZnodeServiceLaw" 52 m_zs_children 3 := ⟨rfl, k_528, k_525, k_526, k_527, k_1, ⟨⟨by decide +kernel, by decide +kernel⟩, by decide +kernel⟩⟩
theorem cv_lw_55 : q_CV "ZnodeServiceLaw" 55 m_zs_fact 3 := ⟨rfl, k_535, k_532, k_533, k_534, k_1, ⟨⟨by decide +kernel, by decide +kernel⟩, by decide +kernel⟩⟩
theorem cv_lw_58 : q_CV "ZnodeServiceLaw" 58 m_zs_event 1 := ⟨rfl, k_542, k_539, k_540, k_541, k_1, ⟨⟨by decide +kernel, by decide +kernel⟩, by decide +kernel⟩⟩
theorem cv_lw_61 : q_CV "ZnodeServiceLaw" 61 m_zs_crash 1 := ⟨rfl, k_553, k_550, k_551, k_552, k_1, ⟨⟨by decide +kernel, by decide +kernel⟩, by decide +kernel⟩⟩
theorem cv_lw_64 : q_CV "ZnodeServiceLaw" 64 m_zs_restart 1 := ⟨rfl, k_560, k_557, k_558, k_559, k_1, ⟨⟨by decide +kernel, by decide +kernel⟩, by decide +kernel⟩⟩
theorem cv_lw_67 : q_CV "ZnodeServiceLaw" 67 m_zs_alone 2 := ⟨rfl, k_567, k_564, k_565, k_566, k_1, ⟨⟨by decide +kernel, by decide +kernel⟩, by decide +kernel⟩⟩
theorem cv_lw_7 : q_CV "ZnodeServiceLaw" 7 m_zs_open 3 := ⟨rfl, k_157, k_154, k_155, k_156, k_1, ⟨⟨by decide +kernel, by decide +kernel⟩, by decide +kernel⟩⟩
theorem cv_lw_71 : q_CV "ZnodeServiceLaw" 71 m_zs_elect 0 := ⟨rfl, k_574, k_571, k_572, k_573, k_1, ⟨⟨by decide +kernel, by decide +kernel⟩, by decide +kernel⟩⟩
theorem cv_lw_75 : q_CV "ZnodeServiceLaw" 75 m_zs_tick 1 := ⟨rfl, k_593, k_590, k_591, k_592, k_1, ⟨⟨by decide +kernel, by decide +kernel⟩, by decide +kernel⟩⟩
theorem cv_lw_78 : q_CV "ZnodeServiceLaw" 78 m_zs_state 2 := ⟨rfl, k_600, k_597, k_598, k_599, k_1, ⟨⟨by decide +kernel, by decide +kernel⟩, by decide +kernel⟩⟩
theorem cv_lw_81 : q_CV "ZnodeServiceLaw" 81 m_zs_count 1 := ⟨rfl, k_611, k_608, k_609, k_610, k_1, ⟨⟨by decide +kernel, by decide +kernel⟩, by decide +kernel⟩⟩
theorem cv_lw_93 : q_CV "ZnodeServiceLaw" 93 m_md_open 3 := ⟨rfl, k_712, k_709, k_710, k_711, k_6, ⟨⟨by decide +kernel, by decide +kernel⟩, by decide +kernel⟩⟩
theorem cv_lw_94 : q_CV "ZnodeServiceLaw" 94 m_md_thrown 0 := ⟨rfl, k_708, k_705, k_706, k_707, k_6, ⟨⟨by decide +kernel, by decide +kernel⟩, by decide +kernel⟩⟩
theorem cv_md_102 : q_CV "ZnodeServiceModel" 102 m_md_put 2 := ⟨rfl, k_764, k_761, k_763, k_s29, k_6, ⟨⟨by decide +kernel, by decide +kernel⟩, by decide +kernel⟩⟩
theorem cv_md_108 : q_CV "ZnodeServiceModel" 108 m_md_fit 1 := ⟨rfl, k_728, k_725, k_727, k_s20, k_6, ⟨⟨by decide +kernel, by decide +kernel⟩, by decide +kernel⟩⟩
theorem cv_md_112 : q_CV "ZnodeServiceModel" 112 m_md_linked 1 := ⟨rfl, k_724, k_721, k_723, k_s19, k_6, ⟨⟨by decide +kernel, by decide +kernel⟩, by decide +kernel⟩⟩
theorem cv_md_115 : q_CV "ZnodeServiceModel" 115 m_md_copyEntry 2 := ⟨rfl, k_780, k_777, k_779, k_s33, k_6, ⟨⟨by decide +kernel, by decide +kernel⟩, by decide +kernel⟩⟩
theorem cv_md_118 : q_CV "ZnodeServiceModel" 118 m_md_quorum 0 := ⟨rfl, k_732, k_729, k_731, k_s21, k_6, ⟨⟨by decide +kernel, by decide +kernel⟩, by decide +kernel⟩⟩
theorem cv_md_122 : q_CV "ZnodeServiceModel" 122 m_md_grow 2 := ⟨rfl, k_744, k_741, k_743, k_s24, k_6, ⟨⟨by decide +kernel, by decide +kernel⟩, by decide +kernel⟩⟩
theorem cv_md_125 : q_CV "ZnodeServiceModel" 125 m_md_spread 0 := ⟨rfl, k_776, k_773, k_775, k_s32, k_6, ⟨⟨by decide +kernel, by decide +kernel⟩, by decide +kernel⟩⟩
theorem cv_md_128 : q_CV "ZnodeServiceModel" 128 m_md_planned 0 := ⟨rfl, k_740, k_737, k_739, k_s23, k_6, ⟨⟨by decide +kernel, by decide +kernel⟩, by decide +kernel⟩⟩
theorem cv_md_131 : q_CV "ZnodeServiceModel" 131 m_md_owned 1 := ⟨rfl, k_768, k_765, k_767, k_s30, k_6, ⟨⟨by decide +kernel, by decide +kernel⟩, by decide +kernel⟩⟩
theorem cv_md_134 : q_CV "ZnodeServiceModel" 134 m_md_propose 4 := ⟨rfl, k_772, k_769, k_771, k_s31, k_6, ⟨⟨by decide +kernel, by decide +kernel⟩, by decide +kernel⟩⟩
theorem cv_md_138 : q_CV "ZnodeServiceModel" 138 m_md_connected 1 := ⟨rfl, k_792, k_789, k_791, k_s35, k_6, ⟨⟨by decide +kernel, by decide +kernel⟩, by decide +kernel⟩⟩
theorem cv_md_141 : q_CV "ZnodeServiceModel" 141 m_md_forget 1 := ⟨rfl, k_800, k_797, k_799, k_s37, k_6, ⟨⟨by decide +kernel, by decide +kernel⟩, by decide +kernel⟩⟩
theorem cv_md_145 : q_CV "ZnodeServiceModel" 145 m_md_out 2 := ⟨rfl, k_716, k_713, k_715, k_s17, k_6, ⟨⟨by decide +kernel, by decide +kernel⟩, by decide +kernel⟩⟩
theorem cv_md_149 : q_CV "ZnodeServiceModel" 149 m_md_fail 1 := ⟨rfl, k_720, k_717, k_719, k_s18, k_6, ⟨⟨by decide +kernel, by decide +kernel⟩, by decide +kernel⟩⟩
theorem cv_md_155 : q_CV "ZnodeServiceModel" 155 m_md_end 1 := ⟨rfl, k_736, k_733, k_735, k_s22, k_6, ⟨⟨by decide +kernel, by decide +kernel⟩, by decide +kernel⟩⟩
theorem cv_md_158 : q_CV "ZnodeServiceModel" 158 m_md_reaches 1 := ⟨rfl, k_788, k_785, k_787, k_s34, k_6, ⟨⟨by decide +kernel, by decide +kernel⟩, by decide +kernel⟩⟩
theorem cv_md_161 : q_CV "ZnodeServiceModel" 161 m_md_finish 1 := ⟨rfl, k_796, k_793, k_795, k_s36, k_6, ⟨⟨by decide +kernel, by decide +kernel⟩, by decide +kernel⟩⟩
theorem cv_md_164 : q_CV "ZnodeServiceModel" 164 m_md_childrenOf 1 := ⟨rfl, k_824, k_821, k_823, k_s38, k_6, ⟨⟨by decide +kernel, by decide +kernel⟩, by decide +kernel⟩⟩
theorem cv_md_167 : q_CV "ZnodeServiceModel" 167 m_md_look 3 := ⟨rfl, k_832, k_829, k_831, k_s39, k_6, ⟨⟨by decide +kernel, by decide +kernel⟩, by decide +kernel⟩⟩
theorem cv_md_87 : q_CV "ZnodeServiceModel" 87 m_md_parent 1 := ⟨rfl, k_756, k_753, k_755, k_s27, k_6, ⟨⟨by decide +kernel, by decide +kernel⟩, by decide +kernel⟩⟩
theorem cv_md_91 : q_CV "ZnodeServiceModel" 91 m_md_tell 3 := ⟨rfl, k_760, k_757, k_759, k_s28, k_6, ⟨⟨by decide +kernel, by decide +kernel⟩, by decide +kernel⟩⟩
theorem cv_md_95 : q_CV "ZnodeServiceModel" 95 m_md_plant 0 := ⟨rfl, k_748, k_745, k_747, k_s25, k_6, ⟨⟨by decide +kernel, by decide +kernel⟩, by decide +kernel⟩⟩
theorem cv_md_98 : q_CV "ZnodeServiceModel" 98 m_md_done 2 := ⟨rfl, k_752, k_749, k_751, k_s26, k_6, ⟨⟨by decide +kernel, by decide +kernel⟩, by decide +kernel⟩⟩
end
section
/-! decode rows, by wip/whole/gen_facts.py -/
theorem d_tr_init_0 : decode m_tr_init.2.1 0 = .ok (.aload_n 0, 1) := by decide +kernel
theorem d_tr_init_1 : decode m_tr_init.2.1 1 = .ok (.invokespecial 3, 3) := by decide +kernel
theorem d_tr_init_4 : decode m_tr_init.2.1 4 = .ok (.aload_n 0, 1) := by decide +kernel
theorem d_tr_init_5 : decode m_tr_init.2.1 5 = .ok (.sipush 259, 3) := by decide +kernel
theorem d_tr_init_8 : decode m_tr_init.2.1 8 = .ok (.newarray .int, 2) := by decide +kernel
theorem d_tr_init_10 : decode m_tr_init.2.1 10 = .ok (.putfield 9, 3) := by decide +kernel
theorem d_tr_init_13 : decode m_tr_init.2.1 13 = .ok (.aload_n 0, 1) := by decide +kernel
theorem d_tr_init_14 : decode m_tr_init.2.1 14 = .ok (.sipush 259, 3) := by decide +kernel
theorem d_tr_init_17 : decode m_tr_init.2.1 17 = .ok (.newarray .int, 2) := by decide +kernel
theorem d_tr_init_19 : decode m_tr_init.2.1 19 = .ok (.putfield 15, 3) := by decide +kernel
theorem d_tr_init_22 : decode m_tr_init.2.1 22 = .ok (.aload_n 0, 1) := by decide +kernel
theorem d_tr_init_23 : decode m_tr_init.2.1 23 = .ok (.sipush 259, 3) := by decide +kernel
theorem d_tr_init_26 : decode m_tr_init.2.1 26 = .ok (.newarray .int, 2) := by decide +kernel
theorem d_tr_init_28 : decode m_tr_init.2.1 28 = .ok (.putfield 18, 3) := by decide +kernel
theorem d_tr_init_31 : decode m_tr_init.2.1 31 = .ok (.aload_n 0, 1) := by decide +kernel
theorem d_tr_init_32 : decode m_tr_init.2.1 32 = .ok (.bipush 43, 2) := by decide +kernel
theorem d_tr_init_34 : decode m_tr_init.2.1 34 = .ok (.newarray .int, 2) := by decide +kernel
theorem d_tr_init_36 : decode m_tr_init.2.1 36 = .ok (.putfield 21, 3) := by decide +kernel
theorem d_tr_init_39 : decode m_tr_init.2.1 39 = .ok (.aload_n 0, 1) := by decide +kernel
theorem d_tr_init_40 : decode m_tr_init.2.1 40 = .ok (.getfield 15, 3) := by decide +kernel
theorem d_tr_init_43 : decode m_tr_init.2.1 43 = .ok (.iconst (-1), 1) := by decide +kernel
theorem d_tr_init_44 : decode m_tr_init.2.1 44 = .ok (.invokestatic 24, 3) := by decide +kernel
theorem d_tr_init_47 : decode m_tr_init.2.1 47 = .ok (.aload_n 0, 1) := by decide +kernel
theorem d_tr_init_48 : decode m_tr_init.2.1 48 = .ok (.getfield 18, 3) := by decide +kernel
theorem d_tr_init_51 : decode m_tr_init.2.1 51 = .ok (.iconst (-1), 1) := by decide +kernel
theorem d_tr_init_52 : decode m_tr_init.2.1 52 = .ok (.invokestatic 24, 3) := by decide +kernel
theorem d_tr_init_55 : decode m_tr_init.2.1 55 = .ok (.aload_n 0, 1) := by decide +kernel
theorem d_tr_init_56 : decode m_tr_init.2.1 56 = .ok (.getfield 15, 3) := by decide +kernel
theorem d_tr_init_59 : decode m_tr_init.2.1 59 = .ok (.iconst 0, 1) := by decide +kernel
theorem d_tr_init_60 : decode m_tr_init.2.1 60 = .ok (.iconst 0, 1) := by decide +kernel
theorem d_tr_init_61 : decode m_tr_init.2.1 61 = .ok (.iastore, 1) := by decide +kernel
theorem d_tr_init_62 : decode m_tr_init.2.1 62 = .ok (.return_, 1) := by decide +kernel
theorem d_ar_fill_0 : decode m_ar_fill.2.1 0 = .ok (.iconst 0, 1) := by decide +kernel
theorem d_ar_fill_1 : decode m_ar_fill.2.1 1 = .ok (.istore_n 2, 1) := by decide +kernel
theorem d_ar_fill_2 : decode m_ar_fill.2.1 2 = .ok (.aload_n 0, 1) := by decide +kernel
theorem d_ar_fill_3 : decode m_ar_fill.2.1 3 = .ok (.arraylength, 1) := by decide +kernel
theorem d_ar_fill_4 : decode m_ar_fill.2.1 4 = .ok (.istore_n 3, 1) := by decide +kernel
theorem d_ar_fill_5 : decode m_ar_fill.2.1 5 = .ok (.iload_n 2, 1) := by decide +kernel
theorem d_ar_fill_6 : decode m_ar_fill.2.1 6 = .ok (.iload_n 3, 1) := by decide +kernel
theorem d_ar_fill_7 : decode m_ar_fill.2.1 7 = .ok (.if_icmp .ge (13), 3) := by decide +kernel
theorem d_ar_fill_10 : decode m_ar_fill.2.1 10 = .ok (.aload_n 0, 1) := by decide +kernel
theorem d_ar_fill_11 : decode m_ar_fill.2.1 11 = .ok (.iload_n 2, 1) := by decide +kernel
theorem d_ar_fill_12 : decode m_ar_fill.2.1 12 = .ok (.iload_n 1, 1) := by decide +kernel
theorem d_ar_fill_13 : decode m_ar_fill.2.1 13 = .ok (.iastore, 1) := by decide +kernel
theorem d_ar_fill_14 : decode m_ar_fill.2.1 14 = .ok (.iinc 2 1, 3) := by decide +kernel
theorem d_ar_fill_17 : decode m_ar_fill.2.1 17 = .ok (.goto (-12), 3) := by decide +kernel
theorem d_ar_fill_20 : decode m_ar_fill.2.1 20 = .ok (.return_, 1) := by decide +kernel
theorem d_sv_init_0 : decode m_sv_init.2.1 0 = .ok (.aload_n 0, 1) := by decide +kernel
theorem d_sv_init_1 : decode m_sv_init.2.1 1 = .ok (.invokespecial 3, 3) := by decide +kernel
theorem d_sv_init_4 : decode m_sv_init.2.1 4 = .ok (.aload_n 0, 1) := by decide +kernel
theorem d_sv_init_5 : decode m_sv_init.2.1 5 = .ok (.bipush 64, 2) := by decide +kernel
theorem d_sv_init_7 : decode m_sv_init.2.1 7 = .ok (.anewarray 9, 3) := by decide +kernel
theorem d_sv_init_10 : decode m_sv_init.2.1 10 = .ok (.putfield 11, 3) := by decide +kernel
theorem d_sv_init_13 : decode m_sv_init.2.1 13 = .ok (.aload_n 0, 1) := by decide +kernel
theorem d_sv_init_14 : decode m_sv_init.2.1 14 = .ok (.new 17, 3) := by decide +kernel
theorem d_sv_init_17 : decode m_sv_init.2.1 17 = .ok (.dup, 1) := by decide +kernel
theorem d_sv_init_18 : decode m_sv_init.2.1 18 = .ok (.invokespecial 19, 3) := by decide +kernel
theorem d_sv_init_21 : decode m_sv_init.2.1 21 = .ok (.putfield 20, 3) := by decide +kernel
theorem d_sv_init_24 : decode m_sv_init.2.1 24 = .ok (.aload_n 0, 1) := by decide +kernel
theorem d_sv_init_25 : decode m_sv_init.2.1 25 = .ok (.iconst 0, 1) := by decide +kernel
theorem d_sv_init_26 : decode m_sv_init.2.1 26 = .ok (.putfield 24, 3) := by decide +kernel
theorem d_sv_init_29 : decode m_sv_init.2.1 29 = .ok (.aload_n 0, 1) := by decide +kernel
theorem d_sv_init_30 : decode m_sv_init.2.1 30 = .ok (.iconst 0, 1) := by decide +kernel
theorem d_sv_init_31 : decode m_sv_init.2.1 31 = .ok (.putfield 28, 3) := by decide +kernel
theorem d_sv_init_34 : decode m_sv_init.2.1 34 = .ok (.aload_n 0, 1) := by decide +kernel
theorem d_sv_init_35 : decode m_sv_init.2.1 35 = .ok (.iconst 1, 1) := by decide +kernel
theorem d_sv_init_36 : decode m_sv_init.2.1 36 = .ok (.putfield 31, 3) := by decide +kernel
theorem d_sv_init_39 : decode m_sv_init.2.1 39 = .ok (.aload_n 0, 1) := by decide +kernel
theorem d_sv_init_40 : decode m_sv_init.2.1 40 = .ok (.iconst 1, 1) := by decide +kernel
theorem d_sv_init_41 : decode m_sv_init.2.1 41 = .ok (.putfield 34, 3) := by decide +kernel
theorem d_sv_init_44 : decode m_sv_init.2.1 44 = .ok (.aload_n 0, 1) := by decide +kernel
theorem d_sv_init_45 : decode m_sv_init.2.1 45 = .ok (.iconst 0, 1) := by decide +kernel
theorem d_sv_init_46 : decode m_sv_init.2.1 46 = .ok (.putfield 38, 3) := by decide +kernel
theorem d_sv_init_49 : decode m_sv_init.2.1 49 = .ok (.return_, 1) := by decide +kernel
theorem d_ss_init_0 : decode m_ss_init.2.1 0 = .ok (.aload_n 0, 1) := by decide +kernel
theorem d_ss_init_1 : decode m_ss_init.2.1 1 = .ok (.invokespecial 3, 3) := by decide +kernel
theorem d_ss_init_4 : decode m_ss_init.2.1 4 = .ok (.aload_n 0, 1) := by decide +kernel
theorem d_ss_init_5 : decode m_ss_init.2.1 5 = .ok (.sipush 259, 3) := by decide +kernel
theorem d_ss_init_8 : decode m_ss_init.2.1 8 = .ok (.newarray .int, 2) := by decide +kernel
theorem d_ss_init_10 : decode m_ss_init.2.1 10 = .ok (.putfield 9, 3) := by decide +kernel
theorem d_ss_init_13 : decode m_ss_init.2.1 13 = .ok (.aload_n 0, 1) := by decide +kernel
theorem d_ss_init_14 : decode m_ss_init.2.1 14 = .ok (.bipush 8, 2) := by decide +kernel
theorem d_ss_init_16 : decode m_ss_init.2.1 16 = .ok (.newarray .int, 2) := by decide +kernel
theorem d_ss_init_18 : decode m_ss_init.2.1 18 = .ok (.putfield 15, 3) := by decide +kernel
theorem d_ss_init_21 : decode m_ss_init.2.1 21 = .ok (.aload_n 0, 1) := by decide +kernel
theorem d_ss_init_22 : decode m_ss_init.2.1 22 = .ok (.iconst 0, 1) := by decide +kernel
theorem d_ss_init_23 : decode m_ss_init.2.1 23 = .ok (.putfield 18, 3) := by decide +kernel
theorem d_ss_init_26 : decode m_ss_init.2.1 26 = .ok (.aload_n 0, 1) := by decide +kernel
theorem d_ss_init_27 : decode m_ss_init.2.1 27 = .ok (.iconst 0, 1) := by decide +kernel
theorem d_ss_init_28 : decode m_ss_init.2.1 28 = .ok (.putfield 22, 3) := by decide +kernel
theorem d_ss_init_31 : decode m_ss_init.2.1 31 = .ok (.aload_n 0, 1) := by decide +kernel
theorem d_ss_init_32 : decode m_ss_init.2.1 32 = .ok (.iconst 0, 1) := by decide +kernel
theorem d_ss_init_33 : decode m_ss_init.2.1 33 = .ok (.putfield 26, 3) := by decide +kernel
theorem d_ss_init_36 : decode m_ss_init.2.1 36 = .ok (.aload_n 0, 1) := by decide +kernel
theorem d_ss_init_37 : decode m_ss_init.2.1 37 = .ok (.iconst 0, 1) := by decide +kernel
theorem d_ss_init_38 : decode m_ss_init.2.1 38 = .ok (.putfield 29, 3) := by decide +kernel
theorem d_ss_init_41 : decode m_ss_init.2.1 41 = .ok (.aload_n 0, 1) := by decide +kernel
theorem d_ss_init_42 : decode m_ss_init.2.1 42 = .ok (.iconst 0, 1) := by decide +kernel
theorem d_ss_init_43 : decode m_ss_init.2.1 43 = .ok (.putfield 32, 3) := by decide +kernel
theorem d_ss_init_46 : decode m_ss_init.2.1 46 = .ok (.aload_n 0, 1) := by decide +kernel
theorem d_ss_init_47 : decode m_ss_init.2.1 47 = .ok (.iconst 0, 1) := by decide +kernel
theorem d_ss_init_48 : decode m_ss_init.2.1 48 = .ok (.putfield 35, 3) := by decide +kernel
theorem d_ss_init_51 : decode m_ss_init.2.1 51 = .ok (.return_, 1) := by decide +kernel
theorem d_sv_isOnline_0 : decode m_sv_isOnline.2.1 0 = .ok (.aload_n 0, 1) := by decide +kernel
theorem d_sv_isOnline_1 : decode m_sv_isOnline.2.1 1 = .ok (.getfield 34, 3) := by decide +kernel
theorem d_sv_isOnline_4 : decode m_sv_isOnline.2.1 4 = .ok (.ifCond .eq (14), 3) := by decide +kernel
theorem d_sv_isOnline_7 : decode m_sv_isOnline.2.1 7 = .ok (.aload_n 0, 1) := by decide +kernel
theorem d_sv_isOnline_8 : decode m_sv_isOnline.2.1 8 = .ok (.getfield 38, 3) := by decide +kernel
theorem d_sv_isOnline_11 : decode m_sv_isOnline.2.1 11 = .ok (.ifCond .ne (7), 3) := by decide +kernel
theorem d_sv_isOnline_14 : decode m_sv_isOnline.2.1 14 = .ok (.iconst 1, 1) := by decide +kernel
theorem d_sv_isOnline_15 : decode m_sv_isOnline.2.1 15 = .ok (.goto 4, 3) := by decide +kernel
theorem d_sv_isOnline_18 : decode m_sv_isOnline.2.1 18 = .ok (.iconst 0, 1) := by decide +kernel
theorem d_sv_isOnline_19 : decode m_sv_isOnline.2.1 19 = .ok (.ireturn, 1) := by decide +kernel
theorem d_ss_start_0 : decode m_ss_start.2.1 0 = .ok (.aload_n 0, 1) := by decide +kernel
theorem d_ss_start_1 : decode m_ss_start.2.1 1 = .ok (.iconst 1, 1) := by decide +kernel
theorem d_ss_start_2 : decode m_ss_start.2.1 2 = .ok (.putfield 22, 3) := by decide +kernel
theorem d_ss_start_5 : decode m_ss_start.2.1 5 = .ok (.aload_n 0, 1) := by decide +kernel
theorem d_ss_start_6 : decode m_ss_start.2.1 6 = .ok (.iload_n 1, 1) := by decide +kernel
theorem d_ss_start_7 : decode m_ss_start.2.1 7 = .ok (.putfield 29, 3) := by decide +kernel
theorem d_ss_start_10 : decode m_ss_start.2.1 10 = .ok (.aload_n 0, 1) := by decide +kernel
theorem d_ss_start_11 : decode m_ss_start.2.1 11 = .ok (.iload_n 2, 1) := by decide +kernel
theorem d_ss_start_12 : decode m_ss_start.2.1 12 = .ok (.putfield 32, 3) := by decide +kernel
theorem d_ss_start_15 : decode m_ss_start.2.1 15 = .ok (.aload_n 0, 1) := by decide +kernel
theorem d_ss_start_16 : decode m_ss_start.2.1 16 = .ok (.iload_n 3, 1) := by decide +kernel
theorem d_ss_start_17 : decode m_ss_start.2.1 17 = .ok (.putfield 35, 3) := by decide +kernel
theorem d_ss_start_20 : decode m_ss_start.2.1 20 = .ok (.return_, 1) := by decide +kernel
theorem d_tr_countOwned_0 : decode m_tr_countOwned.2.1 0 = .ok (.iconst 0, 1) := by decide +kernel
theorem d_tr_countOwned_1 : decode m_tr_countOwned.2.1 1 = .ok (.istore_n 2, 1) := by decide +kernel
theorem d_tr_countOwned_2 : decode m_tr_countOwned.2.1 2 = .ok (.iconst 1, 1) := by decide +kernel
theorem d_tr_countOwned_3 : decode m_tr_countOwned.2.1 3 = .ok (.istore_n 3, 1) := by decide +kernel
theorem d_tr_countOwned_4 : decode m_tr_countOwned.2.1 4 = .ok (.iload_n 3, 1) := by decide +kernel
theorem d_tr_countOwned_5 : decode m_tr_countOwned.2.1 5 = .ok (.sipush 259, 3) := by decide +kernel
theorem d_tr_countOwned_8 : decode m_tr_countOwned.2.1 8 = .ok (.if_icmp .ge (22), 3) := by decide +kernel
theorem d_tr_countOwned_11 : decode m_tr_countOwned.2.1 11 = .ok (.aload_n 0, 1) := by decide +kernel
theorem d_tr_countOwned_12 : decode m_tr_countOwned.2.1 12 = .ok (.getfield 18, 3) := by decide +kernel
theorem d_tr_countOwned_15 : decode m_tr_countOwned.2.1 15 = .ok (.iload_n 3, 1) := by decide +kernel
theorem d_tr_countOwned_16 : decode m_tr_countOwned.2.1 16 = .ok (.iaload, 1) := by decide +kernel
theorem d_tr_countOwned_17 : decode m_tr_countOwned.2.1 17 = .ok (.iload_n 1, 1) := by decide +kernel
theorem d_tr_countOwned_18 : decode m_tr_countOwned.2.1 18 = .ok (.if_icmp .ne (6), 3) := by decide +kernel
theorem d_tr_countOwned_21 : decode m_tr_countOwned.2.1 21 = .ok (.iinc 2 1, 3) := by decide +kernel
theorem d_tr_countOwned_24 : decode m_tr_countOwned.2.1 24 = .ok (.iinc 3 1, 3) := by decide +kernel
theorem d_tr_countOwned_27 : decode m_tr_countOwned.2.1 27 = .ok (.goto (-23), 3) := by decide +kernel
theorem d_tr_countOwned_30 : decode m_tr_countOwned.2.1 30 = .ok (.iload_n 2, 1) := by decide +kernel
theorem d_tr_countOwned_31 : decode m_tr_countOwned.2.1 31 = .ok (.ireturn, 1) := by decide +kernel
theorem d_ss_end_0 : decode m_ss_end.2.1 0 = .ok (.aload_n 0, 1) := by decide +kernel
theorem d_ss_end_1 : decode m_ss_end.2.1 1 = .ok (.iconst 0, 1) := by decide +kernel
theorem d_ss_end_2 : decode m_ss_end.2.1 2 = .ok (.putfield 22, 3) := by decide +kernel
theorem d_ss_end_5 : decode m_ss_end.2.1 5 = .ok (.aload_n 0, 1) := by decide +kernel
theorem d_ss_end_6 : decode m_ss_end.2.1 6 = .ok (.iconst 1, 1) := by decide +kernel
theorem d_ss_end_7 : decode m_ss_end.2.1 7 = .ok (.putfield 26, 3) := by decide +kernel
theorem d_ss_end_10 : decode m_ss_end.2.1 10 = .ok (.aload_n 0, 1) := by decide +kernel
theorem d_ss_end_11 : decode m_ss_end.2.1 11 = .ok (.iconst 0, 1) := by decide +kernel
theorem d_ss_end_12 : decode m_ss_end.2.1 12 = .ok (.putfield 18, 3) := by decide +kernel
theorem d_ss_end_15 : decode m_ss_end.2.1 15 = .ok (.aload_n 0, 1) := by decide +kernel
theorem d_ss_end_16 : decode m_ss_end.2.1 16 = .ok (.invokevirtual 38, 3) := by decide +kernel
theorem d_ss_end_19 : decode m_ss_end.2.1 19 = .ok (.return_, 1) := by decide +kernel
theorem d_ss_dropWatches_0 : decode m_ss_dropWatches.2.1 0 = .ok (.aload_n 0, 1) := by decide +kernel
theorem d_ss_dropWatches_1 : decode m_ss_dropWatches.2.1 1 = .ok (.getfield 9, 3) := by decide +kernel
theorem d_ss_dropWatches_4 : decode m_ss_dropWatches.2.1 4 = .ok (.iconst 0, 1) := by decide +kernel
theorem d_ss_dropWatches_5 : decode m_ss_dropWatches.2.1 5 = .ok (.invokestatic 41, 3) := by decide +kernel
theorem d_ss_dropWatches_8 : decode m_ss_dropWatches.2.1 8 = .ok (.return_, 1) := by decide +kernel
theorem d_en_init_0 : decode m_en_init.2.1 0 = .ok (.aload_n 0, 1) := by decide +kernel
theorem d_en_init_1 : decode m_en_init.2.1 1 = .ok (.invokespecial 1, 3) := by decide +kernel
theorem d_en_init_4 : decode m_en_init.2.1 4 = .ok (.aload_n 0, 1) := by decide +kernel
theorem d_en_init_5 : decode m_en_init.2.1 5 = .ok (.iload_n 1, 1) := by decide +kernel
theorem d_en_init_6 : decode m_en_init.2.1 6 = .ok (.putfield 7, 3) := by decide +kernel
theorem d_en_init_9 : decode m_en_init.2.1 9 = .ok (.aload_n 0, 1) := by decide +kernel
theorem d_en_init_10 : decode m_en_init.2.1 10 = .ok (.iload_n 2, 1) := by decide +kernel
theorem d_en_init_11 : decode m_en_init.2.1 11 = .ok (.putfield 13, 3) := by decide +kernel
theorem d_en_init_14 : decode m_en_init.2.1 14 = .ok (.aload_n 0, 1) := by decide +kernel
theorem d_en_init_15 : decode m_en_init.2.1 15 = .ok (.iload_n 3, 1) := by decide +kernel
theorem d_en_init_16 : decode m_en_init.2.1 16 = .ok (.putfield 16, 3) := by decide +kernel
theorem d_en_init_19 : decode m_en_init.2.1 19 = .ok (.aload_n 0, 1) := by decide +kernel
theorem d_en_init_20 : decode m_en_init.2.1 20 = .ok (.iload 4, 2) := by decide +kernel
theorem d_en_init_22 : decode m_en_init.2.1 22 = .ok (.putfield 19, 3) := by decide +kernel
theorem d_en_init_25 : decode m_en_init.2.1 25 = .ok (.aload_n 0, 1) := by decide +kernel
theorem d_en_init_26 : decode m_en_init.2.1 26 = .ok (.iload 5, 2) := by decide +kernel
theorem d_en_init_28 : decode m_en_init.2.1 28 = .ok (.putfield 22, 3) := by decide +kernel
theorem d_en_init_31 : decode m_en_init.2.1 31 = .ok (.return_, 1) := by decide +kernel
theorem d_sv_append_0 : decode m_sv_append.2.1 0 = .ok (.aload_n 0, 1) := by decide +kernel
theorem d_sv_append_1 : decode m_sv_append.2.1 1 = .ok (.getfield 24, 3) := by decide +kernel
theorem d_sv_append_4 : decode m_sv_append.2.1 4 = .ok (.bipush 64, 2) := by decide +kernel
theorem d_sv_append_6 : decode m_sv_append.2.1 6 = .ok (.if_icmp .ge (23), 3) := by decide +kernel
theorem d_sv_append_9 : decode m_sv_append.2.1 9 = .ok (.aload_n 0, 1) := by decide +kernel
theorem d_sv_append_10 : decode m_sv_append.2.1 10 = .ok (.getfield 11, 3) := by decide +kernel
theorem d_sv_append_13 : decode m_sv_append.2.1 13 = .ok (.aload_n 0, 1) := by decide +kernel
theorem d_sv_append_14 : decode m_sv_append.2.1 14 = .ok (.getfield 24, 3) := by decide +kernel
theorem d_sv_append_17 : decode m_sv_append.2.1 17 = .ok (.aload_n 1, 1) := by decide +kernel
theorem d_sv_append_18 : decode m_sv_append.2.1 18 = .ok (.aastore, 1) := by decide +kernel
theorem d_sv_append_19 : decode m_sv_append.2.1 19 = .ok (.aload_n 0, 1) := by decide +kernel
theorem d_sv_append_20 : decode m_sv_append.2.1 20 = .ok (.dup, 1) := by decide +kernel
theorem d_sv_append_21 : decode m_sv_append.2.1 21 = .ok (.getfield 24, 3) := by decide +kernel
theorem d_sv_append_24 : decode m_sv_append.2.1 24 = .ok (.iconst 1, 1) := by decide +kernel
theorem d_sv_append_25 : decode m_sv_append.2.1 25 = .ok (.iadd, 1) := by decide +kernel
theorem d_sv_append_26 : decode m_sv_append.2.1 26 = .ok (.putfield 24, 3) := by decide +kernel
theorem d_sv_append_29 : decode m_sv_append.2.1 29 = .ok (.return_, 1) := by decide +kernel
theorem d_tr_play_0 : decode m_tr_play.2.1 0 = .ok (.aload_n 1, 1) := by decide +kernel
theorem d_tr_play_1 : decode m_tr_play.2.1 1 = .ok (.getfield 30, 3) := by decide +kernel
theorem d_tr_play_4 : decode m_tr_play.2.1 4 = .ok (.tableswitch (76) (0) (2) #[28, 36, 65], 28) := by decide +kernel
theorem d_tr_play_32 : decode m_tr_play.2.1 32 = .ok (.aload_n 0, 1) := by decide +kernel
theorem d_tr_play_33 : decode m_tr_play.2.1 33 = .ok (.aload_n 1, 1) := by decide +kernel
theorem d_tr_play_34 : decode m_tr_play.2.1 34 = .ok (.invokevirtual 36, 3) := by decide +kernel
theorem d_tr_play_37 : decode m_tr_play.2.1 37 = .ok (.goto 51, 3) := by decide +kernel
theorem d_tr_play_40 : decode m_tr_play.2.1 40 = .ok (.aload_n 0, 1) := by decide +kernel
theorem d_tr_play_41 : decode m_tr_play.2.1 41 = .ok (.getfield 9, 3) := by decide +kernel
theorem d_tr_play_44 : decode m_tr_play.2.1 44 = .ok (.aload_n 1, 1) := by decide +kernel
theorem d_tr_play_45 : decode m_tr_play.2.1 45 = .ok (.getfield 40, 3) := by decide +kernel
theorem d_tr_play_48 : decode m_tr_play.2.1 48 = .ok (.aload_n 1, 1) := by decide +kernel
theorem d_tr_play_49 : decode m_tr_play.2.1 49 = .ok (.getfield 43, 3) := by decide +kernel
theorem d_tr_play_52 : decode m_tr_play.2.1 52 = .ok (.iastore, 1) := by decide +kernel
theorem d_tr_play_53 : decode m_tr_play.2.1 53 = .ok (.aload_n 0, 1) := by decide +kernel
theorem d_tr_play_54 : decode m_tr_play.2.1 54 = .ok (.getfield 15, 3) := by decide +kernel
theorem d_tr_play_57 : decode m_tr_play.2.1 57 = .ok (.aload_n 1, 1) := by decide +kernel
theorem d_tr_play_58 : decode m_tr_play.2.1 58 = .ok (.getfield 40, 3) := by decide +kernel
theorem d_tr_play_61 : decode m_tr_play.2.1 61 = .ok (.dup2, 1) := by decide +kernel
theorem d_tr_play_62 : decode m_tr_play.2.1 62 = .ok (.iaload, 1) := by decide +kernel
theorem d_tr_play_63 : decode m_tr_play.2.1 63 = .ok (.iconst 1, 1) := by decide +kernel
theorem d_tr_play_64 : decode m_tr_play.2.1 64 = .ok (.iadd, 1) := by decide +kernel
theorem d_tr_play_65 : decode m_tr_play.2.1 65 = .ok (.iastore, 1) := by decide +kernel
theorem d_tr_play_66 : decode m_tr_play.2.1 66 = .ok (.goto 22, 3) := by decide +kernel
theorem d_tr_play_69 : decode m_tr_play.2.1 69 = .ok (.aload_n 0, 1) := by decide +kernel
theorem d_tr_play_70 : decode m_tr_play.2.1 70 = .ok (.aload_n 1, 1) := by decide +kernel
theorem d_tr_play_71 : decode m_tr_play.2.1 71 = .ok (.getfield 40, 3) := by decide +kernel
theorem d_tr_play_74 : decode m_tr_play.2.1 74 = .ok (.invokevirtual 45, 3) := by decide +kernel
theorem d_tr_play_77 : decode m_tr_play.2.1 77 = .ok (.goto 11, 3) := by decide +kernel
theorem d_tr_play_80 : decode m_tr_play.2.1 80 = .ok (.aload_n 0, 1) := by decide +kernel
theorem d_tr_play_81 : decode m_tr_play.2.1 81 = .ok (.aload_n 1, 1) := by decide +kernel
theorem d_tr_play_82 : decode m_tr_play.2.1 82 = .ok (.getfield 49, 3) := by decide +kernel
theorem d_tr_play_85 : decode m_tr_play.2.1 85 = .ok (.invokevirtual 51, 3) := by decide +kernel
theorem d_tr_play_88 : decode m_tr_play.2.1 88 = .ok (.return_, 1) := by decide +kernel
theorem d_tr_makeNode_0 : decode m_tr_makeNode.2.1 0 = .ok (.aload_n 1, 1) := by decide +kernel
theorem d_tr_makeNode_1 : decode m_tr_makeNode.2.1 1 = .ok (.getfield 40, 3) := by decide +kernel
theorem d_tr_makeNode_4 : decode m_tr_makeNode.2.1 4 = .ok (.istore_n 2, 1) := by decide +kernel
theorem d_tr_makeNode_5 : decode m_tr_makeNode.2.1 5 = .ok (.aload_n 0, 1) := by decide +kernel
theorem d_tr_makeNode_6 : decode m_tr_makeNode.2.1 6 = .ok (.getfield 9, 3) := by decide +kernel
theorem d_tr_makeNode_9 : decode m_tr_makeNode.2.1 9 = .ok (.iload_n 2, 1) := by decide +kernel
theorem d_tr_makeNode_10 : decode m_tr_makeNode.2.1 10 = .ok (.aload_n 1, 1) := by decide +kernel
theorem d_tr_makeNode_11 : decode m_tr_makeNode.2.1 11 = .ok (.getfield 43, 3) := by decide +kernel
theorem d_tr_makeNode_14 : decode m_tr_makeNode.2.1 14 = .ok (.iastore, 1) := by decide +kernel
theorem d_tr_makeNode_15 : decode m_tr_makeNode.2.1 15 = .ok (.aload_n 0, 1) := by decide +kernel
theorem d_tr_makeNode_16 : decode m_tr_makeNode.2.1 16 = .ok (.getfield 15, 3) := by decide +kernel
theorem d_tr_makeNode_19 : decode m_tr_makeNode.2.1 19 = .ok (.iload_n 2, 1) := by decide +kernel
theorem d_tr_makeNode_20 : decode m_tr_makeNode.2.1 20 = .ok (.iconst 0, 1) := by decide +kernel
theorem d_tr_makeNode_21 : decode m_tr_makeNode.2.1 21 = .ok (.iastore, 1) := by decide +kernel
theorem d_tr_makeNode_22 : decode m_tr_makeNode.2.1 22 = .ok (.aload_n 0, 1) := by decide +kernel
theorem d_tr_makeNode_23 : decode m_tr_makeNode.2.1 23 = .ok (.getfield 18, 3) := by decide +kernel
theorem d_tr_makeNode_26 : decode m_tr_makeNode.2.1 26 = .ok (.iload_n 2, 1) := by decide +kernel
theorem d_tr_makeNode_27 : decode m_tr_makeNode.2.1 27 = .ok (.aload_n 1, 1) := by decide +kernel
theorem d_tr_makeNode_28 : decode m_tr_makeNode.2.1 28 = .ok (.getfield 49, 3) := by decide +kernel
theorem d_tr_makeNode_31 : decode m_tr_makeNode.2.1 31 = .ok (.iastore, 1) := by decide +kernel
theorem d_tr_makeNode_32 : decode m_tr_makeNode.2.1 32 = .ok (.iload_n 2, 1) := by decide +kernel
theorem d_tr_makeNode_33 : decode m_tr_makeNode.2.1 33 = .ok (.bipush 43, 2) := by decide +kernel
theorem d_tr_makeNode_35 : decode m_tr_makeNode.2.1 35 = .ok (.if_icmp .ge (10), 3) := by decide +kernel
theorem d_tr_makeNode_38 : decode m_tr_makeNode.2.1 38 = .ok (.aload_n 0, 1) := by decide +kernel
theorem d_tr_makeNode_39 : decode m_tr_makeNode.2.1 39 = .ok (.getfield 21, 3) := by decide +kernel
theorem d_tr_makeNode_42 : decode m_tr_makeNode.2.1 42 = .ok (.iload_n 2, 1) := by decide +kernel
theorem d_tr_makeNode_43 : decode m_tr_makeNode.2.1 43 = .ok (.iconst 0, 1) := by decide +kernel
theorem d_tr_makeNode_44 : decode m_tr_makeNode.2.1 44 = .ok (.iastore, 1) := by decide +kernel
theorem d_tr_makeNode_45 : decode m_tr_makeNode.2.1 45 = .ok (.aload_n 1, 1) := by decide +kernel
theorem d_tr_makeNode_46 : decode m_tr_makeNode.2.1 46 = .ok (.getfield 54, 3) := by decide +kernel
theorem d_tr_makeNode_49 : decode m_tr_makeNode.2.1 49 = .ok (.ifCond .eq (23), 3) := by decide +kernel
theorem d_tr_makeNode_52 : decode m_tr_makeNode.2.1 52 = .ok (.iload_n 2, 1) := by decide +kernel
theorem d_tr_makeNode_53 : decode m_tr_makeNode.2.1 53 = .ok (.invokestatic 58, 3) := by decide +kernel
theorem d_tr_makeNode_56 : decode m_tr_makeNode.2.1 56 = .ok (.istore_n 3, 1) := by decide +kernel
theorem d_tr_makeNode_57 : decode m_tr_makeNode.2.1 57 = .ok (.aload_n 0, 1) := by decide +kernel
theorem d_tr_makeNode_58 : decode m_tr_makeNode.2.1 58 = .ok (.getfield 21, 3) := by decide +kernel
theorem d_tr_makeNode_61 : decode m_tr_makeNode.2.1 61 = .ok (.iload_n 3, 1) := by decide +kernel
theorem d_tr_makeNode_62 : decode m_tr_makeNode.2.1 62 = .ok (.iload_n 2, 1) := by decide +kernel
theorem d_tr_makeNode_63 : decode m_tr_makeNode.2.1 63 = .ok (.iload_n 3, 1) := by decide +kernel
theorem d_tr_makeNode_64 : decode m_tr_makeNode.2.1 64 = .ok (.iconst 0, 1) := by decide +kernel
theorem d_tr_makeNode_65 : decode m_tr_makeNode.2.1 65 = .ok (.invokestatic 62, 3) := by decide +kernel
theorem d_tr_makeNode_68 : decode m_tr_makeNode.2.1 68 = .ok (.isub, 1) := by decide +kernel
theorem d_tr_makeNode_69 : decode m_tr_makeNode.2.1 69 = .ok (.iconst 1, 1) := by decide +kernel
theorem d_tr_makeNode_70 : decode m_tr_makeNode.2.1 70 = .ok (.iadd, 1) := by decide +kernel
theorem d_tr_makeNode_71 : decode m_tr_makeNode.2.1 71 = .ok (.iastore, 1) := by decide +kernel
theorem d_tr_makeNode_72 : decode m_tr_makeNode.2.1 72 = .ok (.return_, 1) := by decide +kernel
theorem d_tr_dropNode_0 : decode m_tr_dropNode.2.1 0 = .ok (.aload_n 0, 1) := by decide +kernel
theorem d_tr_dropNode_1 : decode m_tr_dropNode.2.1 1 = .ok (.getfield 15, 3) := by decide +kernel
theorem d_tr_dropNode_4 : decode m_tr_dropNode.2.1 4 = .ok (.iload_n 1, 1) := by decide +kernel
theorem d_tr_dropNode_5 : decode m_tr_dropNode.2.1 5 = .ok (.iconst (-1), 1) := by decide +kernel
theorem d_tr_dropNode_6 : decode m_tr_dropNode.2.1 6 = .ok (.iastore, 1) := by decide +kernel
theorem d_tr_dropNode_7 : decode m_tr_dropNode.2.1 7 = .ok (.aload_n 0, 1) := by decide +kernel
theorem d_tr_dropNode_8 : decode m_tr_dropNode.2.1 8 = .ok (.getfield 18, 3) := by decide +kernel
theorem d_tr_dropNode_11 : decode m_tr_dropNode.2.1 11 = .ok (.iload_n 1, 1) := by decide +kernel
theorem d_tr_dropNode_12 : decode m_tr_dropNode.2.1 12 = .ok (.iconst (-1), 1) := by decide +kernel
theorem d_tr_dropNode_13 : decode m_tr_dropNode.2.1 13 = .ok (.iastore, 1) := by decide +kernel
theorem d_tr_dropNode_14 : decode m_tr_dropNode.2.1 14 = .ok (.return_, 1) := by decide +kernel
theorem d_tr_dropOwned_0 : decode m_tr_dropOwned.2.1 0 = .ok (.iconst 1, 1) := by decide +kernel
theorem d_tr_dropOwned_1 : decode m_tr_dropOwned.2.1 1 = .ok (.istore_n 2, 1) := by decide +kernel
theorem d_tr_dropOwned_2 : decode m_tr_dropOwned.2.1 2 = .ok (.iload_n 2, 1) := by decide +kernel
theorem d_tr_dropOwned_3 : decode m_tr_dropOwned.2.1 3 = .ok (.sipush 259, 3) := by decide +kernel
theorem d_tr_dropOwned_6 : decode m_tr_dropOwned.2.1 6 = .ok (.if_icmp .ge (24), 3) := by decide +kernel
theorem d_tr_dropOwned_9 : decode m_tr_dropOwned.2.1 9 = .ok (.aload_n 0, 1) := by decide +kernel
theorem d_tr_dropOwned_10 : decode m_tr_dropOwned.2.1 10 = .ok (.getfield 18, 3) := by decide +kernel
theorem d_tr_dropOwned_13 : decode m_tr_dropOwned.2.1 13 = .ok (.iload_n 2, 1) := by decide +kernel
theorem d_tr_dropOwned_14 : decode m_tr_dropOwned.2.1 14 = .ok (.iaload, 1) := by decide +kernel
theorem d_tr_dropOwned_15 : decode m_tr_dropOwned.2.1 15 = .ok (.iload_n 1, 1) := by decide +kernel
theorem d_tr_dropOwned_16 : decode m_tr_dropOwned.2.1 16 = .ok (.if_icmp .ne (8), 3) := by decide +kernel
theorem d_tr_dropOwned_19 : decode m_tr_dropOwned.2.1 19 = .ok (.aload_n 0, 1) := by decide +kernel
theorem d_tr_dropOwned_20 : decode m_tr_dropOwned.2.1 20 = .ok (.iload_n 2, 1) := by decide +kernel
theorem d_tr_dropOwned_21 : decode m_tr_dropOwned.2.1 21 = .ok (.invokevirtual 45, 3) := by decide +kernel
theorem d_tr_dropOwned_24 : decode m_tr_dropOwned.2.1 24 = .ok (.iinc 2 1, 3) := by decide +kernel
theorem d_tr_dropOwned_27 : decode m_tr_dropOwned.2.1 27 = .ok (.goto (-25), 3) := by decide +kernel
theorem d_tr_dropOwned_30 : decode m_tr_dropOwned.2.1 30 = .ok (.return_, 1) := by decide +kernel
theorem d_sv_follow_0 : decode m_sv_follow.2.1 0 = .ok (.iconst 0, 1) := by decide +kernel
theorem d_sv_follow_1 : decode m_sv_follow.2.1 1 = .ok (.istore_n 3, 1) := by decide +kernel
theorem d_sv_follow_2 : decode m_sv_follow.2.1 2 = .ok (.iload_n 3, 1) := by decide +kernel
theorem d_sv_follow_3 : decode m_sv_follow.2.1 3 = .ok (.aload_n 1, 1) := by decide +kernel
theorem d_sv_follow_4 : decode m_sv_follow.2.1 4 = .ok (.getfield 24, 3) := by decide +kernel
theorem d_sv_follow_7 : decode m_sv_follow.2.1 7 = .ok (.if_icmp .ge (21), 3) := by decide +kernel
theorem d_sv_follow_10 : decode m_sv_follow.2.1 10 = .ok (.aload_n 0, 1) := by decide +kernel
theorem d_sv_follow_11 : decode m_sv_follow.2.1 11 = .ok (.getfield 11, 3) := by decide +kernel
theorem d_sv_follow_14 : decode m_sv_follow.2.1 14 = .ok (.iload_n 3, 1) := by decide +kernel
theorem d_sv_follow_15 : decode m_sv_follow.2.1 15 = .ok (.aload_n 1, 1) := by decide +kernel
theorem d_sv_follow_16 : decode m_sv_follow.2.1 16 = .ok (.getfield 11, 3) := by decide +kernel
theorem d_sv_follow_19 : decode m_sv_follow.2.1 19 = .ok (.iload_n 3, 1) := by decide +kernel
theorem d_sv_follow_20 : decode m_sv_follow.2.1 20 = .ok (.aaload, 1) := by decide +kernel
theorem d_sv_follow_21 : decode m_sv_follow.2.1 21 = .ok (.aastore, 1) := by decide +kernel
theorem d_sv_follow_22 : decode m_sv_follow.2.1 22 = .ok (.iinc 3 1, 3) := by decide +kernel
theorem d_sv_follow_25 : decode m_sv_follow.2.1 25 = .ok (.goto (-23), 3) := by decide +kernel
theorem d_sv_follow_28 : decode m_sv_follow.2.1 28 = .ok (.aload_n 0, 1) := by decide +kernel
theorem d_sv_follow_29 : decode m_sv_follow.2.1 29 = .ok (.aload_n 1, 1) := by decide +kernel
theorem d_sv_follow_30 : decode m_sv_follow.2.1 30 = .ok (.getfield 24, 3) := by decide +kernel
theorem d_sv_follow_33 : decode m_sv_follow.2.1 33 = .ok (.putfield 24, 3) := by decide +kernel
theorem d_sv_follow_36 : decode m_sv_follow.2.1 36 = .ok (.aload_n 0, 1) := by decide +kernel
theorem d_sv_follow_37 : decode m_sv_follow.2.1 37 = .ok (.iload_n 2, 1) := by decide +kernel
theorem d_sv_follow_38 : decode m_sv_follow.2.1 38 = .ok (.putfield 31, 3) := by decide +kernel
theorem d_sv_follow_41 : decode m_sv_follow.2.1 41 = .ok (.return_, 1) := by decide +kernel
theorem d_ss_hear_0 : decode m_ss_hear.2.1 0 = .ok (.aload_n 1, 1) := by decide +kernel
theorem d_ss_hear_1 : decode m_ss_hear.2.1 1 = .ok (.getfield 47, 3) := by decide +kernel
theorem d_ss_hear_4 : decode m_ss_hear.2.1 4 = .ok (.tableswitch (64) (0) (2) #[28, 40, 52], 28) := by decide +kernel
theorem d_ss_hear_32 : decode m_ss_hear.2.1 32 = .ok (.aload_n 0, 1) := by decide +kernel
theorem d_ss_hear_33 : decode m_ss_hear.2.1 33 = .ok (.aload_n 1, 1) := by decide +kernel
theorem d_ss_hear_34 : decode m_ss_hear.2.1 34 = .ok (.getfield 52, 3) := by decide +kernel
theorem d_ss_hear_37 : decode m_ss_hear.2.1 37 = .ok (.iconst 1, 1) := by decide +kernel
theorem d_ss_hear_38 : decode m_ss_hear.2.1 38 = .ok (.invokevirtual 55, 3) := by decide +kernel
theorem d_ss_hear_41 : decode m_ss_hear.2.1 41 = .ok (.goto 61, 3) := by decide +kernel
theorem d_ss_hear_44 : decode m_ss_hear.2.1 44 = .ok (.aload_n 0, 1) := by decide +kernel
theorem d_ss_hear_45 : decode m_ss_hear.2.1 45 = .ok (.aload_n 1, 1) := by decide +kernel
theorem d_ss_hear_46 : decode m_ss_hear.2.1 46 = .ok (.getfield 52, 3) := by decide +kernel
theorem d_ss_hear_49 : decode m_ss_hear.2.1 49 = .ok (.iconst 2, 1) := by decide +kernel
theorem d_ss_hear_50 : decode m_ss_hear.2.1 50 = .ok (.invokevirtual 55, 3) := by decide +kernel
theorem d_ss_hear_53 : decode m_ss_hear.2.1 53 = .ok (.goto 49, 3) := by decide +kernel
theorem d_ss_hear_56 : decode m_ss_hear.2.1 56 = .ok (.aload_n 0, 1) := by decide +kernel
theorem d_ss_hear_57 : decode m_ss_hear.2.1 57 = .ok (.aload_n 1, 1) := by decide +kernel
theorem d_ss_hear_58 : decode m_ss_hear.2.1 58 = .ok (.getfield 52, 3) := by decide +kernel
theorem d_ss_hear_61 : decode m_ss_hear.2.1 61 = .ok (.iconst 3, 1) := by decide +kernel
theorem d_ss_hear_62 : decode m_ss_hear.2.1 62 = .ok (.invokevirtual 55, 3) := by decide +kernel
theorem d_ss_hear_65 : decode m_ss_hear.2.1 65 = .ok (.goto 37, 3) := by decide +kernel
theorem d_ss_hear_68 : decode m_ss_hear.2.1 68 = .ok (.iconst 1, 1) := by decide +kernel
theorem d_ss_hear_69 : decode m_ss_hear.2.1 69 = .ok (.istore_n 3, 1) := by decide +kernel
theorem d_ss_hear_70 : decode m_ss_hear.2.1 70 = .ok (.iload_n 3, 1) := by decide +kernel
theorem d_ss_hear_71 : decode m_ss_hear.2.1 71 = .ok (.sipush 259, 3) := by decide +kernel
theorem d_ss_hear_74 : decode m_ss_hear.2.1 74 = .ok (.if_icmp .ge (28), 3) := by decide +kernel
theorem d_ss_hear_77 : decode m_ss_hear.2.1 77 = .ok (.aload_n 2, 1) := by decide +kernel
theorem d_ss_hear_78 : decode m_ss_hear.2.1 78 = .ok (.getfield 59, 3) := by decide +kernel
theorem d_ss_hear_81 : decode m_ss_hear.2.1 81 = .ok (.iload_n 3, 1) := by decide +kernel
theorem d_ss_hear_82 : decode m_ss_hear.2.1 82 = .ok (.iaload, 1) := by decide +kernel
theorem d_ss_hear_83 : decode m_ss_hear.2.1 83 = .ok (.aload_n 1, 1) := by decide +kernel
theorem d_ss_hear_84 : decode m_ss_hear.2.1 84 = .ok (.getfield 64, 3) := by decide +kernel
theorem d_ss_hear_87 : decode m_ss_hear.2.1 87 = .ok (.if_icmp .ne (9), 3) := by decide +kernel
theorem d_ss_hear_90 : decode m_ss_hear.2.1 90 = .ok (.aload_n 0, 1) := by decide +kernel
theorem d_ss_hear_91 : decode m_ss_hear.2.1 91 = .ok (.iload_n 3, 1) := by decide +kernel
theorem d_ss_hear_92 : decode m_ss_hear.2.1 92 = .ok (.iconst 3, 1) := by decide +kernel
theorem d_ss_hear_93 : decode m_ss_hear.2.1 93 = .ok (.invokevirtual 55, 3) := by decide +kernel
theorem d_ss_hear_96 : decode m_ss_hear.2.1 96 = .ok (.iinc 3 1, 3) := by decide +kernel
theorem d_ss_hear_99 : decode m_ss_hear.2.1 99 = .ok (.goto (-29), 3) := by decide +kernel
theorem d_ss_hear_102 : decode m_ss_hear.2.1 102 = .ok (.return_, 1) := by decide +kernel
theorem d_ss_tellOf_0 : decode m_ss_tellOf.2.1 0 = .ok (.aload_n 0, 1) := by decide +kernel
theorem d_ss_tellOf_1 : decode m_ss_tellOf.2.1 1 = .ok (.iload_n 1, 1) := by decide +kernel
theorem d_ss_tellOf_2 : decode m_ss_tellOf.2.1 2 = .ok (.iload_n 2, 1) := by decide +kernel
theorem d_ss_tellOf_3 : decode m_ss_tellOf.2.1 3 = .ok (.iconst 3, 1) := by decide +kernel
theorem d_ss_tellOf_4 : decode m_ss_tellOf.2.1 4 = .ok (.if_icmp .ne (7), 3) := by decide +kernel
theorem d_ss_tellOf_7 : decode m_ss_tellOf.2.1 7 = .ok (.iconst 3, 1) := by decide +kernel
theorem d_ss_tellOf_8 : decode m_ss_tellOf.2.1 8 = .ok (.goto 4, 3) := by decide +kernel
theorem d_ss_tellOf_11 : decode m_ss_tellOf.2.1 11 = .ok (.iconst 1, 1) := by decide +kernel
theorem d_ss_tellOf_12 : decode m_ss_tellOf.2.1 12 = .ok (.iload_n 2, 1) := by decide +kernel
theorem d_ss_tellOf_13 : decode m_ss_tellOf.2.1 13 = .ok (.invokevirtual 66, 3) := by decide +kernel
theorem d_ss_tellOf_16 : decode m_ss_tellOf.2.1 16 = .ok (.iload_n 2, 1) := by decide +kernel
theorem d_ss_tellOf_17 : decode m_ss_tellOf.2.1 17 = .ok (.iconst 2, 1) := by decide +kernel
theorem d_ss_tellOf_18 : decode m_ss_tellOf.2.1 18 = .ok (.if_icmp .eq (13), 3) := by decide +kernel
theorem d_ss_tellOf_21 : decode m_ss_tellOf.2.1 21 = .ok (.aload_n 0, 1) := by decide +kernel
theorem d_ss_tellOf_22 : decode m_ss_tellOf.2.1 22 = .ok (.iload_n 1, 1) := by decide +kernel
theorem d_ss_tellOf_23 : decode m_ss_tellOf.2.1 23 = .ok (.invokestatic 70, 3) := by decide +kernel
theorem d_ss_tellOf_26 : decode m_ss_tellOf.2.1 26 = .ok (.iconst 2, 1) := by decide +kernel
theorem d_ss_tellOf_27 : decode m_ss_tellOf.2.1 27 = .ok (.iconst 4, 1) := by decide +kernel
theorem d_ss_tellOf_28 : decode m_ss_tellOf.2.1 28 = .ok (.invokevirtual 66, 3) := by decide +kernel
theorem d_ss_tellOf_31 : decode m_ss_tellOf.2.1 31 = .ok (.return_, 1) := by decide +kernel
theorem d_ss_tellWatches_0 : decode m_ss_tellWatches.2.1 0 = .ok (.aload_n 0, 1) := by decide +kernel
theorem d_ss_tellWatches_1 : decode m_ss_tellWatches.2.1 1 = .ok (.getfield 9, 3) := by decide +kernel
theorem d_ss_tellWatches_4 : decode m_ss_tellWatches.2.1 4 = .ok (.iload_n 1, 1) := by decide +kernel
theorem d_ss_tellWatches_5 : decode m_ss_tellWatches.2.1 5 = .ok (.iaload, 1) := by decide +kernel
theorem d_ss_tellWatches_6 : decode m_ss_tellWatches.2.1 6 = .ok (.iload_n 2, 1) := by decide +kernel
theorem d_ss_tellWatches_7 : decode m_ss_tellWatches.2.1 7 = .ok (.iand, 1) := by decide +kernel
theorem d_ss_tellWatches_8 : decode m_ss_tellWatches.2.1 8 = .ok (.ifCond .ne (4), 3) := by decide +kernel
theorem d_ss_tellWatches_11 : decode m_ss_tellWatches.2.1 11 = .ok (.return_, 1) := by decide +kernel
theorem d_ss_tellWatches_12 : decode m_ss_tellWatches.2.1 12 = .ok (.aload_n 0, 1) := by decide +kernel
theorem d_ss_tellWatches_13 : decode m_ss_tellWatches.2.1 13 = .ok (.getfield 9, 3) := by decide +kernel
theorem d_ss_tellWatches_16 : decode m_ss_tellWatches.2.1 16 = .ok (.iload_n 1, 1) := by decide +kernel
theorem d_ss_tellWatches_17 : decode m_ss_tellWatches.2.1 17 = .ok (.dup2, 1) := by decide +kernel
theorem d_ss_tellWatches_18 : decode m_ss_tellWatches.2.1 18 = .ok (.iaload, 1) := by decide +kernel
theorem d_ss_tellWatches_19 : decode m_ss_tellWatches.2.1 19 = .ok (.iload_n 2, 1) := by decide +kernel
theorem d_ss_tellWatches_20 : decode m_ss_tellWatches.2.1 20 = .ok (.iconst (-1), 1) := by decide +kernel
theorem d_ss_tellWatches_21 : decode m_ss_tellWatches.2.1 21 = .ok (.ixor, 1) := by decide +kernel
theorem d_ss_tellWatches_22 : decode m_ss_tellWatches.2.1 22 = .ok (.iand, 1) := by decide +kernel
theorem d_ss_tellWatches_23 : decode m_ss_tellWatches.2.1 23 = .ok (.iastore, 1) := by decide +kernel
theorem d_ss_tellWatches_24 : decode m_ss_tellWatches.2.1 24 = .ok (.aload_n 0, 1) := by decide +kernel
theorem d_ss_tellWatches_25 : decode m_ss_tellWatches.2.1 25 = .ok (.getfield 18, 3) := by decide +kernel
theorem d_ss_tellWatches_28 : decode m_ss_tellWatches.2.1 28 = .ok (.bipush 8, 2) := by decide +kernel
theorem d_ss_tellWatches_30 : decode m_ss_tellWatches.2.1 30 = .ok (.if_icmp .ge (29), 3) := by decide +kernel
theorem d_ss_tellWatches_33 : decode m_ss_tellWatches.2.1 33 = .ok (.aload_n 0, 1) := by decide +kernel
theorem d_ss_tellWatches_34 : decode m_ss_tellWatches.2.1 34 = .ok (.getfield 15, 3) := by decide +kernel
theorem d_ss_tellWatches_37 : decode m_ss_tellWatches.2.1 37 = .ok (.aload_n 0, 1) := by decide +kernel
theorem d_ss_tellWatches_38 : decode m_ss_tellWatches.2.1 38 = .ok (.getfield 18, 3) := by decide +kernel
theorem d_ss_tellWatches_41 : decode m_ss_tellWatches.2.1 41 = .ok (.iload_n 3, 1) := by decide +kernel
theorem d_ss_tellWatches_42 : decode m_ss_tellWatches.2.1 42 = .ok (.sipush 300, 3) := by decide +kernel
theorem d_ss_tellWatches_45 : decode m_ss_tellWatches.2.1 45 = .ok (.imul, 1) := by decide +kernel
theorem d_ss_tellWatches_46 : decode m_ss_tellWatches.2.1 46 = .ok (.iload_n 1, 1) := by decide +kernel
theorem d_ss_tellWatches_47 : decode m_ss_tellWatches.2.1 47 = .ok (.iadd, 1) := by decide +kernel
theorem d_ss_tellWatches_48 : decode m_ss_tellWatches.2.1 48 = .ok (.iastore, 1) := by decide +kernel
theorem d_ss_tellWatches_49 : decode m_ss_tellWatches.2.1 49 = .ok (.aload_n 0, 1) := by decide +kernel
theorem d_ss_tellWatches_50 : decode m_ss_tellWatches.2.1 50 = .ok (.dup, 1) := by decide +kernel
theorem d_ss_tellWatches_51 : decode m_ss_tellWatches.2.1 51 = .ok (.getfield 18, 3) := by decide +kernel
theorem d_ss_tellWatches_54 : decode m_ss_tellWatches.2.1 54 = .ok (.iconst 1, 1) := by decide +kernel
theorem d_ss_tellWatches_55 : decode m_ss_tellWatches.2.1 55 = .ok (.iadd, 1) := by decide +kernel
theorem d_ss_tellWatches_56 : decode m_ss_tellWatches.2.1 56 = .ok (.putfield 18, 3) := by decide +kernel
theorem d_ss_tellWatches_59 : decode m_ss_tellWatches.2.1 59 = .ok (.return_, 1) := by decide +kernel
theorem d_tr_has_0 : decode m_tr_has.2.1 0 = .ok (.aload_n 0, 1) := by decide +kernel
theorem d_tr_has_1 : decode m_tr_has.2.1 1 = .ok (.getfield 15, 3) := by decide +kernel
theorem d_tr_has_4 : decode m_tr_has.2.1 4 = .ok (.iload_n 1, 1) := by decide +kernel
theorem d_tr_has_5 : decode m_tr_has.2.1 5 = .ok (.iaload, 1) := by decide +kernel
theorem d_tr_has_6 : decode m_tr_has.2.1 6 = .ok (.iconst (-1), 1) := by decide +kernel
theorem d_tr_has_7 : decode m_tr_has.2.1 7 = .ok (.if_icmp .eq (7), 3) := by decide +kernel
theorem d_tr_has_10 : decode m_tr_has.2.1 10 = .ok (.iconst 1, 1) := by decide +kernel
theorem d_tr_has_11 : decode m_tr_has.2.1 11 = .ok (.goto 4, 3) := by decide +kernel
theorem d_tr_has_14 : decode m_tr_has.2.1 14 = .ok (.iconst 0, 1) := by decide +kernel
theorem d_tr_has_15 : decode m_tr_has.2.1 15 = .ok (.ireturn, 1) := by decide +kernel
theorem d_tr_childrenOf_0 : decode m_tr_childrenOf.2.1 0 = .ok (.iload_n 1, 1) := by decide +kernel
theorem d_tr_childrenOf_1 : decode m_tr_childrenOf.2.1 1 = .ok (.bipush 43, 2) := by decide +kernel
theorem d_tr_childrenOf_3 : decode m_tr_childrenOf.2.1 3 = .ok (.if_icmp .lt (5), 3) := by decide +kernel
theorem d_tr_childrenOf_6 : decode m_tr_childrenOf.2.1 6 = .ok (.iconst 0, 1) := by decide +kernel
theorem d_tr_childrenOf_7 : decode m_tr_childrenOf.2.1 7 = .ok (.ireturn, 1) := by decide +kernel
theorem d_tr_childrenOf_8 : decode m_tr_childrenOf.2.1 8 = .ok (.iconst 0, 1) := by decide +kernel
theorem d_tr_childrenOf_9 : decode m_tr_childrenOf.2.1 9 = .ok (.istore_n 2, 1) := by decide +kernel
theorem d_tr_childrenOf_10 : decode m_tr_childrenOf.2.1 10 = .ok (.iconst 0, 1) := by decide +kernel
theorem d_tr_childrenOf_11 : decode m_tr_childrenOf.2.1 11 = .ok (.istore_n 3, 1) := by decide +kernel
theorem d_tr_childrenOf_12 : decode m_tr_childrenOf.2.1 12 = .ok (.iload_n 3, 1) := by decide +kernel
theorem d_tr_childrenOf_13 : decode m_tr_childrenOf.2.1 13 = .ok (.bipush 6, 2) := by decide +kernel
theorem d_tr_childrenOf_15 : decode m_tr_childrenOf.2.1 15 = .ok (.if_icmp .ge (27), 3) := by decide +kernel
theorem d_tr_childrenOf_18 : decode m_tr_childrenOf.2.1 18 = .ok (.aload_n 0, 1) := by decide +kernel
theorem d_tr_childrenOf_19 : decode m_tr_childrenOf.2.1 19 = .ok (.iload_n 1, 1) := by decide +kernel
theorem d_tr_childrenOf_20 : decode m_tr_childrenOf.2.1 20 = .ok (.iload_n 3, 1) := by decide +kernel
theorem d_tr_childrenOf_21 : decode m_tr_childrenOf.2.1 21 = .ok (.invokestatic 62, 3) := by decide +kernel
theorem d_tr_childrenOf_24 : decode m_tr_childrenOf.2.1 24 = .ok (.invokevirtual 66, 3) := by decide +kernel
theorem d_tr_childrenOf_27 : decode m_tr_childrenOf.2.1 27 = .ok (.ifCond .eq (9), 3) := by decide +kernel
theorem d_tr_childrenOf_30 : decode m_tr_childrenOf.2.1 30 = .ok (.iload_n 2, 1) := by decide +kernel
theorem d_tr_childrenOf_31 : decode m_tr_childrenOf.2.1 31 = .ok (.iconst 1, 1) := by decide +kernel
theorem d_tr_childrenOf_32 : decode m_tr_childrenOf.2.1 32 = .ok (.iload_n 3, 1) := by decide +kernel
theorem d_tr_childrenOf_33 : decode m_tr_childrenOf.2.1 33 = .ok (.ishl, 1) := by decide +kernel
theorem d_tr_childrenOf_34 : decode m_tr_childrenOf.2.1 34 = .ok (.ior, 1) := by decide +kernel
theorem d_tr_childrenOf_35 : decode m_tr_childrenOf.2.1 35 = .ok (.istore_n 2, 1) := by decide +kernel
theorem d_tr_childrenOf_36 : decode m_tr_childrenOf.2.1 36 = .ok (.iinc 3 1, 3) := by decide +kernel
theorem d_tr_childrenOf_39 : decode m_tr_childrenOf.2.1 39 = .ok (.goto (-27), 3) := by decide +kernel
theorem d_tr_childrenOf_42 : decode m_tr_childrenOf.2.1 42 = .ok (.iload_n 2, 1) := by decide +kernel
theorem d_tr_childrenOf_43 : decode m_tr_childrenOf.2.1 43 = .ok (.ireturn, 1) := by decide +kernel
theorem d_ss_watch_0 : decode m_ss_watch.2.1 0 = .ok (.aload_n 0, 1) := by decide +kernel
theorem d_ss_watch_1 : decode m_ss_watch.2.1 1 = .ok (.getfield 9, 3) := by decide +kernel
theorem d_ss_watch_4 : decode m_ss_watch.2.1 4 = .ok (.iload_n 1, 1) := by decide +kernel
theorem d_ss_watch_5 : decode m_ss_watch.2.1 5 = .ok (.dup2, 1) := by decide +kernel
theorem d_ss_watch_6 : decode m_ss_watch.2.1 6 = .ok (.iaload, 1) := by decide +kernel
theorem d_ss_watch_7 : decode m_ss_watch.2.1 7 = .ok (.iload_n 2, 1) := by decide +kernel
theorem d_ss_watch_8 : decode m_ss_watch.2.1 8 = .ok (.ior, 1) := by decide +kernel
theorem d_ss_watch_9 : decode m_ss_watch.2.1 9 = .ok (.iastore, 1) := by decide +kernel
theorem d_ss_watch_10 : decode m_ss_watch.2.1 10 = .ok (.return_, 1) := by decide +kernel
theorem d_ss_takeEvent_0 : decode m_ss_takeEvent.2.1 0 = .ok (.aload_n 0, 1) := by decide +kernel
theorem d_ss_takeEvent_1 : decode m_ss_takeEvent.2.1 1 = .ok (.getfield 15, 3) := by decide +kernel
theorem d_ss_takeEvent_4 : decode m_ss_takeEvent.2.1 4 = .ok (.iconst 0, 1) := by decide +kernel
theorem d_ss_takeEvent_5 : decode m_ss_takeEvent.2.1 5 = .ok (.iaload, 1) := by decide +kernel
theorem d_ss_takeEvent_6 : decode m_ss_takeEvent.2.1 6 = .ok (.istore_n 1, 1) := by decide +kernel
theorem d_ss_takeEvent_7 : decode m_ss_takeEvent.2.1 7 = .ok (.iconst 1, 1) := by decide +kernel
theorem d_ss_takeEvent_8 : decode m_ss_takeEvent.2.1 8 = .ok (.istore_n 2, 1) := by decide +kernel
theorem d_ss_takeEvent_9 : decode m_ss_takeEvent.2.1 9 = .ok (.iload_n 2, 1) := by decide +kernel
theorem d_ss_takeEvent_10 : decode m_ss_takeEvent.2.1 10 = .ok (.aload_n 0, 1) := by decide +kernel
theorem d_ss_takeEvent_11 : decode m_ss_takeEvent.2.1 11 = .ok (.getfield 18, 3) := by decide +kernel
theorem d_ss_takeEvent_14 : decode m_ss_takeEvent.2.1 14 = .ok (.if_icmp .ge (23), 3) := by decide +kernel
theorem d_ss_takeEvent_17 : decode m_ss_takeEvent.2.1 17 = .ok (.aload_n 0, 1) := by decide +kernel
theorem d_ss_takeEvent_18 : decode m_ss_takeEvent.2.1 18 = .ok (.getfield 15, 3) := by decide +kernel
theorem d_ss_takeEvent_21 : decode m_ss_takeEvent.2.1 21 = .ok (.iload_n 2, 1) := by decide +kernel
theorem d_ss_takeEvent_22 : decode m_ss_takeEvent.2.1 22 = .ok (.iconst 1, 1) := by decide +kernel
theorem d_ss_takeEvent_23 : decode m_ss_takeEvent.2.1 23 = .ok (.isub, 1) := by decide +kernel
theorem d_ss_takeEvent_24 : decode m_ss_takeEvent.2.1 24 = .ok (.aload_n 0, 1) := by decide +kernel
theorem d_ss_takeEvent_25 : decode m_ss_takeEvent.2.1 25 = .ok (.getfield 15, 3) := by decide +kernel
theorem d_ss_takeEvent_28 : decode m_ss_takeEvent.2.1 28 = .ok (.iload_n 2, 1) := by decide +kernel
theorem d_ss_takeEvent_29 : decode m_ss_takeEvent.2.1 29 = .ok (.iaload, 1) := by decide +kernel
theorem d_ss_takeEvent_30 : decode m_ss_takeEvent.2.1 30 = .ok (.iastore, 1) := by decide +kernel
theorem d_ss_takeEvent_31 : decode m_ss_takeEvent.2.1 31 = .ok (.iinc 2 1, 3) := by decide +kernel
theorem d_ss_takeEvent_34 : decode m_ss_takeEvent.2.1 34 = .ok (.goto (-25), 3) := by decide +kernel
theorem d_ss_takeEvent_37 : decode m_ss_takeEvent.2.1 37 = .ok (.aload_n 0, 1) := by decide +kernel
theorem d_ss_takeEvent_38 : decode m_ss_takeEvent.2.1 38 = .ok (.dup, 1) := by decide +kernel
theorem d_ss_takeEvent_39 : decode m_ss_takeEvent.2.1 39 = .ok (.getfield 18, 3) := by decide +kernel
theorem d_ss_takeEvent_42 : decode m_ss_takeEvent.2.1 42 = .ok (.iconst 1, 1) := by decide +kernel
theorem d_ss_takeEvent_43 : decode m_ss_takeEvent.2.1 43 = .ok (.isub, 1) := by decide +kernel
theorem d_ss_takeEvent_44 : decode m_ss_takeEvent.2.1 44 = .ok (.putfield 18, 3) := by decide +kernel
theorem d_ss_takeEvent_47 : decode m_ss_takeEvent.2.1 47 = .ok (.iload_n 1, 1) := by decide +kernel
theorem d_ss_takeEvent_48 : decode m_ss_takeEvent.2.1 48 = .ok (.ireturn, 1) := by decide +kernel
theorem d_sv_leadsBefore_0 : decode m_sv_leadsBefore.2.1 0 = .ok (.aload_n 0, 1) := by decide +kernel
theorem d_sv_leadsBefore_1 : decode m_sv_leadsBefore.2.1 1 = .ok (.getfield 31, 3) := by decide +kernel
theorem d_sv_leadsBefore_4 : decode m_sv_leadsBefore.2.1 4 = .ok (.aload_n 1, 1) := by decide +kernel
theorem d_sv_leadsBefore_5 : decode m_sv_leadsBefore.2.1 5 = .ok (.getfield 31, 3) := by decide +kernel
theorem d_sv_leadsBefore_8 : decode m_sv_leadsBefore.2.1 8 = .ok (.if_icmp .gt (25), 3) := by decide +kernel
theorem d_sv_leadsBefore_11 : decode m_sv_leadsBefore.2.1 11 = .ok (.aload_n 0, 1) := by decide +kernel
theorem d_sv_leadsBefore_12 : decode m_sv_leadsBefore.2.1 12 = .ok (.getfield 31, 3) := by decide +kernel
theorem d_sv_leadsBefore_15 : decode m_sv_leadsBefore.2.1 15 = .ok (.aload_n 1, 1) := by decide +kernel
theorem d_sv_leadsBefore_16 : decode m_sv_leadsBefore.2.1 16 = .ok (.getfield 31, 3) := by decide +kernel
theorem d_sv_leadsBefore_19 : decode m_sv_leadsBefore.2.1 19 = .ok (.if_icmp .ne (18), 3) := by decide +kernel
theorem d_sv_leadsBefore_22 : decode m_sv_leadsBefore.2.1 22 = .ok (.aload_n 0, 1) := by decide +kernel
theorem d_sv_leadsBefore_23 : decode m_sv_leadsBefore.2.1 23 = .ok (.getfield 24, 3) := by decide +kernel
theorem d_sv_leadsBefore_26 : decode m_sv_leadsBefore.2.1 26 = .ok (.aload_n 1, 1) := by decide +kernel
theorem d_sv_leadsBefore_27 : decode m_sv_leadsBefore.2.1 27 = .ok (.getfield 24, 3) := by decide +kernel
theorem d_sv_leadsBefore_30 : decode m_sv_leadsBefore.2.1 30 = .ok (.if_icmp .le (7), 3) := by decide +kernel
theorem d_sv_leadsBefore_33 : decode m_sv_leadsBefore.2.1 33 = .ok (.iconst 1, 1) := by decide +kernel
theorem d_sv_leadsBefore_34 : decode m_sv_leadsBefore.2.1 34 = .ok (.goto 4, 3) := by decide +kernel
theorem d_sv_leadsBefore_37 : decode m_sv_leadsBefore.2.1 37 = .ok (.iconst 0, 1) := by decide +kernel
theorem d_sv_leadsBefore_38 : decode m_sv_leadsBefore.2.1 38 = .ok (.ireturn, 1) := by decide +kernel
theorem d_tr_clear_0 : decode m_tr_clear.2.1 0 = .ok (.aload_n 0, 1) := by decide +kernel
theorem d_tr_clear_1 : decode m_tr_clear.2.1 1 = .ok (.getfield 9, 3) := by decide +kernel
theorem d_tr_clear_4 : decode m_tr_clear.2.1 4 = .ok (.iconst 0, 1) := by decide +kernel
theorem d_tr_clear_5 : decode m_tr_clear.2.1 5 = .ok (.invokestatic 24, 3) := by decide +kernel
theorem d_tr_clear_8 : decode m_tr_clear.2.1 8 = .ok (.aload_n 0, 1) := by decide +kernel
theorem d_tr_clear_9 : decode m_tr_clear.2.1 9 = .ok (.getfield 15, 3) := by decide +kernel
theorem d_tr_clear_12 : decode m_tr_clear.2.1 12 = .ok (.iconst (-1), 1) := by decide +kernel
theorem d_tr_clear_13 : decode m_tr_clear.2.1 13 = .ok (.invokestatic 24, 3) := by decide +kernel
theorem d_tr_clear_16 : decode m_tr_clear.2.1 16 = .ok (.aload_n 0, 1) := by decide +kernel
theorem d_tr_clear_17 : decode m_tr_clear.2.1 17 = .ok (.getfield 18, 3) := by decide +kernel
theorem d_tr_clear_20 : decode m_tr_clear.2.1 20 = .ok (.iconst (-1), 1) := by decide +kernel
theorem d_tr_clear_21 : decode m_tr_clear.2.1 21 = .ok (.invokestatic 24, 3) := by decide +kernel
theorem d_tr_clear_24 : decode m_tr_clear.2.1 24 = .ok (.aload_n 0, 1) := by decide +kernel
theorem d_tr_clear_25 : decode m_tr_clear.2.1 25 = .ok (.getfield 21, 3) := by decide +kernel
theorem d_tr_clear_28 : decode m_tr_clear.2.1 28 = .ok (.iconst 0, 1) := by decide +kernel
theorem d_tr_clear_29 : decode m_tr_clear.2.1 29 = .ok (.invokestatic 24, 3) := by decide +kernel
theorem d_tr_clear_32 : decode m_tr_clear.2.1 32 = .ok (.aload_n 0, 1) := by decide +kernel
theorem d_tr_clear_33 : decode m_tr_clear.2.1 33 = .ok (.getfield 15, 3) := by decide +kernel
theorem d_tr_clear_36 : decode m_tr_clear.2.1 36 = .ok (.iconst 0, 1) := by decide +kernel
theorem d_tr_clear_37 : decode m_tr_clear.2.1 37 = .ok (.iconst 0, 1) := by decide +kernel
theorem d_tr_clear_38 : decode m_tr_clear.2.1 38 = .ok (.iastore, 1) := by decide +kernel
theorem d_tr_clear_39 : decode m_tr_clear.2.1 39 = .ok (.return_, 1) := by decide +kernel
theorem d_tr_countNodes_0 : decode m_tr_countNodes.2.1 0 = .ok (.iconst 0, 1) := by decide +kernel
theorem d_tr_countNodes_1 : decode m_tr_countNodes.2.1 1 = .ok (.istore_n 1, 1) := by decide +kernel
theorem d_tr_countNodes_2 : decode m_tr_countNodes.2.1 2 = .ok (.iconst 0, 1) := by decide +kernel
theorem d_tr_countNodes_3 : decode m_tr_countNodes.2.1 3 = .ok (.istore_n 2, 1) := by decide +kernel
theorem d_tr_countNodes_4 : decode m_tr_countNodes.2.1 4 = .ok (.iload_n 2, 1) := by decide +kernel
theorem d_tr_countNodes_5 : decode m_tr_countNodes.2.1 5 = .ok (.sipush 259, 3) := by decide +kernel
theorem d_tr_countNodes_8 : decode m_tr_countNodes.2.1 8 = .ok (.if_icmp .ge (20), 3) := by decide +kernel
theorem d_tr_countNodes_11 : decode m_tr_countNodes.2.1 11 = .ok (.aload_n 0, 1) := by decide +kernel
theorem d_tr_countNodes_12 : decode m_tr_countNodes.2.1 12 = .ok (.iload_n 2, 1) := by decide +kernel
theorem d_tr_countNodes_13 : decode m_tr_countNodes.2.1 13 = .ok (.invokevirtual 66, 3) := by decide +kernel
theorem d_tr_countNodes_16 : decode m_tr_countNodes.2.1 16 = .ok (.ifCond .eq (6), 3) := by decide +kernel
theorem d_tr_countNodes_19 : decode m_tr_countNodes.2.1 19 = .ok (.iinc 1 1, 3) := by decide +kernel
theorem d_tr_countNodes_22 : decode m_tr_countNodes.2.1 22 = .ok (.iinc 2 1, 3) := by decide +kernel
theorem d_tr_countNodes_25 : decode m_tr_countNodes.2.1 25 = .ok (.goto (-21), 3) := by decide +kernel
theorem d_tr_countNodes_28 : decode m_tr_countNodes.2.1 28 = .ok (.iload_n 1, 1) := by decide +kernel
theorem d_tr_countNodes_29 : decode m_tr_countNodes.2.1 29 = .ok (.ireturn, 1) := by decide +kernel
theorem d_ss_standing_0 : decode m_ss_standing.2.1 0 = .ok (.aload_n 0, 1) := by decide +kernel
theorem d_ss_standing_1 : decode m_ss_standing.2.1 1 = .ok (.getfield 22, 3) := by decide +kernel
theorem d_ss_standing_4 : decode m_ss_standing.2.1 4 = .ok (.ifCond .eq (7), 3) := by decide +kernel
theorem d_ss_standing_7 : decode m_ss_standing.2.1 7 = .ok (.iconst 1, 1) := by decide +kernel
theorem d_ss_standing_8 : decode m_ss_standing.2.1 8 = .ok (.goto 15, 3) := by decide +kernel
theorem d_ss_standing_11 : decode m_ss_standing.2.1 11 = .ok (.aload_n 0, 1) := by decide +kernel
theorem d_ss_standing_12 : decode m_ss_standing.2.1 12 = .ok (.getfield 26, 3) := by decide +kernel
theorem d_ss_standing_15 : decode m_ss_standing.2.1 15 = .ok (.ifCond .eq (7), 3) := by decide +kernel
theorem d_ss_standing_18 : decode m_ss_standing.2.1 18 = .ok (.iconst 2, 1) := by decide +kernel
theorem d_ss_standing_19 : decode m_ss_standing.2.1 19 = .ok (.goto 4, 3) := by decide +kernel
theorem d_ss_standing_22 : decode m_ss_standing.2.1 22 = .ok (.iconst 0, 1) := by decide +kernel
theorem d_ss_standing_23 : decode m_ss_standing.2.1 23 = .ok (.ireturn, 1) := by decide +kernel
end
section
/-! decode rows, by wip/whole/gen_facts.py -/
theorem d_zs_init_0 : decode m_zs_init.2.1 0 = .ok (.aload_n 0, 1) := by decide +kernel
theorem d_zs_init_1 : decode m_zs_init.2.1 1 = .ok (.invokespecial 3, 3) := by decide +kernel
theorem d_zs_init_4 : decode m_zs_init.2.1 4 = .ok (.aload_n 0, 1) := by decide +kernel
theorem d_zs_init_5 : decode m_zs_init.2.1 5 = .ok (.iconst 3, 1) := by decide +kernel
theorem d_zs_init_6 : decode m_zs_init.2.1 6 = .ok (.anewarray 9, 3) := by decide +kernel
theorem d_zs_init_9 : decode m_zs_init.2.1 9 = .ok (.putfield 11, 3) := by decide +kernel
theorem d_zs_init_12 : decode m_zs_init.2.1 12 = .ok (.aload_n 0, 1) := by decide +kernel
theorem d_zs_init_13 : decode m_zs_init.2.1 13 = .ok (.iconst 4, 1) := by decide +kernel
theorem d_zs_init_14 : decode m_zs_init.2.1 14 = .ok (.anewarray 15, 3) := by decide +kernel
theorem d_zs_init_17 : decode m_zs_init.2.1 17 = .ok (.putfield 17, 3) := by decide +kernel
theorem d_zs_init_20 : decode m_zs_init.2.1 20 = .ok (.aload_n 0, 1) := by decide +kernel
theorem d_zs_init_21 : decode m_zs_init.2.1 21 = .ok (.new 21, 3) := by decide +kernel
theorem d_zs_init_24 : decode m_zs_init.2.1 24 = .ok (.dup, 1) := by decide +kernel
theorem d_zs_init_25 : decode m_zs_init.2.1 25 = .ok (.invokespecial 23, 3) := by decide +kernel
theorem d_zs_init_28 : decode m_zs_init.2.1 28 = .ok (.putfield 24, 3) := by decide +kernel
theorem d_zs_init_31 : decode m_zs_init.2.1 31 = .ok (.aload_n 0, 1) := by decide +kernel
theorem d_zs_init_32 : decode m_zs_init.2.1 32 = .ok (.iconst 0, 1) := by decide +kernel
theorem d_zs_init_33 : decode m_zs_init.2.1 33 = .ok (.putfield 28, 3) := by decide +kernel
theorem d_zs_init_36 : decode m_zs_init.2.1 36 = .ok (.aload_n 0, 1) := by decide +kernel
theorem d_zs_init_37 : decode m_zs_init.2.1 37 = .ok (.iconst 1, 1) := by decide +kernel
theorem d_zs_init_38 : decode m_zs_init.2.1 38 = .ok (.putfield 32, 3) := by decide +kernel
theorem d_zs_init_41 : decode m_zs_init.2.1 41 = .ok (.aload_n 0, 1) := by decide +kernel
theorem d_zs_init_42 : decode m_zs_init.2.1 42 = .ok (.iconst 0, 1) := by decide +kernel
theorem d_zs_init_43 : decode m_zs_init.2.1 43 = .ok (.putfield 35, 3) := by decide +kernel
theorem d_zs_init_46 : decode m_zs_init.2.1 46 = .ok (.iconst 0, 1) := by decide +kernel
theorem d_zs_init_47 : decode m_zs_init.2.1 47 = .ok (.istore_n 1, 1) := by decide +kernel
theorem d_zs_init_48 : decode m_zs_init.2.1 48 = .ok (.iload_n 1, 1) := by decide +kernel
theorem d_zs_init_49 : decode m_zs_init.2.1 49 = .ok (.iconst 3, 1) := by decide +kernel
theorem d_zs_init_50 : decode m_zs_init.2.1 50 = .ok (.if_icmp .ge (22), 3) := by decide +kernel
theorem d_zs_init_53 : decode m_zs_init.2.1 53 = .ok (.aload_n 0, 1) := by decide +kernel
theorem d_zs_init_54 : decode m_zs_init.2.1 54 = .ok (.getfield 11, 3) := by decide +kernel
theorem d_zs_init_57 : decode m_zs_init.2.1 57 = .ok (.iload_n 1, 1) := by decide +kernel
theorem d_zs_init_58 : decode m_zs_init.2.1 58 = .ok (.new 9, 3) := by decide +kernel
theorem d_zs_init_61 : decode m_zs_init.2.1 61 = .ok (.dup, 1) := by decide +kernel
theorem d_zs_init_62 : decode m_zs_init.2.1 62 = .ok (.invokespecial 38, 3) := by decide +kernel
theorem d_zs_init_65 : decode m_zs_init.2.1 65 = .ok (.aastore, 1) := by decide +kernel
theorem d_zs_init_66 : decode m_zs_init.2.1 66 = .ok (.iinc 1 1, 3) := by decide +kernel
theorem d_zs_init_69 : decode m_zs_init.2.1 69 = .ok (.goto (-21), 3) := by decide +kernel
theorem d_zs_init_72 : decode m_zs_init.2.1 72 = .ok (.iconst 0, 1) := by decide +kernel
theorem d_zs_init_73 : decode m_zs_init.2.1 73 = .ok (.istore_n 1, 1) := by decide +kernel
theorem d_zs_init_74 : decode m_zs_init.2.1 74 = .ok (.iload_n 1, 1) := by decide +kernel
theorem d_zs_init_75 : decode m_zs_init.2.1 75 = .ok (.iconst 4, 1) := by decide +kernel
theorem d_zs_init_76 : decode m_zs_init.2.1 76 = .ok (.if_icmp .ge (22), 3) := by decide +kernel
theorem d_zs_init_79 : decode m_zs_init.2.1 79 = .ok (.aload_n 0, 1) := by decide +kernel
theorem d_zs_init_80 : decode m_zs_init.2.1 80 = .ok (.getfield 17, 3) := by decide +kernel
theorem d_zs_init_83 : decode m_zs_init.2.1 83 = .ok (.iload_n 1, 1) := by decide +kernel
theorem d_zs_init_84 : decode m_zs_init.2.1 84 = .ok (.new 15, 3) := by decide +kernel
theorem d_zs_init_87 : decode m_zs_init.2.1 87 = .ok (.dup, 1) := by decide +kernel
theorem d_zs_init_88 : decode m_zs_init.2.1 88 = .ok (.invokespecial 39, 3) := by decide +kernel
theorem d_zs_init_91 : decode m_zs_init.2.1 91 = .ok (.aastore, 1) := by decide +kernel
theorem d_zs_init_92 : decode m_zs_init.2.1 92 = .ok (.iinc 1 1, 3) := by decide +kernel
theorem d_zs_init_95 : decode m_zs_init.2.1 95 = .ok (.goto (-21), 3) := by decide +kernel
theorem d_zs_init_98 : decode m_zs_init.2.1 98 = .ok (.return_, 1) := by decide +kernel
theorem d_zs_open_0 : decode m_zs_open.2.1 0 = .ok (.iload_n 1, 1) := by decide +kernel
theorem d_zs_open_1 : decode m_zs_open.2.1 1 = .ok (.invokestatic 40, 3) := by decide +kernel
theorem d_zs_open_4 : decode m_zs_open.2.1 4 = .ok (.iload_n 2, 1) := by decide +kernel
theorem d_zs_open_5 : decode m_zs_open.2.1 5 = .ok (.invokestatic 44, 3) := by decide +kernel
theorem d_zs_open_8 : decode m_zs_open.2.1 8 = .ok (.iload_n 3, 1) := by decide +kernel
theorem d_zs_open_9 : decode m_zs_open.2.1 9 = .ok (.iconst 1, 1) := by decide +kernel
theorem d_zs_open_10 : decode m_zs_open.2.1 10 = .ok (.bipush 50, 2) := by decide +kernel
theorem d_zs_open_12 : decode m_zs_open.2.1 12 = .ok (.invokestatic 47, 3) := by decide +kernel
theorem d_zs_open_15 : decode m_zs_open.2.1 15 = .ok (.aload_n 0, 1) := by decide +kernel
theorem d_zs_open_16 : decode m_zs_open.2.1 16 = .ok (.getfield 17, 3) := by decide +kernel
theorem d_zs_open_19 : decode m_zs_open.2.1 19 = .ok (.iload_n 1, 1) := by decide +kernel
theorem d_zs_open_20 : decode m_zs_open.2.1 20 = .ok (.aaload, 1) := by decide +kernel
theorem d_zs_open_21 : decode m_zs_open.2.1 21 = .ok (.astore 4, 2) := by decide +kernel
theorem d_zs_open_23 : decode m_zs_open.2.1 23 = .ok (.aload 4, 2) := by decide +kernel
theorem d_zs_open_25 : decode m_zs_open.2.1 25 = .ok (.getfield 51, 3) := by decide +kernel
theorem d_zs_open_28 : decode m_zs_open.2.1 28 = .ok (.ifCond .ne (26), 3) := by decide +kernel
theorem d_zs_open_31 : decode m_zs_open.2.1 31 = .ok (.aload 4, 2) := by decide +kernel
theorem d_zs_open_33 : decode m_zs_open.2.1 33 = .ok (.getfield 55, 3) := by decide +kernel
theorem d_zs_open_36 : decode m_zs_open.2.1 36 = .ok (.ifCond .ne (18), 3) := by decide +kernel
theorem d_zs_open_39 : decode m_zs_open.2.1 39 = .ok (.aload_n 0, 1) := by decide +kernel
theorem d_zs_open_40 : decode m_zs_open.2.1 40 = .ok (.iload_n 2, 1) := by decide +kernel
theorem d_zs_open_41 : decode m_zs_open.2.1 41 = .ok (.invokevirtual 58, 3) := by decide +kernel
theorem d_zs_open_44 : decode m_zs_open.2.1 44 = .ok (.ifCond .eq (10), 3) := by decide +kernel
theorem d_zs_open_47 : decode m_zs_open.2.1 47 = .ok (.aload_n 0, 1) := by decide +kernel
theorem d_zs_open_48 : decode m_zs_open.2.1 48 = .ok (.invokevirtual 62, 3) := by decide +kernel
theorem d_zs_open_51 : decode m_zs_open.2.1 51 = .ok (.ifCond .ne (11), 3) := by decide +kernel
theorem d_zs_open_54 : decode m_zs_open.2.1 54 = .ok (.new 66, 3) := by decide +kernel
theorem d_zs_open_57 : decode m_zs_open.2.1 57 = .ok (.dup, 1) := by decide +kernel
theorem d_zs_open_58 : decode m_zs_open.2.1 58 = .ok (.invokespecial 68, 3) := by decide +kernel
theorem d_zs_open_61 : decode m_zs_open.2.1 61 = .ok (.athrow, 1) := by decide +kernel
theorem d_zs_open_62 : decode m_zs_open.2.1 62 = .ok (.aload 4, 2) := by decide +kernel
theorem d_zs_open_64 : decode m_zs_open.2.1 64 = .ok (.iload_n 2, 1) := by decide +kernel
theorem d_zs_open_65 : decode m_zs_open.2.1 65 = .ok (.iload_n 3, 1) := by decide +kernel
theorem d_zs_open_66 : decode m_zs_open.2.1 66 = .ok (.aload_n 0, 1) := by decide +kernel
theorem d_zs_open_67 : decode m_zs_open.2.1 67 = .ok (.getfield 35, 3) := by decide +kernel
theorem d_zs_open_70 : decode m_zs_open.2.1 70 = .ok (.invokevirtual 69, 3) := by decide +kernel
theorem d_zs_open_73 : decode m_zs_open.2.1 73 = .ok (.aload_n 0, 1) := by decide +kernel
theorem d_zs_open_74 : decode m_zs_open.2.1 74 = .ok (.getfield 35, 3) := by decide +kernel
theorem d_zs_open_77 : decode m_zs_open.2.1 77 = .ok (.iload_n 3, 1) := by decide +kernel
theorem d_zs_open_78 : decode m_zs_open.2.1 78 = .ok (.iadd, 1) := by decide +kernel
theorem d_zs_open_79 : decode m_zs_open.2.1 79 = .ok (.ireturn, 1) := by decide +kernel
theorem d_zs_requireSession_0 : decode m_zs_requireSession.2.1 0 = .ok (.iload_n 0, 1) := by decide +kernel
theorem d_zs_requireSession_1 : decode m_zs_requireSession.2.1 1 = .ok (.iconst 0, 1) := by decide +kernel
theorem d_zs_requireSession_2 : decode m_zs_requireSession.2.1 2 = .ok (.iconst 3, 1) := by decide +kernel
theorem d_zs_requireSession_3 : decode m_zs_requireSession.2.1 3 = .ok (.invokestatic 47, 3) := by decide +kernel
theorem d_zs_requireSession_6 : decode m_zs_requireSession.2.1 6 = .ok (.return_, 1) := by decide +kernel
theorem d_zs_requireRange_0 : decode m_zs_requireRange.2.1 0 = .ok (.iload_n 0, 1) := by decide +kernel
theorem d_zs_requireRange_1 : decode m_zs_requireRange.2.1 1 = .ok (.iload_n 1, 1) := by decide +kernel
theorem d_zs_requireRange_2 : decode m_zs_requireRange.2.1 2 = .ok (.if_icmp .lt (8), 3) := by decide +kernel
theorem d_zs_requireRange_5 : decode m_zs_requireRange.2.1 5 = .ok (.iload_n 0, 1) := by decide +kernel
theorem d_zs_requireRange_6 : decode m_zs_requireRange.2.1 6 = .ok (.iload_n 2, 1) := by decide +kernel
theorem d_zs_requireRange_7 : decode m_zs_requireRange.2.1 7 = .ok (.if_icmp .le (11), 3) := by decide +kernel
theorem d_zs_requireRange_10 : decode m_zs_requireRange.2.1 10 = .ok (.new 217, 3) := by decide +kernel
theorem d_zs_requireRange_13 : decode m_zs_requireRange.2.1 13 = .ok (.dup, 1) := by decide +kernel
theorem d_zs_requireRange_14 : decode m_zs_requireRange.2.1 14 = .ok (.invokespecial 219, 3) := by decide +kernel
theorem d_zs_requireRange_17 : decode m_zs_requireRange.2.1 17 = .ok (.athrow, 1) := by decide +kernel
theorem d_zs_requireRange_18 : decode m_zs_requireRange.2.1 18 = .ok (.return_, 1) := by decide +kernel
theorem d_zs_requireServer_0 : decode m_zs_requireServer.2.1 0 = .ok (.iload_n 0, 1) := by decide +kernel
theorem d_zs_requireServer_1 : decode m_zs_requireServer.2.1 1 = .ok (.iconst 0, 1) := by decide +kernel
theorem d_zs_requireServer_2 : decode m_zs_requireServer.2.1 2 = .ok (.iconst 2, 1) := by decide +kernel
theorem d_zs_requireServer_3 : decode m_zs_requireServer.2.1 3 = .ok (.invokestatic 47, 3) := by decide +kernel
theorem d_zs_requireServer_6 : decode m_zs_requireServer.2.1 6 = .ok (.return_, 1) := by decide +kernel
theorem d_zs_isLinked_0 : decode m_zs_isLinked.2.1 0 = .ok (.aload_n 0, 1) := by decide +kernel
theorem d_zs_isLinked_1 : decode m_zs_isLinked.2.1 1 = .ok (.getfield 28, 3) := by decide +kernel
theorem d_zs_isLinked_4 : decode m_zs_isLinked.2.1 4 = .ok (.iconst (-1), 1) := by decide +kernel
theorem d_zs_isLinked_5 : decode m_zs_isLinked.2.1 5 = .ok (.if_icmp .eq (34), 3) := by decide +kernel
theorem d_zs_isLinked_8 : decode m_zs_isLinked.2.1 8 = .ok (.aload_n 0, 1) := by decide +kernel
theorem d_zs_isLinked_9 : decode m_zs_isLinked.2.1 9 = .ok (.getfield 11, 3) := by decide +kernel
theorem d_zs_isLinked_12 : decode m_zs_isLinked.2.1 12 = .ok (.aload_n 0, 1) := by decide +kernel
theorem d_zs_isLinked_13 : decode m_zs_isLinked.2.1 13 = .ok (.getfield 28, 3) := by decide +kernel
theorem d_zs_isLinked_16 : decode m_zs_isLinked.2.1 16 = .ok (.aaload, 1) := by decide +kernel
theorem d_zs_isLinked_17 : decode m_zs_isLinked.2.1 17 = .ok (.invokevirtual 191, 3) := by decide +kernel
theorem d_zs_isLinked_20 : decode m_zs_isLinked.2.1 20 = .ok (.ifCond .eq (19), 3) := by decide +kernel
theorem d_zs_isLinked_23 : decode m_zs_isLinked.2.1 23 = .ok (.aload_n 0, 1) := by decide +kernel
theorem d_zs_isLinked_24 : decode m_zs_isLinked.2.1 24 = .ok (.getfield 11, 3) := by decide +kernel
theorem d_zs_isLinked_27 : decode m_zs_isLinked.2.1 27 = .ok (.iload_n 1, 1) := by decide +kernel
theorem d_zs_isLinked_28 : decode m_zs_isLinked.2.1 28 = .ok (.aaload, 1) := by decide +kernel
theorem d_zs_isLinked_29 : decode m_zs_isLinked.2.1 29 = .ok (.invokevirtual 191, 3) := by decide +kernel
theorem d_zs_isLinked_32 : decode m_zs_isLinked.2.1 32 = .ok (.ifCond .eq (7), 3) := by decide +kernel
theorem d_zs_isLinked_35 : decode m_zs_isLinked.2.1 35 = .ok (.iconst 1, 1) := by decide +kernel
theorem d_zs_isLinked_36 : decode m_zs_isLinked.2.1 36 = .ok (.goto 4, 3) := by decide +kernel
theorem d_zs_isLinked_39 : decode m_zs_isLinked.2.1 39 = .ok (.iconst 0, 1) := by decide +kernel
theorem d_zs_isLinked_40 : decode m_zs_isLinked.2.1 40 = .ok (.ireturn, 1) := by decide +kernel
theorem d_zs_hasQuorum_0 : decode m_zs_hasQuorum.2.1 0 = .ok (.iconst 0, 1) := by decide +kernel
theorem d_zs_hasQuorum_1 : decode m_zs_hasQuorum.2.1 1 = .ok (.istore_n 1, 1) := by decide +kernel
theorem d_zs_hasQuorum_2 : decode m_zs_hasQuorum.2.1 2 = .ok (.iconst 0, 1) := by decide +kernel
theorem d_zs_hasQuorum_3 : decode m_zs_hasQuorum.2.1 3 = .ok (.istore_n 2, 1) := by decide +kernel
theorem d_zs_hasQuorum_4 : decode m_zs_hasQuorum.2.1 4 = .ok (.iload_n 2, 1) := by decide +kernel
theorem d_zs_hasQuorum_5 : decode m_zs_hasQuorum.2.1 5 = .ok (.iconst 3, 1) := by decide +kernel
theorem d_zs_hasQuorum_6 : decode m_zs_hasQuorum.2.1 6 = .ok (.if_icmp .ge (20), 3) := by decide +kernel
theorem d_zs_hasQuorum_9 : decode m_zs_hasQuorum.2.1 9 = .ok (.aload_n 0, 1) := by decide +kernel
theorem d_zs_hasQuorum_10 : decode m_zs_hasQuorum.2.1 10 = .ok (.iload_n 2, 1) := by decide +kernel
theorem d_zs_hasQuorum_11 : decode m_zs_hasQuorum.2.1 11 = .ok (.invokevirtual 58, 3) := by decide +kernel
theorem d_zs_hasQuorum_14 : decode m_zs_hasQuorum.2.1 14 = .ok (.ifCond .eq (6), 3) := by decide +kernel
theorem d_zs_hasQuorum_17 : decode m_zs_hasQuorum.2.1 17 = .ok (.iinc 1 1, 3) := by decide +kernel
theorem d_zs_hasQuorum_20 : decode m_zs_hasQuorum.2.1 20 = .ok (.iinc 2 1, 3) := by decide +kernel
theorem d_zs_hasQuorum_23 : decode m_zs_hasQuorum.2.1 23 = .ok (.goto (-19), 3) := by decide +kernel
theorem d_zs_hasQuorum_26 : decode m_zs_hasQuorum.2.1 26 = .ok (.iload_n 1, 1) := by decide +kernel
theorem d_zs_hasQuorum_27 : decode m_zs_hasQuorum.2.1 27 = .ok (.iconst 2, 1) := by decide +kernel
theorem d_zs_hasQuorum_28 : decode m_zs_hasQuorum.2.1 28 = .ok (.if_icmp .lt (7), 3) := by decide +kernel
theorem d_zs_hasQuorum_31 : decode m_zs_hasQuorum.2.1 31 = .ok (.iconst 1, 1) := by decide +kernel
theorem d_zs_hasQuorum_32 : decode m_zs_hasQuorum.2.1 32 = .ok (.goto 4, 3) := by decide +kernel
theorem d_zs_hasQuorum_35 : decode m_zs_hasQuorum.2.1 35 = .ok (.iconst 0, 1) := by decide +kernel
theorem d_zs_hasQuorum_36 : decode m_zs_hasQuorum.2.1 36 = .ok (.ireturn, 1) := by decide +kernel
theorem d_zs_close_0 : decode m_zs_close.2.1 0 = .ok (.iload_n 1, 1) := by decide +kernel
theorem d_zs_close_1 : decode m_zs_close.2.1 1 = .ok (.invokestatic 40, 3) := by decide +kernel
theorem d_zs_close_4 : decode m_zs_close.2.1 4 = .ok (.aload_n 0, 1) := by decide +kernel
theorem d_zs_close_5 : decode m_zs_close.2.1 5 = .ok (.iload_n 1, 1) := by decide +kernel
theorem d_zs_close_6 : decode m_zs_close.2.1 6 = .ok (.invokevirtual 72, 3) := by decide +kernel
theorem d_zs_close_9 : decode m_zs_close.2.1 9 = .ok (.aload_n 0, 1) := by decide +kernel
theorem d_zs_close_10 : decode m_zs_close.2.1 10 = .ok (.invokevirtual 75, 3) := by decide +kernel
theorem d_zs_close_13 : decode m_zs_close.2.1 13 = .ok (.aload_n 0, 1) := by decide +kernel
theorem d_zs_close_14 : decode m_zs_close.2.1 14 = .ok (.getfield 24, 3) := by decide +kernel
theorem d_zs_close_17 : decode m_zs_close.2.1 17 = .ok (.iload_n 1, 1) := by decide +kernel
theorem d_zs_close_18 : decode m_zs_close.2.1 18 = .ok (.invokevirtual 78, 3) := by decide +kernel
theorem d_zs_close_21 : decode m_zs_close.2.1 21 = .ok (.istore_n 2, 1) := by decide +kernel
theorem d_zs_close_22 : decode m_zs_close.2.1 22 = .ok (.aload_n 0, 1) := by decide +kernel
theorem d_zs_close_23 : decode m_zs_close.2.1 23 = .ok (.getfield 17, 3) := by decide +kernel
theorem d_zs_close_26 : decode m_zs_close.2.1 26 = .ok (.iload_n 1, 1) := by decide +kernel
theorem d_zs_close_27 : decode m_zs_close.2.1 27 = .ok (.aaload, 1) := by decide +kernel
theorem d_zs_close_28 : decode m_zs_close.2.1 28 = .ok (.invokevirtual 82, 3) := by decide +kernel
theorem d_zs_close_31 : decode m_zs_close.2.1 31 = .ok (.aload_n 0, 1) := by decide +kernel
theorem d_zs_close_32 : decode m_zs_close.2.1 32 = .ok (.invokevirtual 85, 3) := by decide +kernel
theorem d_zs_close_35 : decode m_zs_close.2.1 35 = .ok (.iload_n 2, 1) := by decide +kernel
theorem d_zs_close_36 : decode m_zs_close.2.1 36 = .ok (.ireturn, 1) := by decide +kernel
theorem d_zs_requireReach_0 : decode m_zs_requireReach.2.1 0 = .ok (.aload_n 0, 1) := by decide +kernel
theorem d_zs_requireReach_1 : decode m_zs_requireReach.2.1 1 = .ok (.getfield 17, 3) := by decide +kernel
theorem d_zs_requireReach_4 : decode m_zs_requireReach.2.1 4 = .ok (.iload_n 1, 1) := by decide +kernel
theorem d_zs_requireReach_5 : decode m_zs_requireReach.2.1 5 = .ok (.aaload, 1) := by decide +kernel
theorem d_zs_requireReach_6 : decode m_zs_requireReach.2.1 6 = .ok (.astore_n 2, 1) := by decide +kernel
theorem d_zs_requireReach_7 : decode m_zs_requireReach.2.1 7 = .ok (.aload_n 2, 1) := by decide +kernel
theorem d_zs_requireReach_8 : decode m_zs_requireReach.2.1 8 = .ok (.getfield 51, 3) := by decide +kernel
theorem d_zs_requireReach_11 : decode m_zs_requireReach.2.1 11 = .ok (.ifCond .eq (44), 3) := by decide +kernel
theorem d_zs_requireReach_14 : decode m_zs_requireReach.2.1 14 = .ok (.aload_n 0, 1) := by decide +kernel
theorem d_zs_requireReach_15 : decode m_zs_requireReach.2.1 15 = .ok (.getfield 11, 3) := by decide +kernel
theorem d_zs_requireReach_18 : decode m_zs_requireReach.2.1 18 = .ok (.aload_n 2, 1) := by decide +kernel
theorem d_zs_requireReach_19 : decode m_zs_requireReach.2.1 19 = .ok (.getfield 100, 3) := by decide +kernel
theorem d_zs_requireReach_22 : decode m_zs_requireReach.2.1 22 = .ok (.aaload, 1) := by decide +kernel
theorem d_zs_requireReach_23 : decode m_zs_requireReach.2.1 23 = .ok (.getfield 97, 3) := by decide +kernel
theorem d_zs_requireReach_26 : decode m_zs_requireReach.2.1 26 = .ok (.ifCond .eq (29), 3) := by decide +kernel
theorem d_zs_requireReach_29 : decode m_zs_requireReach.2.1 29 = .ok (.aload_n 0, 1) := by decide +kernel
theorem d_zs_requireReach_30 : decode m_zs_requireReach.2.1 30 = .ok (.aload_n 2, 1) := by decide +kernel
theorem d_zs_requireReach_31 : decode m_zs_requireReach.2.1 31 = .ok (.getfield 100, 3) := by decide +kernel
theorem d_zs_requireReach_34 : decode m_zs_requireReach.2.1 34 = .ok (.invokevirtual 58, 3) := by decide +kernel
theorem d_zs_requireReach_37 : decode m_zs_requireReach.2.1 37 = .ok (.ifCond .ne (14), 3) := by decide +kernel
theorem d_zs_requireReach_40 : decode m_zs_requireReach.2.1 40 = .ok (.aload_n 2, 1) := by decide +kernel
theorem d_zs_requireReach_41 : decode m_zs_requireReach.2.1 41 = .ok (.getfield 100, 3) := by decide +kernel
theorem d_zs_requireReach_44 : decode m_zs_requireReach.2.1 44 = .ok (.aload_n 0, 1) := by decide +kernel
theorem d_zs_requireReach_45 : decode m_zs_requireReach.2.1 45 = .ok (.getfield 28, 3) := by decide +kernel
theorem d_zs_requireReach_48 : decode m_zs_requireReach.2.1 48 = .ok (.if_icmp .ne (7), 3) := by decide +kernel
theorem d_zs_requireReach_51 : decode m_zs_requireReach.2.1 51 = .ok (.iconst 1, 1) := by decide +kernel
theorem d_zs_requireReach_52 : decode m_zs_requireReach.2.1 52 = .ok (.goto 4, 3) := by decide +kernel
theorem d_zs_requireReach_55 : decode m_zs_requireReach.2.1 55 = .ok (.iconst 0, 1) := by decide +kernel
theorem d_zs_requireReach_56 : decode m_zs_requireReach.2.1 56 = .ok (.istore_n 3, 1) := by decide +kernel
theorem d_zs_requireReach_57 : decode m_zs_requireReach.2.1 57 = .ok (.iload_n 3, 1) := by decide +kernel
theorem d_zs_requireReach_58 : decode m_zs_requireReach.2.1 58 = .ok (.ifCond .ne (11), 3) := by decide +kernel
theorem d_zs_requireReach_61 : decode m_zs_requireReach.2.1 61 = .ok (.new 66, 3) := by decide +kernel
theorem d_zs_requireReach_64 : decode m_zs_requireReach.2.1 64 = .ok (.dup, 1) := by decide +kernel
theorem d_zs_requireReach_65 : decode m_zs_requireReach.2.1 65 = .ok (.invokespecial 68, 3) := by decide +kernel
theorem d_zs_requireReach_68 : decode m_zs_requireReach.2.1 68 = .ok (.athrow, 1) := by decide +kernel
theorem d_zs_requireReach_69 : decode m_zs_requireReach.2.1 69 = .ok (.return_, 1) := by decide +kernel
theorem d_zs_requireQuorum_0 : decode m_zs_requireQuorum.2.1 0 = .ok (.aload_n 0, 1) := by decide +kernel
theorem d_zs_requireQuorum_1 : decode m_zs_requireQuorum.2.1 1 = .ok (.invokevirtual 62, 3) := by decide +kernel
theorem d_zs_requireQuorum_4 : decode m_zs_requireQuorum.2.1 4 = .ok (.ifCond .ne (11), 3) := by decide +kernel
theorem d_zs_requireQuorum_7 : decode m_zs_requireQuorum.2.1 7 = .ok (.new 66, 3) := by decide +kernel
theorem d_zs_requireQuorum_10 : decode m_zs_requireQuorum.2.1 10 = .ok (.dup, 1) := by decide +kernel
theorem d_zs_requireQuorum_11 : decode m_zs_requireQuorum.2.1 11 = .ok (.invokespecial 68, 3) := by decide +kernel
theorem d_zs_requireQuorum_14 : decode m_zs_requireQuorum.2.1 14 = .ok (.athrow, 1) := by decide +kernel
theorem d_zs_requireQuorum_15 : decode m_zs_requireQuorum.2.1 15 = .ok (.return_, 1) := by decide +kernel
theorem d_zs_closeDueSessions_0 : decode m_zs_closeDueSessions.2.1 0 = .ok (.aload_n 0, 1) := by decide +kernel
theorem d_zs_closeDueSessions_1 : decode m_zs_closeDueSessions.2.1 1 = .ok (.invokevirtual 62, 3) := by decide +kernel
theorem d_zs_closeDueSessions_4 : decode m_zs_closeDueSessions.2.1 4 = .ok (.ifCond .ne (4), 3) := by decide +kernel
theorem d_zs_closeDueSessions_7 : decode m_zs_closeDueSessions.2.1 7 = .ok (.return_, 1) := by decide +kernel
theorem d_zs_closeDueSessions_8 : decode m_zs_closeDueSessions.2.1 8 = .ok (.iconst 0, 1) := by decide +kernel
theorem d_zs_closeDueSessions_9 : decode m_zs_closeDueSessions.2.1 9 = .ok (.istore_n 1, 1) := by decide +kernel
theorem d_zs_closeDueSessions_10 : decode m_zs_closeDueSessions.2.1 10 = .ok (.iload_n 1, 1) := by decide +kernel
theorem d_zs_closeDueSessions_11 : decode m_zs_closeDueSessions.2.1 11 = .ok (.iconst 4, 1) := by decide +kernel
theorem d_zs_closeDueSessions_12 : decode m_zs_closeDueSessions.2.1 12 = .ok (.if_icmp .ge (62), 3) := by decide +kernel
theorem d_zs_closeDueSessions_15 : decode m_zs_closeDueSessions.2.1 15 = .ok (.aload_n 0, 1) := by decide +kernel
theorem d_zs_closeDueSessions_16 : decode m_zs_closeDueSessions.2.1 16 = .ok (.getfield 17, 3) := by decide +kernel
theorem d_zs_closeDueSessions_19 : decode m_zs_closeDueSessions.2.1 19 = .ok (.iload_n 1, 1) := by decide +kernel
theorem d_zs_closeDueSessions_20 : decode m_zs_closeDueSessions.2.1 20 = .ok (.aaload, 1) := by decide +kernel
theorem d_zs_closeDueSessions_21 : decode m_zs_closeDueSessions.2.1 21 = .ok (.getfield 55, 3) := by decide +kernel
theorem d_zs_closeDueSessions_24 : decode m_zs_closeDueSessions.2.1 24 = .ok (.ifCond .eq (44), 3) := by decide +kernel
theorem d_zs_closeDueSessions_27 : decode m_zs_closeDueSessions.2.1 27 = .ok (.aload_n 0, 1) := by decide +kernel
theorem d_zs_closeDueSessions_28 : decode m_zs_closeDueSessions.2.1 28 = .ok (.getfield 24, 3) := by decide +kernel
theorem d_zs_closeDueSessions_31 : decode m_zs_closeDueSessions.2.1 31 = .ok (.iload_n 1, 1) := by decide +kernel
theorem d_zs_closeDueSessions_32 : decode m_zs_closeDueSessions.2.1 32 = .ok (.invokevirtual 78, 3) := by decide +kernel
theorem d_zs_closeDueSessions_35 : decode m_zs_closeDueSessions.2.1 35 = .ok (.ifCond .le (23), 3) := by decide +kernel
theorem d_zs_closeDueSessions_38 : decode m_zs_closeDueSessions.2.1 38 = .ok (.aload_n 0, 1) := by decide +kernel
theorem d_zs_closeDueSessions_39 : decode m_zs_closeDueSessions.2.1 39 = .ok (.new 133, 3) := by decide +kernel
theorem d_zs_closeDueSessions_42 : decode m_zs_closeDueSessions.2.1 42 = .ok (.dup, 1) := by decide +kernel
theorem d_zs_closeDueSessions_43 : decode m_zs_closeDueSessions.2.1 43 = .ok (.iconst 3, 1) := by decide +kernel
theorem d_zs_closeDueSessions_44 : decode m_zs_closeDueSessions.2.1 44 = .ok (.iconst 0, 1) := by decide +kernel
theorem d_zs_closeDueSessions_45 : decode m_zs_closeDueSessions.2.1 45 = .ok (.iconst 0, 1) := by decide +kernel
theorem d_zs_closeDueSessions_46 : decode m_zs_closeDueSessions.2.1 46 = .ok (.iload_n 1, 1) := by decide +kernel
theorem d_zs_closeDueSessions_47 : decode m_zs_closeDueSessions.2.1 47 = .ok (.iconst 0, 1) := by decide +kernel
theorem d_zs_closeDueSessions_48 : decode m_zs_closeDueSessions.2.1 48 = .ok (.invokespecial 135, 3) := by decide +kernel
theorem d_zs_closeDueSessions_51 : decode m_zs_closeDueSessions.2.1 51 = .ok (.invokevirtual 220, 3) := by decide +kernel
theorem d_zs_closeDueSessions_54 : decode m_zs_closeDueSessions.2.1 54 = .ok (.aload_n 0, 1) := by decide +kernel
theorem d_zs_closeDueSessions_55 : decode m_zs_closeDueSessions.2.1 55 = .ok (.invokevirtual 182, 3) := by decide +kernel
theorem d_zs_closeDueSessions_58 : decode m_zs_closeDueSessions.2.1 58 = .ok (.aload_n 0, 1) := by decide +kernel
theorem d_zs_closeDueSessions_59 : decode m_zs_closeDueSessions.2.1 59 = .ok (.getfield 17, 3) := by decide +kernel
theorem d_zs_closeDueSessions_62 : decode m_zs_closeDueSessions.2.1 62 = .ok (.iload_n 1, 1) := by decide +kernel
theorem d_zs_closeDueSessions_63 : decode m_zs_closeDueSessions.2.1 63 = .ok (.aaload, 1) := by decide +kernel
theorem d_zs_closeDueSessions_64 : decode m_zs_closeDueSessions.2.1 64 = .ok (.iconst 0, 1) := by decide +kernel
theorem d_zs_closeDueSessions_65 : decode m_zs_closeDueSessions.2.1 65 = .ok (.putfield 55, 3) := by decide +kernel
theorem d_zs_closeDueSessions_68 : decode m_zs_closeDueSessions.2.1 68 = .ok (.iinc 1 1, 3) := by decide +kernel
theorem d_zs_closeDueSessions_71 : decode m_zs_closeDueSessions.2.1 71 = .ok (.goto (-61), 3) := by decide +kernel
theorem d_zs_closeDueSessions_74 : decode m_zs_closeDueSessions.2.1 74 = .ok (.return_, 1) := by decide +kernel
theorem d_zs_appendAndPlan_0 : decode m_zs_appendAndPlan.2.1 0 = .ok (.aload_n 0, 1) := by decide +kernel
theorem d_zs_appendAndPlan_1 : decode m_zs_appendAndPlan.2.1 1 = .ok (.getfield 28, 3) := by decide +kernel
theorem d_zs_appendAndPlan_4 : decode m_zs_appendAndPlan.2.1 4 = .ok (.iconst (-1), 1) := by decide +kernel
theorem d_zs_appendAndPlan_5 : decode m_zs_appendAndPlan.2.1 5 = .ok (.if_icmp .eq (24), 3) := by decide +kernel
theorem d_zs_appendAndPlan_8 : decode m_zs_appendAndPlan.2.1 8 = .ok (.aload_n 0, 1) := by decide +kernel
theorem d_zs_appendAndPlan_9 : decode m_zs_appendAndPlan.2.1 9 = .ok (.getfield 11, 3) := by decide +kernel
theorem d_zs_appendAndPlan_12 : decode m_zs_appendAndPlan.2.1 12 = .ok (.aload_n 0, 1) := by decide +kernel
theorem d_zs_appendAndPlan_13 : decode m_zs_appendAndPlan.2.1 13 = .ok (.getfield 28, 3) := by decide +kernel
theorem d_zs_appendAndPlan_16 : decode m_zs_appendAndPlan.2.1 16 = .ok (.aaload, 1) := by decide +kernel
theorem d_zs_appendAndPlan_17 : decode m_zs_appendAndPlan.2.1 17 = .ok (.aload_n 1, 1) := by decide +kernel
theorem d_zs_appendAndPlan_18 : decode m_zs_appendAndPlan.2.1 18 = .ok (.invokevirtual 223, 3) := by decide +kernel
theorem d_zs_appendAndPlan_21 : decode m_zs_appendAndPlan.2.1 21 = .ok (.aload_n 0, 1) := by decide +kernel
theorem d_zs_appendAndPlan_22 : decode m_zs_appendAndPlan.2.1 22 = .ok (.getfield 24, 3) := by decide +kernel
theorem d_zs_appendAndPlan_25 : decode m_zs_appendAndPlan.2.1 25 = .ok (.aload_n 1, 1) := by decide +kernel
theorem d_zs_appendAndPlan_26 : decode m_zs_appendAndPlan.2.1 26 = .ok (.invokevirtual 226, 3) := by decide +kernel
theorem d_zs_appendAndPlan_29 : decode m_zs_appendAndPlan.2.1 29 = .ok (.return_, 1) := by decide +kernel
theorem d_zs_parentOf_0 : decode m_zs_parentOf.2.1 0 = .ok (.iload_n 0, 1) := by decide +kernel
theorem d_zs_parentOf_1 : decode m_zs_parentOf.2.1 1 = .ok (.iconst 1, 1) := by decide +kernel
theorem d_zs_parentOf_2 : decode m_zs_parentOf.2.1 2 = .ok (.isub, 1) := by decide +kernel
theorem d_zs_parentOf_3 : decode m_zs_parentOf.2.1 3 = .ok (.bipush 6, 2) := by decide +kernel
theorem d_zs_parentOf_5 : decode m_zs_parentOf.2.1 5 = .ok (.idiv, 1) := by decide +kernel
theorem d_zs_parentOf_6 : decode m_zs_parentOf.2.1 6 = .ok (.ireturn, 1) := by decide +kernel
theorem d_zs_childOf_0 : decode m_zs_childOf.2.1 0 = .ok (.bipush 6, 2) := by decide +kernel
theorem d_zs_childOf_2 : decode m_zs_childOf.2.1 2 = .ok (.iload_n 0, 1) := by decide +kernel
theorem d_zs_childOf_3 : decode m_zs_childOf.2.1 3 = .ok (.imul, 1) := by decide +kernel
theorem d_zs_childOf_4 : decode m_zs_childOf.2.1 4 = .ok (.iload_n 1, 1) := by decide +kernel
theorem d_zs_childOf_5 : decode m_zs_childOf.2.1 5 = .ok (.iadd, 1) := by decide +kernel
theorem d_zs_childOf_6 : decode m_zs_childOf.2.1 6 = .ok (.iconst 1, 1) := by decide +kernel
theorem d_zs_childOf_7 : decode m_zs_childOf.2.1 7 = .ok (.iadd, 1) := by decide +kernel
theorem d_zs_childOf_8 : decode m_zs_childOf.2.1 8 = .ok (.ireturn, 1) := by decide +kernel
theorem d_zs_spread_0 : decode m_zs_spread.2.1 0 = .ok (.aload_n 0, 1) := by decide +kernel
theorem d_zs_spread_1 : decode m_zs_spread.2.1 1 = .ok (.getfield 28, 3) := by decide +kernel
theorem d_zs_spread_4 : decode m_zs_spread.2.1 4 = .ok (.iconst (-1), 1) := by decide +kernel
theorem d_zs_spread_5 : decode m_zs_spread.2.1 5 = .ok (.if_icmp .ne (4), 3) := by decide +kernel
theorem d_zs_spread_8 : decode m_zs_spread.2.1 8 = .ok (.return_, 1) := by decide +kernel
theorem d_zs_spread_9 : decode m_zs_spread.2.1 9 = .ok (.aload_n 0, 1) := by decide +kernel
theorem d_zs_spread_10 : decode m_zs_spread.2.1 10 = .ok (.invokevirtual 62, 3) := by decide +kernel
theorem d_zs_spread_13 : decode m_zs_spread.2.1 13 = .ok (.istore_n 1, 1) := by decide +kernel
theorem d_zs_spread_14 : decode m_zs_spread.2.1 14 = .ok (.iconst 0, 1) := by decide +kernel
theorem d_zs_spread_15 : decode m_zs_spread.2.1 15 = .ok (.istore_n 2, 1) := by decide +kernel
theorem d_zs_spread_16 : decode m_zs_spread.2.1 16 = .ok (.iload_n 2, 1) := by decide +kernel
theorem d_zs_spread_17 : decode m_zs_spread.2.1 17 = .ok (.iconst 3, 1) := by decide +kernel
theorem d_zs_spread_18 : decode m_zs_spread.2.1 18 = .ok (.if_icmp .ge (48), 3) := by decide +kernel
theorem d_zs_spread_21 : decode m_zs_spread.2.1 21 = .ok (.aload_n 0, 1) := by decide +kernel
theorem d_zs_spread_22 : decode m_zs_spread.2.1 22 = .ok (.iload_n 2, 1) := by decide +kernel
theorem d_zs_spread_23 : decode m_zs_spread.2.1 23 = .ok (.invokevirtual 58, 3) := by decide +kernel
theorem d_zs_spread_26 : decode m_zs_spread.2.1 26 = .ok (.ifCond .eq (34), 3) := by decide +kernel
theorem d_zs_spread_29 : decode m_zs_spread.2.1 29 = .ok (.aload_n 0, 1) := by decide +kernel
theorem d_zs_spread_30 : decode m_zs_spread.2.1 30 = .ok (.getfield 11, 3) := by decide +kernel
theorem d_zs_spread_33 : decode m_zs_spread.2.1 33 = .ok (.iload_n 2, 1) := by decide +kernel
theorem d_zs_spread_34 : decode m_zs_spread.2.1 34 = .ok (.aaload, 1) := by decide +kernel
theorem d_zs_spread_35 : decode m_zs_spread.2.1 35 = .ok (.aload_n 0, 1) := by decide +kernel
theorem d_zs_spread_36 : decode m_zs_spread.2.1 36 = .ok (.getfield 11, 3) := by decide +kernel
theorem d_zs_spread_39 : decode m_zs_spread.2.1 39 = .ok (.aload_n 0, 1) := by decide +kernel
theorem d_zs_spread_40 : decode m_zs_spread.2.1 40 = .ok (.getfield 28, 3) := by decide +kernel
theorem d_zs_spread_43 : decode m_zs_spread.2.1 43 = .ok (.aaload, 1) := by decide +kernel
theorem d_zs_spread_44 : decode m_zs_spread.2.1 44 = .ok (.aload_n 0, 1) := by decide +kernel
theorem d_zs_spread_45 : decode m_zs_spread.2.1 45 = .ok (.getfield 32, 3) := by decide +kernel
theorem d_zs_spread_48 : decode m_zs_spread.2.1 48 = .ok (.invokevirtual 236, 3) := by decide +kernel
theorem d_zs_spread_51 : decode m_zs_spread.2.1 51 = .ok (.iload_n 1, 1) := by decide +kernel
theorem d_zs_spread_52 : decode m_zs_spread.2.1 52 = .ok (.ifCond .eq (8), 3) := by decide +kernel
theorem d_zs_spread_55 : decode m_zs_spread.2.1 55 = .ok (.aload_n 0, 1) := by decide +kernel
theorem d_zs_spread_56 : decode m_zs_spread.2.1 56 = .ok (.iload_n 2, 1) := by decide +kernel
theorem d_zs_spread_57 : decode m_zs_spread.2.1 57 = .ok (.invokevirtual 240, 3) := by decide +kernel
theorem d_zs_spread_60 : decode m_zs_spread.2.1 60 = .ok (.iinc 2 1, 3) := by decide +kernel
theorem d_zs_spread_63 : decode m_zs_spread.2.1 63 = .ok (.goto (-47), 3) := by decide +kernel
theorem d_zs_spread_66 : decode m_zs_spread.2.1 66 = .ok (.return_, 1) := by decide +kernel
theorem d_zs_applyLog_0 : decode m_zs_applyLog.2.1 0 = .ok (.aload_n 0, 1) := by decide +kernel
theorem d_zs_applyLog_1 : decode m_zs_applyLog.2.1 1 = .ok (.getfield 11, 3) := by decide +kernel
theorem d_zs_applyLog_4 : decode m_zs_applyLog.2.1 4 = .ok (.iload_n 1, 1) := by decide +kernel
theorem d_zs_applyLog_5 : decode m_zs_applyLog.2.1 5 = .ok (.aaload, 1) := by decide +kernel
theorem d_zs_applyLog_6 : decode m_zs_applyLog.2.1 6 = .ok (.astore_n 2, 1) := by decide +kernel
theorem d_zs_applyLog_7 : decode m_zs_applyLog.2.1 7 = .ok (.aload_n 2, 1) := by decide +kernel
theorem d_zs_applyLog_8 : decode m_zs_applyLog.2.1 8 = .ok (.getfield 185, 3) := by decide +kernel
theorem d_zs_applyLog_11 : decode m_zs_applyLog.2.1 11 = .ok (.istore_n 3, 1) := by decide +kernel
theorem d_zs_applyLog_12 : decode m_zs_applyLog.2.1 12 = .ok (.iload_n 3, 1) := by decide +kernel
theorem d_zs_applyLog_13 : decode m_zs_applyLog.2.1 13 = .ok (.aload_n 2, 1) := by decide +kernel
theorem d_zs_applyLog_14 : decode m_zs_applyLog.2.1 14 = .ok (.getfield 179, 3) := by decide +kernel
theorem d_zs_applyLog_17 : decode m_zs_applyLog.2.1 17 = .ok (.if_icmp .ge (67), 3) := by decide +kernel
theorem d_zs_applyLog_20 : decode m_zs_applyLog.2.1 20 = .ok (.aload_n 2, 1) := by decide +kernel
theorem d_zs_applyLog_21 : decode m_zs_applyLog.2.1 21 = .ok (.getfield 232, 3) := by decide +kernel
theorem d_zs_applyLog_24 : decode m_zs_applyLog.2.1 24 = .ok (.iload_n 3, 1) := by decide +kernel
theorem d_zs_applyLog_25 : decode m_zs_applyLog.2.1 25 = .ok (.aaload, 1) := by decide +kernel
theorem d_zs_applyLog_26 : decode m_zs_applyLog.2.1 26 = .ok (.astore 4, 2) := by decide +kernel
theorem d_zs_applyLog_28 : decode m_zs_applyLog.2.1 28 = .ok (.iconst 0, 1) := by decide +kernel
theorem d_zs_applyLog_29 : decode m_zs_applyLog.2.1 29 = .ok (.istore 5, 2) := by decide +kernel
theorem d_zs_applyLog_31 : decode m_zs_applyLog.2.1 31 = .ok (.iload 5, 2) := by decide +kernel
theorem d_zs_applyLog_33 : decode m_zs_applyLog.2.1 33 = .ok (.iconst 4, 1) := by decide +kernel
theorem d_zs_applyLog_34 : decode m_zs_applyLog.2.1 34 = .ok (.if_icmp .ge (35), 3) := by decide +kernel
theorem d_zs_applyLog_37 : decode m_zs_applyLog.2.1 37 = .ok (.aload_n 0, 1) := by decide +kernel
theorem d_zs_applyLog_38 : decode m_zs_applyLog.2.1 38 = .ok (.iload 5, 2) := by decide +kernel
theorem d_zs_applyLog_40 : decode m_zs_applyLog.2.1 40 = .ok (.iload_n 1, 1) := by decide +kernel
theorem d_zs_applyLog_41 : decode m_zs_applyLog.2.1 41 = .ok (.invokevirtual 176, 3) := by decide +kernel
theorem d_zs_applyLog_44 : decode m_zs_applyLog.2.1 44 = .ok (.ifCond .eq (19), 3) := by decide +kernel
theorem d_zs_applyLog_47 : decode m_zs_applyLog.2.1 47 = .ok (.aload_n 0, 1) := by decide +kernel
theorem d_zs_applyLog_48 : decode m_zs_applyLog.2.1 48 = .ok (.getfield 17, 3) := by decide +kernel
theorem d_zs_applyLog_51 : decode m_zs_applyLog.2.1 51 = .ok (.iload 5, 2) := by decide +kernel
theorem d_zs_applyLog_53 : decode m_zs_applyLog.2.1 53 = .ok (.aaload, 1) := by decide +kernel
theorem d_zs_applyLog_54 : decode m_zs_applyLog.2.1 54 = .ok (.aload 4, 2) := by decide +kernel
theorem d_zs_applyLog_56 : decode m_zs_applyLog.2.1 56 = .ok (.aload_n 2, 1) := by decide +kernel
theorem d_zs_applyLog_57 : decode m_zs_applyLog.2.1 57 = .ok (.getfield 205, 3) := by decide +kernel
theorem d_zs_applyLog_60 : decode m_zs_applyLog.2.1 60 = .ok (.invokevirtual 243, 3) := by decide +kernel
theorem d_zs_applyLog_63 : decode m_zs_applyLog.2.1 63 = .ok (.iinc 5 1, 3) := by decide +kernel
theorem d_zs_applyLog_66 : decode m_zs_applyLog.2.1 66 = .ok (.goto (-35), 3) := by decide +kernel
theorem d_zs_applyLog_69 : decode m_zs_applyLog.2.1 69 = .ok (.aload_n 2, 1) := by decide +kernel
theorem d_zs_applyLog_70 : decode m_zs_applyLog.2.1 70 = .ok (.getfield 205, 3) := by decide +kernel
theorem d_zs_applyLog_73 : decode m_zs_applyLog.2.1 73 = .ok (.aload 4, 2) := by decide +kernel
theorem d_zs_applyLog_75 : decode m_zs_applyLog.2.1 75 = .ok (.invokevirtual 226, 3) := by decide +kernel
theorem d_zs_applyLog_78 : decode m_zs_applyLog.2.1 78 = .ok (.iinc 3 1, 3) := by decide +kernel
theorem d_zs_applyLog_81 : decode m_zs_applyLog.2.1 81 = .ok (.goto (-69), 3) := by decide +kernel
theorem d_zs_applyLog_84 : decode m_zs_applyLog.2.1 84 = .ok (.aload_n 2, 1) := by decide +kernel
theorem d_zs_applyLog_85 : decode m_zs_applyLog.2.1 85 = .ok (.aload_n 2, 1) := by decide +kernel
theorem d_zs_applyLog_86 : decode m_zs_applyLog.2.1 86 = .ok (.getfield 179, 3) := by decide +kernel
theorem d_zs_applyLog_89 : decode m_zs_applyLog.2.1 89 = .ok (.putfield 185, 3) := by decide +kernel
theorem d_zs_applyLog_92 : decode m_zs_applyLog.2.1 92 = .ok (.return_, 1) := by decide +kernel
theorem d_zs_isAt_0 : decode m_zs_isAt.2.1 0 = .ok (.aload_n 0, 1) := by decide +kernel
theorem d_zs_isAt_1 : decode m_zs_isAt.2.1 1 = .ok (.getfield 17, 3) := by decide +kernel
theorem d_zs_isAt_4 : decode m_zs_isAt.2.1 4 = .ok (.iload_n 1, 1) := by decide +kernel
theorem d_zs_isAt_5 : decode m_zs_isAt.2.1 5 = .ok (.aaload, 1) := by decide +kernel
theorem d_zs_isAt_6 : decode m_zs_isAt.2.1 6 = .ok (.getfield 51, 3) := by decide +kernel
theorem d_zs_isAt_9 : decode m_zs_isAt.2.1 9 = .ok (.ifCond .eq (20), 3) := by decide +kernel
theorem d_zs_isAt_12 : decode m_zs_isAt.2.1 12 = .ok (.aload_n 0, 1) := by decide +kernel
theorem d_zs_isAt_13 : decode m_zs_isAt.2.1 13 = .ok (.getfield 17, 3) := by decide +kernel
theorem d_zs_isAt_16 : decode m_zs_isAt.2.1 16 = .ok (.iload_n 1, 1) := by decide +kernel
theorem d_zs_isAt_17 : decode m_zs_isAt.2.1 17 = .ok (.aaload, 1) := by decide +kernel
theorem d_zs_isAt_18 : decode m_zs_isAt.2.1 18 = .ok (.getfield 100, 3) := by decide +kernel
theorem d_zs_isAt_21 : decode m_zs_isAt.2.1 21 = .ok (.iload_n 2, 1) := by decide +kernel
theorem d_zs_isAt_22 : decode m_zs_isAt.2.1 22 = .ok (.if_icmp .ne (7), 3) := by decide +kernel
theorem d_zs_isAt_25 : decode m_zs_isAt.2.1 25 = .ok (.iconst 1, 1) := by decide +kernel
theorem d_zs_isAt_26 : decode m_zs_isAt.2.1 26 = .ok (.goto 4, 3) := by decide +kernel
theorem d_zs_isAt_29 : decode m_zs_isAt.2.1 29 = .ok (.iconst 0, 1) := by decide +kernel
theorem d_zs_isAt_30 : decode m_zs_isAt.2.1 30 = .ok (.ireturn, 1) := by decide +kernel
theorem d_zs_ping_0 : decode m_zs_ping.2.1 0 = .ok (.iload_n 1, 1) := by decide +kernel
theorem d_zs_ping_1 : decode m_zs_ping.2.1 1 = .ok (.invokestatic 40, 3) := by decide +kernel
theorem d_zs_ping_4 : decode m_zs_ping.2.1 4 = .ok (.aload_n 0, 1) := by decide +kernel
theorem d_zs_ping_5 : decode m_zs_ping.2.1 5 = .ok (.iload_n 1, 1) := by decide +kernel
theorem d_zs_ping_6 : decode m_zs_ping.2.1 6 = .ok (.invokevirtual 72, 3) := by decide +kernel
theorem d_zs_ping_9 : decode m_zs_ping.2.1 9 = .ok (.aload_n 0, 1) := by decide +kernel
theorem d_zs_ping_10 : decode m_zs_ping.2.1 10 = .ok (.invokevirtual 75, 3) := by decide +kernel
theorem d_zs_ping_13 : decode m_zs_ping.2.1 13 = .ok (.aload_n 0, 1) := by decide +kernel
theorem d_zs_ping_14 : decode m_zs_ping.2.1 14 = .ok (.getfield 17, 3) := by decide +kernel
theorem d_zs_ping_17 : decode m_zs_ping.2.1 17 = .ok (.iload_n 1, 1) := by decide +kernel
theorem d_zs_ping_18 : decode m_zs_ping.2.1 18 = .ok (.aaload, 1) := by decide +kernel
theorem d_zs_ping_19 : decode m_zs_ping.2.1 19 = .ok (.aload_n 0, 1) := by decide +kernel
theorem d_zs_ping_20 : decode m_zs_ping.2.1 20 = .ok (.getfield 35, 3) := by decide +kernel
theorem d_zs_ping_23 : decode m_zs_ping.2.1 23 = .ok (.putfield 88, 3) := by decide +kernel
theorem d_zs_ping_26 : decode m_zs_ping.2.1 26 = .ok (.aload_n 0, 1) := by decide +kernel
theorem d_zs_ping_27 : decode m_zs_ping.2.1 27 = .ok (.getfield 17, 3) := by decide +kernel
theorem d_zs_ping_30 : decode m_zs_ping.2.1 30 = .ok (.iload_n 1, 1) := by decide +kernel
theorem d_zs_ping_31 : decode m_zs_ping.2.1 31 = .ok (.aaload, 1) := by decide +kernel
theorem d_zs_ping_32 : decode m_zs_ping.2.1 32 = .ok (.getfield 91, 3) := by decide +kernel
theorem d_zs_ping_35 : decode m_zs_ping.2.1 35 = .ok (.ireturn, 1) := by decide +kernel
theorem d_zs_move_0 : decode m_zs_move.2.1 0 = .ok (.iload_n 1, 1) := by decide +kernel
theorem d_zs_move_1 : decode m_zs_move.2.1 1 = .ok (.invokestatic 40, 3) := by decide +kernel
theorem d_zs_move_4 : decode m_zs_move.2.1 4 = .ok (.iload_n 2, 1) := by decide +kernel
theorem d_zs_move_5 : decode m_zs_move.2.1 5 = .ok (.invokestatic 44, 3) := by decide +kernel
theorem d_zs_move_8 : decode m_zs_move.2.1 8 = .ok (.aload_n 0, 1) := by decide +kernel
theorem d_zs_move_9 : decode m_zs_move.2.1 9 = .ok (.iload_n 1, 1) := by decide +kernel
theorem d_zs_move_10 : decode m_zs_move.2.1 10 = .ok (.invokevirtual 94, 3) := by decide +kernel
theorem d_zs_move_13 : decode m_zs_move.2.1 13 = .ok (.aload_n 0, 1) := by decide +kernel
theorem d_zs_move_14 : decode m_zs_move.2.1 14 = .ok (.getfield 11, 3) := by decide +kernel
theorem d_zs_move_17 : decode m_zs_move.2.1 17 = .ok (.iload_n 2, 1) := by decide +kernel
theorem d_zs_move_18 : decode m_zs_move.2.1 18 = .ok (.aaload, 1) := by decide +kernel
theorem d_zs_move_19 : decode m_zs_move.2.1 19 = .ok (.getfield 97, 3) := by decide +kernel
theorem d_zs_move_22 : decode m_zs_move.2.1 22 = .ok (.ifCond .ne (11), 3) := by decide +kernel
theorem d_zs_move_25 : decode m_zs_move.2.1 25 = .ok (.new 66, 3) := by decide +kernel
theorem d_zs_move_28 : decode m_zs_move.2.1 28 = .ok (.dup, 1) := by decide +kernel
theorem d_zs_move_29 : decode m_zs_move.2.1 29 = .ok (.invokespecial 68, 3) := by decide +kernel
theorem d_zs_move_32 : decode m_zs_move.2.1 32 = .ok (.athrow, 1) := by decide +kernel
theorem d_zs_move_33 : decode m_zs_move.2.1 33 = .ok (.aload_n 0, 1) := by decide +kernel
theorem d_zs_move_34 : decode m_zs_move.2.1 34 = .ok (.getfield 17, 3) := by decide +kernel
theorem d_zs_move_37 : decode m_zs_move.2.1 37 = .ok (.iload_n 1, 1) := by decide +kernel
theorem d_zs_move_38 : decode m_zs_move.2.1 38 = .ok (.aaload, 1) := by decide +kernel
theorem d_zs_move_39 : decode m_zs_move.2.1 39 = .ok (.astore_n 3, 1) := by decide +kernel
theorem d_zs_move_40 : decode m_zs_move.2.1 40 = .ok (.aload_n 3, 1) := by decide +kernel
theorem d_zs_move_41 : decode m_zs_move.2.1 41 = .ok (.getfield 100, 3) := by decide +kernel
theorem d_zs_move_44 : decode m_zs_move.2.1 44 = .ok (.istore 4, 2) := by decide +kernel
theorem d_zs_move_46 : decode m_zs_move.2.1 46 = .ok (.aload_n 3, 1) := by decide +kernel
theorem d_zs_move_47 : decode m_zs_move.2.1 47 = .ok (.iload_n 2, 1) := by decide +kernel
theorem d_zs_move_48 : decode m_zs_move.2.1 48 = .ok (.putfield 100, 3) := by decide +kernel
theorem d_zs_move_51 : decode m_zs_move.2.1 51 = .ok (.aload_n 3, 1) := by decide +kernel
theorem d_zs_move_52 : decode m_zs_move.2.1 52 = .ok (.invokevirtual 103, 3) := by decide +kernel
theorem d_zs_move_55 : decode m_zs_move.2.1 55 = .ok (.iload 4, 2) := by decide +kernel
theorem d_zs_move_57 : decode m_zs_move.2.1 57 = .ok (.ireturn, 1) := by decide +kernel
theorem d_zs_requireOpen_0 : decode m_zs_requireOpen.2.1 0 = .ok (.aload_n 0, 1) := by decide +kernel
theorem d_zs_requireOpen_1 : decode m_zs_requireOpen.2.1 1 = .ok (.getfield 17, 3) := by decide +kernel
theorem d_zs_requireOpen_4 : decode m_zs_requireOpen.2.1 4 = .ok (.iload_n 1, 1) := by decide +kernel
theorem d_zs_requireOpen_5 : decode m_zs_requireOpen.2.1 5 = .ok (.aaload, 1) := by decide +kernel
theorem d_zs_requireOpen_6 : decode m_zs_requireOpen.2.1 6 = .ok (.getfield 51, 3) := by decide +kernel
theorem d_zs_requireOpen_9 : decode m_zs_requireOpen.2.1 9 = .ok (.ifCond .ne (11), 3) := by decide +kernel
theorem d_zs_requireOpen_12 : decode m_zs_requireOpen.2.1 12 = .ok (.new 66, 3) := by decide +kernel
theorem d_zs_requireOpen_15 : decode m_zs_requireOpen.2.1 15 = .ok (.dup, 1) := by decide +kernel
theorem d_zs_requireOpen_16 : decode m_zs_requireOpen.2.1 16 = .ok (.invokespecial 68, 3) := by decide +kernel
theorem d_zs_requireOpen_19 : decode m_zs_requireOpen.2.1 19 = .ok (.athrow, 1) := by decide +kernel
theorem d_zs_requireOpen_20 : decode m_zs_requireOpen.2.1 20 = .ok (.return_, 1) := by decide +kernel
theorem d_zs_create_0 : decode m_zs_create.2.1 0 = .ok (.iload_n 1, 1) := by decide +kernel
theorem d_zs_create_1 : decode m_zs_create.2.1 1 = .ok (.invokestatic 40, 3) := by decide +kernel
theorem d_zs_create_4 : decode m_zs_create.2.1 4 = .ok (.iload 4, 2) := by decide +kernel
theorem d_zs_create_6 : decode m_zs_create.2.1 6 = .ok (.iconst 0, 1) := by decide +kernel
theorem d_zs_create_7 : decode m_zs_create.2.1 7 = .ok (.iconst 3, 1) := by decide +kernel
theorem d_zs_create_8 : decode m_zs_create.2.1 8 = .ok (.invokestatic 47, 3) := by decide +kernel
theorem d_zs_create_11 : decode m_zs_create.2.1 11 = .ok (.iload 4, 2) := by decide +kernel
theorem d_zs_create_13 : decode m_zs_create.2.1 13 = .ok (.iconst 2, 1) := by decide +kernel
theorem d_zs_create_14 : decode m_zs_create.2.1 14 = .ok (.iand, 1) := by decide +kernel
theorem d_zs_create_15 : decode m_zs_create.2.1 15 = .ok (.ifCond .eq (7), 3) := by decide +kernel
theorem d_zs_create_18 : decode m_zs_create.2.1 18 = .ok (.iconst 1, 1) := by decide +kernel
theorem d_zs_create_19 : decode m_zs_create.2.1 19 = .ok (.goto 4, 3) := by decide +kernel
theorem d_zs_create_22 : decode m_zs_create.2.1 22 = .ok (.iconst 0, 1) := by decide +kernel
theorem d_zs_create_23 : decode m_zs_create.2.1 23 = .ok (.istore 5, 2) := by decide +kernel
theorem d_zs_create_25 : decode m_zs_create.2.1 25 = .ok (.iload_n 2, 1) := by decide +kernel
theorem d_zs_create_26 : decode m_zs_create.2.1 26 = .ok (.iload 5, 2) := by decide +kernel
theorem d_zs_create_28 : decode m_zs_create.2.1 28 = .ok (.ifCond .eq (7), 3) := by decide +kernel
theorem d_zs_create_31 : decode m_zs_create.2.1 31 = .ok (.iconst 0, 1) := by decide +kernel
theorem d_zs_create_32 : decode m_zs_create.2.1 32 = .ok (.goto 4, 3) := by decide +kernel
theorem d_zs_create_35 : decode m_zs_create.2.1 35 = .ok (.iconst 1, 1) := by decide +kernel
theorem d_zs_create_36 : decode m_zs_create.2.1 36 = .ok (.iload 5, 2) := by decide +kernel
theorem d_zs_create_38 : decode m_zs_create.2.1 38 = .ok (.ifCond .eq (8), 3) := by decide +kernel
theorem d_zs_create_41 : decode m_zs_create.2.1 41 = .ok (.bipush 43, 2) := by decide +kernel
theorem d_zs_create_43 : decode m_zs_create.2.1 43 = .ok (.goto 6, 3) := by decide +kernel
theorem d_zs_create_46 : decode m_zs_create.2.1 46 = .ok (.sipush 259, 3) := by decide +kernel
theorem d_zs_create_49 : decode m_zs_create.2.1 49 = .ok (.iconst 1, 1) := by decide +kernel
theorem d_zs_create_50 : decode m_zs_create.2.1 50 = .ok (.isub, 1) := by decide +kernel
theorem d_zs_create_51 : decode m_zs_create.2.1 51 = .ok (.invokestatic 47, 3) := by decide +kernel
theorem d_zs_create_54 : decode m_zs_create.2.1 54 = .ok (.aload_n 0, 1) := by decide +kernel
theorem d_zs_create_55 : decode m_zs_create.2.1 55 = .ok (.iload_n 1, 1) := by decide +kernel
theorem d_zs_create_56 : decode m_zs_create.2.1 56 = .ok (.invokevirtual 72, 3) := by decide +kernel
theorem d_zs_create_59 : decode m_zs_create.2.1 59 = .ok (.iload 5, 2) := by decide +kernel
theorem d_zs_create_61 : decode m_zs_create.2.1 61 = .ok (.ifCond .eq (7), 3) := by decide +kernel
theorem d_zs_create_64 : decode m_zs_create.2.1 64 = .ok (.iload_n 2, 1) := by decide +kernel
theorem d_zs_create_65 : decode m_zs_create.2.1 65 = .ok (.goto 7, 3) := by decide +kernel
theorem d_zs_create_68 : decode m_zs_create.2.1 68 = .ok (.iload_n 2, 1) := by decide +kernel
theorem d_zs_create_69 : decode m_zs_create.2.1 69 = .ok (.invokestatic 106, 3) := by decide +kernel
theorem d_zs_create_72 : decode m_zs_create.2.1 72 = .ok (.istore 6, 2) := by decide +kernel
theorem d_zs_create_74 : decode m_zs_create.2.1 74 = .ok (.aload_n 0, 1) := by decide +kernel
theorem d_zs_create_75 : decode m_zs_create.2.1 75 = .ok (.getfield 24, 3) := by decide +kernel
theorem d_zs_create_78 : decode m_zs_create.2.1 78 = .ok (.iload 6, 2) := by decide +kernel
theorem d_zs_create_80 : decode m_zs_create.2.1 80 = .ok (.invokestatic 109, 3) := by decide +kernel
theorem d_zs_create_83 : decode m_zs_create.2.1 83 = .ok (.aload_n 0, 1) := by decide +kernel
theorem d_zs_create_84 : decode m_zs_create.2.1 84 = .ok (.getfield 24, 3) := by decide +kernel
theorem d_zs_create_87 : decode m_zs_create.2.1 87 = .ok (.getfield 113, 3) := by decide +kernel
theorem d_zs_create_90 : decode m_zs_create.2.1 90 = .ok (.iload 6, 2) := by decide +kernel
theorem d_zs_create_92 : decode m_zs_create.2.1 92 = .ok (.iaload, 1) := by decide +kernel
theorem d_zs_create_93 : decode m_zs_create.2.1 93 = .ok (.iconst (-1), 1) := by decide +kernel
theorem d_zs_create_94 : decode m_zs_create.2.1 94 = .ok (.if_icmp .ne (23), 3) := by decide +kernel
theorem d_zs_create_97 : decode m_zs_create.2.1 97 = .ok (.iload 5, 2) := by decide +kernel
theorem d_zs_create_99 : decode m_zs_create.2.1 99 = .ok (.ifCond .eq (26), 3) := by decide +kernel
theorem d_zs_create_102 : decode m_zs_create.2.1 102 = .ok (.aload_n 0, 1) := by decide +kernel
theorem d_zs_create_103 : decode m_zs_create.2.1 103 = .ok (.getfield 24, 3) := by decide +kernel
theorem d_zs_create_106 : decode m_zs_create.2.1 106 = .ok (.getfield 117, 3) := by decide +kernel
theorem d_zs_create_109 : decode m_zs_create.2.1 109 = .ok (.iload 6, 2) := by decide +kernel
theorem d_zs_create_111 : decode m_zs_create.2.1 111 = .ok (.iaload, 1) := by decide +kernel
theorem d_zs_create_112 : decode m_zs_create.2.1 112 = .ok (.bipush 6, 2) := by decide +kernel
theorem d_zs_create_114 : decode m_zs_create.2.1 114 = .ok (.if_icmp .lt (11), 3) := by decide +kernel
theorem d_zs_create_117 : decode m_zs_create.2.1 117 = .ok (.new 120, 3) := by decide +kernel
theorem d_zs_create_120 : decode m_zs_create.2.1 120 = .ok (.dup, 1) := by decide +kernel
theorem d_zs_create_121 : decode m_zs_create.2.1 121 = .ok (.invokespecial 122, 3) := by decide +kernel
theorem d_zs_create_124 : decode m_zs_create.2.1 124 = .ok (.athrow, 1) := by decide +kernel
theorem d_zs_create_125 : decode m_zs_create.2.1 125 = .ok (.iload 5, 2) := by decide +kernel
theorem d_zs_create_127 : decode m_zs_create.2.1 127 = .ok (.ifCond .eq (21), 3) := by decide +kernel
theorem d_zs_create_130 : decode m_zs_create.2.1 130 = .ok (.iload 6, 2) := by decide +kernel
theorem d_zs_create_132 : decode m_zs_create.2.1 132 = .ok (.aload_n 0, 1) := by decide +kernel
theorem d_zs_create_133 : decode m_zs_create.2.1 133 = .ok (.getfield 24, 3) := by decide +kernel
theorem d_zs_create_136 : decode m_zs_create.2.1 136 = .ok (.getfield 117, 3) := by decide +kernel
theorem d_zs_create_139 : decode m_zs_create.2.1 139 = .ok (.iload 6, 2) := by decide +kernel
theorem d_zs_create_141 : decode m_zs_create.2.1 141 = .ok (.iaload, 1) := by decide +kernel
theorem d_zs_create_142 : decode m_zs_create.2.1 142 = .ok (.invokestatic 123, 3) := by decide +kernel
theorem d_zs_create_145 : decode m_zs_create.2.1 145 = .ok (.goto 4, 3) := by decide +kernel
theorem d_zs_create_148 : decode m_zs_create.2.1 148 = .ok (.iload_n 2, 1) := by decide +kernel
theorem d_zs_create_149 : decode m_zs_create.2.1 149 = .ok (.istore 7, 2) := by decide +kernel
theorem d_zs_create_151 : decode m_zs_create.2.1 151 = .ok (.aload_n 0, 1) := by decide +kernel
theorem d_zs_create_152 : decode m_zs_create.2.1 152 = .ok (.getfield 24, 3) := by decide +kernel
theorem d_zs_create_155 : decode m_zs_create.2.1 155 = .ok (.iload 7, 2) := by decide +kernel
theorem d_zs_create_157 : decode m_zs_create.2.1 157 = .ok (.invokevirtual 127, 3) := by decide +kernel
theorem d_zs_create_160 : decode m_zs_create.2.1 160 = .ok (.ifCond .eq (11), 3) := by decide +kernel
theorem d_zs_create_163 : decode m_zs_create.2.1 163 = .ok (.new 130, 3) := by decide +kernel
theorem d_zs_create_166 : decode m_zs_create.2.1 166 = .ok (.dup, 1) := by decide +kernel
theorem d_zs_create_167 : decode m_zs_create.2.1 167 = .ok (.invokespecial 132, 3) := by decide +kernel
theorem d_zs_create_170 : decode m_zs_create.2.1 170 = .ok (.athrow, 1) := by decide +kernel
theorem d_zs_create_171 : decode m_zs_create.2.1 171 = .ok (.iload 4, 2) := by decide +kernel
theorem d_zs_create_173 : decode m_zs_create.2.1 173 = .ok (.iconst 1, 1) := by decide +kernel
theorem d_zs_create_174 : decode m_zs_create.2.1 174 = .ok (.iand, 1) := by decide +kernel
theorem d_zs_create_175 : decode m_zs_create.2.1 175 = .ok (.ifCond .eq (7), 3) := by decide +kernel
theorem d_zs_create_178 : decode m_zs_create.2.1 178 = .ok (.iload_n 1, 1) := by decide +kernel
theorem d_zs_create_179 : decode m_zs_create.2.1 179 = .ok (.goto 4, 3) := by decide +kernel
theorem d_zs_create_182 : decode m_zs_create.2.1 182 = .ok (.iconst (-1), 1) := by decide +kernel
theorem d_zs_create_183 : decode m_zs_create.2.1 183 = .ok (.istore 8, 2) := by decide +kernel
theorem d_zs_create_185 : decode m_zs_create.2.1 185 = .ok (.aload_n 0, 1) := by decide +kernel
theorem d_zs_create_186 : decode m_zs_create.2.1 186 = .ok (.new 133, 3) := by decide +kernel
theorem d_zs_create_189 : decode m_zs_create.2.1 189 = .ok (.dup, 1) := by decide +kernel
theorem d_zs_create_190 : decode m_zs_create.2.1 190 = .ok (.iconst 0, 1) := by decide +kernel
theorem d_zs_create_191 : decode m_zs_create.2.1 191 = .ok (.iload 7, 2) := by decide +kernel
theorem d_zs_create_193 : decode m_zs_create.2.1 193 = .ok (.iload_n 3, 1) := by decide +kernel
theorem d_zs_create_194 : decode m_zs_create.2.1 194 = .ok (.iload 8, 2) := by decide +kernel
theorem d_zs_create_196 : decode m_zs_create.2.1 196 = .ok (.iload 5, 2) := by decide +kernel
theorem d_zs_create_198 : decode m_zs_create.2.1 198 = .ok (.invokespecial 135, 3) := by decide +kernel
theorem d_zs_create_201 : decode m_zs_create.2.1 201 = .ok (.invokevirtual 138, 3) := by decide +kernel
theorem d_zs_create_204 : decode m_zs_create.2.1 204 = .ok (.iload 7, 2) := by decide +kernel
theorem d_zs_create_206 : decode m_zs_create.2.1 206 = .ok (.ireturn, 1) := by decide +kernel
theorem d_zs_requireNode_0 : decode m_zs_requireNode.2.1 0 = .ok (.aload_n 0, 1) := by decide +kernel
theorem d_zs_requireNode_1 : decode m_zs_requireNode.2.1 1 = .ok (.iload_n 1, 1) := by decide +kernel
theorem d_zs_requireNode_2 : decode m_zs_requireNode.2.1 2 = .ok (.invokevirtual 127, 3) := by decide +kernel
theorem d_zs_requireNode_5 : decode m_zs_requireNode.2.1 5 = .ok (.ifCond .ne (11), 3) := by decide +kernel
theorem d_zs_requireNode_8 : decode m_zs_requireNode.2.1 8 = .ok (.new 169, 3) := by decide +kernel
theorem d_zs_requireNode_11 : decode m_zs_requireNode.2.1 11 = .ok (.dup, 1) := by decide +kernel
theorem d_zs_requireNode_12 : decode m_zs_requireNode.2.1 12 = .ok (.invokespecial 171, 3) := by decide +kernel
theorem d_zs_requireNode_15 : decode m_zs_requireNode.2.1 15 = .ok (.athrow, 1) := by decide +kernel
theorem d_zs_requireNode_16 : decode m_zs_requireNode.2.1 16 = .ok (.return_, 1) := by decide +kernel
theorem d_zs_proposeChange_0 : decode m_zs_proposeChange.2.1 0 = .ok (.aload_n 0, 1) := by decide +kernel
theorem d_zs_proposeChange_1 : decode m_zs_proposeChange.2.1 1 = .ok (.getfield 28, 3) := by decide +kernel
theorem d_zs_proposeChange_4 : decode m_zs_proposeChange.2.1 4 = .ok (.iconst (-1), 1) := by decide +kernel
theorem d_zs_proposeChange_5 : decode m_zs_proposeChange.2.1 5 = .ok (.if_icmp .eq (20), 3) := by decide +kernel
theorem d_zs_proposeChange_8 : decode m_zs_proposeChange.2.1 8 = .ok (.aload_n 0, 1) := by decide +kernel
theorem d_zs_proposeChange_9 : decode m_zs_proposeChange.2.1 9 = .ok (.getfield 11, 3) := by decide +kernel
theorem d_zs_proposeChange_12 : decode m_zs_proposeChange.2.1 12 = .ok (.aload_n 0, 1) := by decide +kernel
theorem d_zs_proposeChange_13 : decode m_zs_proposeChange.2.1 13 = .ok (.getfield 28, 3) := by decide +kernel
theorem d_zs_proposeChange_16 : decode m_zs_proposeChange.2.1 16 = .ok (.aaload, 1) := by decide +kernel
theorem d_zs_proposeChange_17 : decode m_zs_proposeChange.2.1 17 = .ok (.getfield 179, 3) := by decide +kernel
theorem d_zs_proposeChange_20 : decode m_zs_proposeChange.2.1 20 = .ok (.bipush 60, 2) := by decide +kernel
theorem d_zs_proposeChange_22 : decode m_zs_proposeChange.2.1 22 = .ok (.if_icmp .lt (11), 3) := by decide +kernel
theorem d_zs_proposeChange_25 : decode m_zs_proposeChange.2.1 25 = .ok (.new 66, 3) := by decide +kernel
theorem d_zs_proposeChange_28 : decode m_zs_proposeChange.2.1 28 = .ok (.dup, 1) := by decide +kernel
theorem d_zs_proposeChange_29 : decode m_zs_proposeChange.2.1 29 = .ok (.invokespecial 68, 3) := by decide +kernel
theorem d_zs_proposeChange_32 : decode m_zs_proposeChange.2.1 32 = .ok (.athrow, 1) := by decide +kernel
theorem d_zs_proposeChange_33 : decode m_zs_proposeChange.2.1 33 = .ok (.aload_n 0, 1) := by decide +kernel
theorem d_zs_proposeChange_34 : decode m_zs_proposeChange.2.1 34 = .ok (.aload_n 1, 1) := by decide +kernel
theorem d_zs_proposeChange_35 : decode m_zs_proposeChange.2.1 35 = .ok (.invokevirtual 220, 3) := by decide +kernel
theorem d_zs_proposeChange_38 : decode m_zs_proposeChange.2.1 38 = .ok (.aload_n 0, 1) := by decide +kernel
theorem d_zs_proposeChange_39 : decode m_zs_proposeChange.2.1 39 = .ok (.invokevirtual 182, 3) := by decide +kernel
theorem d_zs_proposeChange_42 : decode m_zs_proposeChange.2.1 42 = .ok (.aload_n 0, 1) := by decide +kernel
theorem d_zs_proposeChange_43 : decode m_zs_proposeChange.2.1 43 = .ok (.invokevirtual 75, 3) := by decide +kernel
theorem d_zs_proposeChange_46 : decode m_zs_proposeChange.2.1 46 = .ok (.return_, 1) := by decide +kernel
theorem d_zs_set_0 : decode m_zs_set.2.1 0 = .ok (.iload_n 1, 1) := by decide +kernel
theorem d_zs_set_1 : decode m_zs_set.2.1 1 = .ok (.invokestatic 40, 3) := by decide +kernel
theorem d_zs_set_4 : decode m_zs_set.2.1 4 = .ok (.iload_n 2, 1) := by decide +kernel
theorem d_zs_set_5 : decode m_zs_set.2.1 5 = .ok (.invokestatic 142, 3) := by decide +kernel
theorem d_zs_set_8 : decode m_zs_set.2.1 8 = .ok (.iload_n 3, 1) := by decide +kernel
theorem d_zs_set_9 : decode m_zs_set.2.1 9 = .ok (.invokestatic 145, 3) := by decide +kernel
theorem d_zs_set_12 : decode m_zs_set.2.1 12 = .ok (.aload_n 0, 1) := by decide +kernel
theorem d_zs_set_13 : decode m_zs_set.2.1 13 = .ok (.iload_n 1, 1) := by decide +kernel
theorem d_zs_set_14 : decode m_zs_set.2.1 14 = .ok (.invokevirtual 72, 3) := by decide +kernel
theorem d_zs_set_17 : decode m_zs_set.2.1 17 = .ok (.aload_n 0, 1) := by decide +kernel
theorem d_zs_set_18 : decode m_zs_set.2.1 18 = .ok (.getfield 24, 3) := by decide +kernel
theorem d_zs_set_21 : decode m_zs_set.2.1 21 = .ok (.iload_n 2, 1) := by decide +kernel
theorem d_zs_set_22 : decode m_zs_set.2.1 22 = .ok (.invokestatic 109, 3) := by decide +kernel
theorem d_zs_set_25 : decode m_zs_set.2.1 25 = .ok (.aload_n 0, 1) := by decide +kernel
theorem d_zs_set_26 : decode m_zs_set.2.1 26 = .ok (.iload_n 2, 1) := by decide +kernel
theorem d_zs_set_27 : decode m_zs_set.2.1 27 = .ok (.iload_n 3, 1) := by decide +kernel
theorem d_zs_set_28 : decode m_zs_set.2.1 28 = .ok (.invokevirtual 148, 3) := by decide +kernel
theorem d_zs_set_31 : decode m_zs_set.2.1 31 = .ok (.ifCond .eq (6), 3) := by decide +kernel
theorem d_zs_set_34 : decode m_zs_set.2.1 34 = .ok (.bipush (-2), 2) := by decide +kernel
theorem d_zs_set_36 : decode m_zs_set.2.1 36 = .ok (.ireturn, 1) := by decide +kernel
theorem d_zs_set_37 : decode m_zs_set.2.1 37 = .ok (.aload_n 0, 1) := by decide +kernel
theorem d_zs_set_38 : decode m_zs_set.2.1 38 = .ok (.new 133, 3) := by decide +kernel
theorem d_zs_set_41 : decode m_zs_set.2.1 41 = .ok (.dup, 1) := by decide +kernel
theorem d_zs_set_42 : decode m_zs_set.2.1 42 = .ok (.iconst 1, 1) := by decide +kernel
theorem d_zs_set_43 : decode m_zs_set.2.1 43 = .ok (.iload_n 2, 1) := by decide +kernel
theorem d_zs_set_44 : decode m_zs_set.2.1 44 = .ok (.iload 4, 2) := by decide +kernel
theorem d_zs_set_46 : decode m_zs_set.2.1 46 = .ok (.iconst (-1), 1) := by decide +kernel
theorem d_zs_set_47 : decode m_zs_set.2.1 47 = .ok (.iconst 0, 1) := by decide +kernel
theorem d_zs_set_48 : decode m_zs_set.2.1 48 = .ok (.invokespecial 135, 3) := by decide +kernel
theorem d_zs_set_51 : decode m_zs_set.2.1 51 = .ok (.invokevirtual 138, 3) := by decide +kernel
theorem d_zs_set_54 : decode m_zs_set.2.1 54 = .ok (.aload_n 0, 1) := by decide +kernel
theorem d_zs_set_55 : decode m_zs_set.2.1 55 = .ok (.getfield 24, 3) := by decide +kernel
theorem d_zs_set_58 : decode m_zs_set.2.1 58 = .ok (.getfield 152, 3) := by decide +kernel
theorem d_zs_set_61 : decode m_zs_set.2.1 61 = .ok (.iload_n 2, 1) := by decide +kernel
theorem d_zs_set_62 : decode m_zs_set.2.1 62 = .ok (.iaload, 1) := by decide +kernel
theorem d_zs_set_63 : decode m_zs_set.2.1 63 = .ok (.ireturn, 1) := by decide +kernel
theorem d_zs_requirePath_0 : decode m_zs_requirePath.2.1 0 = .ok (.iload_n 0, 1) := by decide +kernel
theorem d_zs_requirePath_1 : decode m_zs_requirePath.2.1 1 = .ok (.iconst 0, 1) := by decide +kernel
theorem d_zs_requirePath_2 : decode m_zs_requirePath.2.1 2 = .ok (.sipush 258, 3) := by decide +kernel
theorem d_zs_requirePath_5 : decode m_zs_requirePath.2.1 5 = .ok (.invokestatic 47, 3) := by decide +kernel
theorem d_zs_requirePath_8 : decode m_zs_requirePath.2.1 8 = .ok (.return_, 1) := by decide +kernel
theorem d_zs_requireVersion_0 : decode m_zs_requireVersion.2.1 0 = .ok (.iload_n 0, 1) := by decide +kernel
theorem d_zs_requireVersion_1 : decode m_zs_requireVersion.2.1 1 = .ok (.iconst (-1), 1) := by decide +kernel
theorem d_zs_requireVersion_2 : decode m_zs_requireVersion.2.1 2 = .ok (.if_icmp .ge (11), 3) := by decide +kernel
theorem d_zs_requireVersion_5 : decode m_zs_requireVersion.2.1 5 = .ok (.new 217, 3) := by decide +kernel
theorem d_zs_requireVersion_8 : decode m_zs_requireVersion.2.1 8 = .ok (.dup, 1) := by decide +kernel
theorem d_zs_requireVersion_9 : decode m_zs_requireVersion.2.1 9 = .ok (.invokespecial 219, 3) := by decide +kernel
theorem d_zs_requireVersion_12 : decode m_zs_requireVersion.2.1 12 = .ok (.athrow, 1) := by decide +kernel
theorem d_zs_requireVersion_13 : decode m_zs_requireVersion.2.1 13 = .ok (.return_, 1) := by decide +kernel
theorem d_zs_isOtherVersion_0 : decode m_zs_isOtherVersion.2.1 0 = .ok (.iload_n 2, 1) := by decide +kernel
theorem d_zs_isOtherVersion_1 : decode m_zs_isOtherVersion.2.1 1 = .ok (.iconst (-1), 1) := by decide +kernel
theorem d_zs_isOtherVersion_2 : decode m_zs_isOtherVersion.2.1 2 = .ok (.if_icmp .eq (20), 3) := by decide +kernel
theorem d_zs_isOtherVersion_5 : decode m_zs_isOtherVersion.2.1 5 = .ok (.iload_n 2, 1) := by decide +kernel
theorem d_zs_isOtherVersion_6 : decode m_zs_isOtherVersion.2.1 6 = .ok (.aload_n 0, 1) := by decide +kernel
theorem d_zs_isOtherVersion_7 : decode m_zs_isOtherVersion.2.1 7 = .ok (.getfield 24, 3) := by decide +kernel
theorem d_zs_isOtherVersion_10 : decode m_zs_isOtherVersion.2.1 10 = .ok (.getfield 152, 3) := by decide +kernel
theorem d_zs_isOtherVersion_13 : decode m_zs_isOtherVersion.2.1 13 = .ok (.iload_n 1, 1) := by decide +kernel
theorem d_zs_isOtherVersion_14 : decode m_zs_isOtherVersion.2.1 14 = .ok (.iaload, 1) := by decide +kernel
theorem d_zs_isOtherVersion_15 : decode m_zs_isOtherVersion.2.1 15 = .ok (.if_icmp .eq (7), 3) := by decide +kernel
theorem d_zs_isOtherVersion_18 : decode m_zs_isOtherVersion.2.1 18 = .ok (.iconst 1, 1) := by decide +kernel
theorem d_zs_isOtherVersion_19 : decode m_zs_isOtherVersion.2.1 19 = .ok (.goto 4, 3) := by decide +kernel
theorem d_zs_isOtherVersion_22 : decode m_zs_isOtherVersion.2.1 22 = .ok (.iconst 0, 1) := by decide +kernel
theorem d_zs_isOtherVersion_23 : decode m_zs_isOtherVersion.2.1 23 = .ok (.ireturn, 1) := by decide +kernel
theorem d_zs_delete_0 : decode m_zs_delete.2.1 0 = .ok (.iload_n 1, 1) := by decide +kernel
theorem d_zs_delete_1 : decode m_zs_delete.2.1 1 = .ok (.invokestatic 40, 3) := by decide +kernel
theorem d_zs_delete_4 : decode m_zs_delete.2.1 4 = .ok (.iload_n 2, 1) := by decide +kernel
theorem d_zs_delete_5 : decode m_zs_delete.2.1 5 = .ok (.iconst 1, 1) := by decide +kernel
theorem d_zs_delete_6 : decode m_zs_delete.2.1 6 = .ok (.sipush 258, 3) := by decide +kernel
theorem d_zs_delete_9 : decode m_zs_delete.2.1 9 = .ok (.invokestatic 47, 3) := by decide +kernel
theorem d_zs_delete_12 : decode m_zs_delete.2.1 12 = .ok (.iload_n 3, 1) := by decide +kernel
theorem d_zs_delete_13 : decode m_zs_delete.2.1 13 = .ok (.invokestatic 145, 3) := by decide +kernel
theorem d_zs_delete_16 : decode m_zs_delete.2.1 16 = .ok (.aload_n 0, 1) := by decide +kernel
theorem d_zs_delete_17 : decode m_zs_delete.2.1 17 = .ok (.iload_n 1, 1) := by decide +kernel
theorem d_zs_delete_18 : decode m_zs_delete.2.1 18 = .ok (.invokevirtual 72, 3) := by decide +kernel
theorem d_zs_delete_21 : decode m_zs_delete.2.1 21 = .ok (.aload_n 0, 1) := by decide +kernel
theorem d_zs_delete_22 : decode m_zs_delete.2.1 22 = .ok (.getfield 24, 3) := by decide +kernel
theorem d_zs_delete_25 : decode m_zs_delete.2.1 25 = .ok (.iload_n 2, 1) := by decide +kernel
theorem d_zs_delete_26 : decode m_zs_delete.2.1 26 = .ok (.invokestatic 109, 3) := by decide +kernel
theorem d_zs_delete_29 : decode m_zs_delete.2.1 29 = .ok (.aload_n 0, 1) := by decide +kernel
theorem d_zs_delete_30 : decode m_zs_delete.2.1 30 = .ok (.iload_n 2, 1) := by decide +kernel
theorem d_zs_delete_31 : decode m_zs_delete.2.1 31 = .ok (.iload_n 3, 1) := by decide +kernel
theorem d_zs_delete_32 : decode m_zs_delete.2.1 32 = .ok (.invokevirtual 148, 3) := by decide +kernel
theorem d_zs_delete_35 : decode m_zs_delete.2.1 35 = .ok (.ifCond .eq (6), 3) := by decide +kernel
theorem d_zs_delete_38 : decode m_zs_delete.2.1 38 = .ok (.bipush (-2), 2) := by decide +kernel
theorem d_zs_delete_40 : decode m_zs_delete.2.1 40 = .ok (.ireturn, 1) := by decide +kernel
theorem d_zs_delete_41 : decode m_zs_delete.2.1 41 = .ok (.aload_n 0, 1) := by decide +kernel
theorem d_zs_delete_42 : decode m_zs_delete.2.1 42 = .ok (.getfield 24, 3) := by decide +kernel
theorem d_zs_delete_45 : decode m_zs_delete.2.1 45 = .ok (.iload_n 2, 1) := by decide +kernel
theorem d_zs_delete_46 : decode m_zs_delete.2.1 46 = .ok (.invokevirtual 155, 3) := by decide +kernel
theorem d_zs_delete_49 : decode m_zs_delete.2.1 49 = .ok (.ifCond .eq (11), 3) := by decide +kernel
theorem d_zs_delete_52 : decode m_zs_delete.2.1 52 = .ok (.new 120, 3) := by decide +kernel
theorem d_zs_delete_55 : decode m_zs_delete.2.1 55 = .ok (.dup, 1) := by decide +kernel
theorem d_zs_delete_56 : decode m_zs_delete.2.1 56 = .ok (.invokespecial 122, 3) := by decide +kernel
theorem d_zs_delete_59 : decode m_zs_delete.2.1 59 = .ok (.athrow, 1) := by decide +kernel
theorem d_zs_delete_60 : decode m_zs_delete.2.1 60 = .ok (.aload_n 0, 1) := by decide +kernel
theorem d_zs_delete_61 : decode m_zs_delete.2.1 61 = .ok (.getfield 24, 3) := by decide +kernel
theorem d_zs_delete_64 : decode m_zs_delete.2.1 64 = .ok (.getfield 152, 3) := by decide +kernel
theorem d_zs_delete_67 : decode m_zs_delete.2.1 67 = .ok (.iload_n 2, 1) := by decide +kernel
theorem d_zs_delete_68 : decode m_zs_delete.2.1 68 = .ok (.iaload, 1) := by decide +kernel
theorem d_zs_delete_69 : decode m_zs_delete.2.1 69 = .ok (.istore 4, 2) := by decide +kernel
theorem d_zs_delete_71 : decode m_zs_delete.2.1 71 = .ok (.aload_n 0, 1) := by decide +kernel
theorem d_zs_delete_72 : decode m_zs_delete.2.1 72 = .ok (.new 133, 3) := by decide +kernel
theorem d_zs_delete_75 : decode m_zs_delete.2.1 75 = .ok (.dup, 1) := by decide +kernel
theorem d_zs_delete_76 : decode m_zs_delete.2.1 76 = .ok (.iconst 2, 1) := by decide +kernel
theorem d_zs_delete_77 : decode m_zs_delete.2.1 77 = .ok (.iload_n 2, 1) := by decide +kernel
theorem d_zs_delete_78 : decode m_zs_delete.2.1 78 = .ok (.iconst 0, 1) := by decide +kernel
theorem d_zs_delete_79 : decode m_zs_delete.2.1 79 = .ok (.iconst (-1), 1) := by decide +kernel
theorem d_zs_delete_80 : decode m_zs_delete.2.1 80 = .ok (.iconst 0, 1) := by decide +kernel
theorem d_zs_delete_81 : decode m_zs_delete.2.1 81 = .ok (.invokespecial 135, 3) := by decide +kernel
theorem d_zs_delete_84 : decode m_zs_delete.2.1 84 = .ok (.invokevirtual 138, 3) := by decide +kernel
theorem d_zs_delete_87 : decode m_zs_delete.2.1 87 = .ok (.iload 4, 2) := by decide +kernel
theorem d_zs_delete_89 : decode m_zs_delete.2.1 89 = .ok (.ireturn, 1) := by decide +kernel
theorem d_zs_get_0 : decode m_zs_get.2.1 0 = .ok (.iload_n 1, 1) := by decide +kernel
theorem d_zs_get_1 : decode m_zs_get.2.1 1 = .ok (.invokestatic 40, 3) := by decide +kernel
theorem d_zs_get_4 : decode m_zs_get.2.1 4 = .ok (.iload_n 2, 1) := by decide +kernel
theorem d_zs_get_5 : decode m_zs_get.2.1 5 = .ok (.invokestatic 142, 3) := by decide +kernel
theorem d_zs_get_8 : decode m_zs_get.2.1 8 = .ok (.aload_n 0, 1) := by decide +kernel
theorem d_zs_get_9 : decode m_zs_get.2.1 9 = .ok (.iload_n 1, 1) := by decide +kernel
theorem d_zs_get_10 : decode m_zs_get.2.1 10 = .ok (.invokevirtual 158, 3) := by decide +kernel
theorem d_zs_get_13 : decode m_zs_get.2.1 13 = .ok (.astore 4, 2) := by decide +kernel
theorem d_zs_get_15 : decode m_zs_get.2.1 15 = .ok (.aload 4, 2) := by decide +kernel
theorem d_zs_get_17 : decode m_zs_get.2.1 17 = .ok (.iload_n 2, 1) := by decide +kernel
theorem d_zs_get_18 : decode m_zs_get.2.1 18 = .ok (.invokestatic 109, 3) := by decide +kernel
theorem d_zs_get_21 : decode m_zs_get.2.1 21 = .ok (.iload_n 3, 1) := by decide +kernel
theorem d_zs_get_22 : decode m_zs_get.2.1 22 = .ok (.ifCond .eq (14), 3) := by decide +kernel
theorem d_zs_get_25 : decode m_zs_get.2.1 25 = .ok (.aload_n 0, 1) := by decide +kernel
theorem d_zs_get_26 : decode m_zs_get.2.1 26 = .ok (.getfield 17, 3) := by decide +kernel
theorem d_zs_get_29 : decode m_zs_get.2.1 29 = .ok (.iload_n 1, 1) := by decide +kernel
theorem d_zs_get_30 : decode m_zs_get.2.1 30 = .ok (.aaload, 1) := by decide +kernel
theorem d_zs_get_31 : decode m_zs_get.2.1 31 = .ok (.iload_n 2, 1) := by decide +kernel
theorem d_zs_get_32 : decode m_zs_get.2.1 32 = .ok (.iconst 1, 1) := by decide +kernel
theorem d_zs_get_33 : decode m_zs_get.2.1 33 = .ok (.invokevirtual 162, 3) := by decide +kernel
theorem d_zs_get_36 : decode m_zs_get.2.1 36 = .ok (.aload 4, 2) := by decide +kernel
theorem d_zs_get_38 : decode m_zs_get.2.1 38 = .ok (.getfield 166, 3) := by decide +kernel
theorem d_zs_get_41 : decode m_zs_get.2.1 41 = .ok (.iload_n 2, 1) := by decide +kernel
theorem d_zs_get_42 : decode m_zs_get.2.1 42 = .ok (.iaload, 1) := by decide +kernel
theorem d_zs_get_43 : decode m_zs_get.2.1 43 = .ok (.ireturn, 1) := by decide +kernel
theorem d_zs_treeOf_0 : decode m_zs_treeOf.2.1 0 = .ok (.aload_n 0, 1) := by decide +kernel
theorem d_zs_treeOf_1 : decode m_zs_treeOf.2.1 1 = .ok (.getfield 17, 3) := by decide +kernel
theorem d_zs_treeOf_4 : decode m_zs_treeOf.2.1 4 = .ok (.iload_n 1, 1) := by decide +kernel
theorem d_zs_treeOf_5 : decode m_zs_treeOf.2.1 5 = .ok (.aaload, 1) := by decide +kernel
theorem d_zs_treeOf_6 : decode m_zs_treeOf.2.1 6 = .ok (.astore_n 2, 1) := by decide +kernel
theorem d_zs_treeOf_7 : decode m_zs_treeOf.2.1 7 = .ok (.aload_n 2, 1) := by decide +kernel
theorem d_zs_treeOf_8 : decode m_zs_treeOf.2.1 8 = .ok (.getfield 51, 3) := by decide +kernel
theorem d_zs_treeOf_11 : decode m_zs_treeOf.2.1 11 = .ok (.ifCond .eq (18), 3) := by decide +kernel
theorem d_zs_treeOf_14 : decode m_zs_treeOf.2.1 14 = .ok (.aload_n 0, 1) := by decide +kernel
theorem d_zs_treeOf_15 : decode m_zs_treeOf.2.1 15 = .ok (.getfield 11, 3) := by decide +kernel
theorem d_zs_treeOf_18 : decode m_zs_treeOf.2.1 18 = .ok (.aload_n 2, 1) := by decide +kernel
theorem d_zs_treeOf_19 : decode m_zs_treeOf.2.1 19 = .ok (.getfield 100, 3) := by decide +kernel
theorem d_zs_treeOf_22 : decode m_zs_treeOf.2.1 22 = .ok (.aaload, 1) := by decide +kernel
theorem d_zs_treeOf_23 : decode m_zs_treeOf.2.1 23 = .ok (.getfield 97, 3) := by decide +kernel
theorem d_zs_treeOf_26 : decode m_zs_treeOf.2.1 26 = .ok (.ifCond .ne (11), 3) := by decide +kernel
theorem d_zs_treeOf_29 : decode m_zs_treeOf.2.1 29 = .ok (.new 66, 3) := by decide +kernel
theorem d_zs_treeOf_32 : decode m_zs_treeOf.2.1 32 = .ok (.dup, 1) := by decide +kernel
theorem d_zs_treeOf_33 : decode m_zs_treeOf.2.1 33 = .ok (.invokespecial 68, 3) := by decide +kernel
theorem d_zs_treeOf_36 : decode m_zs_treeOf.2.1 36 = .ok (.athrow, 1) := by decide +kernel
theorem d_zs_treeOf_37 : decode m_zs_treeOf.2.1 37 = .ok (.aload_n 0, 1) := by decide +kernel
theorem d_zs_treeOf_38 : decode m_zs_treeOf.2.1 38 = .ok (.getfield 11, 3) := by decide +kernel
theorem d_zs_treeOf_41 : decode m_zs_treeOf.2.1 41 = .ok (.aload_n 2, 1) := by decide +kernel
theorem d_zs_treeOf_42 : decode m_zs_treeOf.2.1 42 = .ok (.getfield 100, 3) := by decide +kernel
theorem d_zs_treeOf_45 : decode m_zs_treeOf.2.1 45 = .ok (.aaload, 1) := by decide +kernel
theorem d_zs_treeOf_46 : decode m_zs_treeOf.2.1 46 = .ok (.getfield 205, 3) := by decide +kernel
theorem d_zs_treeOf_49 : decode m_zs_treeOf.2.1 49 = .ok (.areturn, 1) := by decide +kernel
theorem d_zs_exists_0 : decode m_zs_exists.2.1 0 = .ok (.iload_n 1, 1) := by decide +kernel
theorem d_zs_exists_1 : decode m_zs_exists.2.1 1 = .ok (.invokestatic 40, 3) := by decide +kernel
theorem d_zs_exists_4 : decode m_zs_exists.2.1 4 = .ok (.iload_n 2, 1) := by decide +kernel
theorem d_zs_exists_5 : decode m_zs_exists.2.1 5 = .ok (.invokestatic 142, 3) := by decide +kernel
theorem d_zs_exists_8 : decode m_zs_exists.2.1 8 = .ok (.aload_n 0, 1) := by decide +kernel
theorem d_zs_exists_9 : decode m_zs_exists.2.1 9 = .ok (.iload_n 1, 1) := by decide +kernel
theorem d_zs_exists_10 : decode m_zs_exists.2.1 10 = .ok (.invokevirtual 158, 3) := by decide +kernel
theorem d_zs_exists_13 : decode m_zs_exists.2.1 13 = .ok (.astore 4, 2) := by decide +kernel
theorem d_zs_exists_15 : decode m_zs_exists.2.1 15 = .ok (.iload_n 3, 1) := by decide +kernel
theorem d_zs_exists_16 : decode m_zs_exists.2.1 16 = .ok (.ifCond .eq (14), 3) := by decide +kernel
theorem d_zs_exists_19 : decode m_zs_exists.2.1 19 = .ok (.aload_n 0, 1) := by decide +kernel
theorem d_zs_exists_20 : decode m_zs_exists.2.1 20 = .ok (.getfield 17, 3) := by decide +kernel
theorem d_zs_exists_23 : decode m_zs_exists.2.1 23 = .ok (.iload_n 1, 1) := by decide +kernel
theorem d_zs_exists_24 : decode m_zs_exists.2.1 24 = .ok (.aaload, 1) := by decide +kernel
theorem d_zs_exists_25 : decode m_zs_exists.2.1 25 = .ok (.iload_n 2, 1) := by decide +kernel
theorem d_zs_exists_26 : decode m_zs_exists.2.1 26 = .ok (.iconst 1, 1) := by decide +kernel
theorem d_zs_exists_27 : decode m_zs_exists.2.1 27 = .ok (.invokevirtual 162, 3) := by decide +kernel
theorem d_zs_exists_30 : decode m_zs_exists.2.1 30 = .ok (.aload 4, 2) := by decide +kernel
theorem d_zs_exists_32 : decode m_zs_exists.2.1 32 = .ok (.iload_n 2, 1) := by decide +kernel
theorem d_zs_exists_33 : decode m_zs_exists.2.1 33 = .ok (.invokevirtual 127, 3) := by decide +kernel
theorem d_zs_exists_36 : decode m_zs_exists.2.1 36 = .ok (.ireturn, 1) := by decide +kernel
theorem d_zs_children_0 : decode m_zs_children.2.1 0 = .ok (.iload_n 1, 1) := by decide +kernel
theorem d_zs_children_1 : decode m_zs_children.2.1 1 = .ok (.invokestatic 40, 3) := by decide +kernel
theorem d_zs_children_4 : decode m_zs_children.2.1 4 = .ok (.iload_n 2, 1) := by decide +kernel
theorem d_zs_children_5 : decode m_zs_children.2.1 5 = .ok (.iconst 0, 1) := by decide +kernel
theorem d_zs_children_6 : decode m_zs_children.2.1 6 = .ok (.bipush 42, 2) := by decide +kernel
theorem d_zs_children_8 : decode m_zs_children.2.1 8 = .ok (.invokestatic 47, 3) := by decide +kernel
theorem d_zs_children_11 : decode m_zs_children.2.1 11 = .ok (.aload_n 0, 1) := by decide +kernel
theorem d_zs_children_12 : decode m_zs_children.2.1 12 = .ok (.iload_n 1, 1) := by decide +kernel
theorem d_zs_children_13 : decode m_zs_children.2.1 13 = .ok (.invokevirtual 158, 3) := by decide +kernel
theorem d_zs_children_16 : decode m_zs_children.2.1 16 = .ok (.astore 4, 2) := by decide +kernel
theorem d_zs_children_18 : decode m_zs_children.2.1 18 = .ok (.aload 4, 2) := by decide +kernel
theorem d_zs_children_20 : decode m_zs_children.2.1 20 = .ok (.iload_n 2, 1) := by decide +kernel
theorem d_zs_children_21 : decode m_zs_children.2.1 21 = .ok (.invokestatic 109, 3) := by decide +kernel
theorem d_zs_children_24 : decode m_zs_children.2.1 24 = .ok (.iload_n 3, 1) := by decide +kernel
theorem d_zs_children_25 : decode m_zs_children.2.1 25 = .ok (.ifCond .eq (14), 3) := by decide +kernel
theorem d_zs_children_28 : decode m_zs_children.2.1 28 = .ok (.aload_n 0, 1) := by decide +kernel
theorem d_zs_children_29 : decode m_zs_children.2.1 29 = .ok (.getfield 17, 3) := by decide +kernel
theorem d_zs_children_32 : decode m_zs_children.2.1 32 = .ok (.iload_n 1, 1) := by decide +kernel
theorem d_zs_children_33 : decode m_zs_children.2.1 33 = .ok (.aaload, 1) := by decide +kernel
theorem d_zs_children_34 : decode m_zs_children.2.1 34 = .ok (.iload_n 2, 1) := by decide +kernel
theorem d_zs_children_35 : decode m_zs_children.2.1 35 = .ok (.iconst 2, 1) := by decide +kernel
theorem d_zs_children_36 : decode m_zs_children.2.1 36 = .ok (.invokevirtual 162, 3) := by decide +kernel
theorem d_zs_children_39 : decode m_zs_children.2.1 39 = .ok (.aload 4, 2) := by decide +kernel
theorem d_zs_children_41 : decode m_zs_children.2.1 41 = .ok (.iload_n 2, 1) := by decide +kernel
theorem d_zs_children_42 : decode m_zs_children.2.1 42 = .ok (.invokevirtual 155, 3) := by decide +kernel
theorem d_zs_children_45 : decode m_zs_children.2.1 45 = .ok (.ireturn, 1) := by decide +kernel
theorem d_zs_fact_0 : decode m_zs_fact.2.1 0 = .ok (.iload_n 1, 1) := by decide +kernel
theorem d_zs_fact_1 : decode m_zs_fact.2.1 1 = .ok (.invokestatic 40, 3) := by decide +kernel
theorem d_zs_fact_4 : decode m_zs_fact.2.1 4 = .ok (.iload_n 2, 1) := by decide +kernel
theorem d_zs_fact_5 : decode m_zs_fact.2.1 5 = .ok (.invokestatic 142, 3) := by decide +kernel
theorem d_zs_fact_8 : decode m_zs_fact.2.1 8 = .ok (.iload_n 3, 1) := by decide +kernel
theorem d_zs_fact_9 : decode m_zs_fact.2.1 9 = .ok (.iconst 0, 1) := by decide +kernel
theorem d_zs_fact_10 : decode m_zs_fact.2.1 10 = .ok (.iconst 2, 1) := by decide +kernel
theorem d_zs_fact_11 : decode m_zs_fact.2.1 11 = .ok (.invokestatic 47, 3) := by decide +kernel
theorem d_zs_fact_14 : decode m_zs_fact.2.1 14 = .ok (.aload_n 0, 1) := by decide +kernel
theorem d_zs_fact_15 : decode m_zs_fact.2.1 15 = .ok (.iload_n 1, 1) := by decide +kernel
theorem d_zs_fact_16 : decode m_zs_fact.2.1 16 = .ok (.invokevirtual 158, 3) := by decide +kernel
theorem d_zs_fact_19 : decode m_zs_fact.2.1 19 = .ok (.astore 4, 2) := by decide +kernel
theorem d_zs_fact_21 : decode m_zs_fact.2.1 21 = .ok (.aload 4, 2) := by decide +kernel
theorem d_zs_fact_23 : decode m_zs_fact.2.1 23 = .ok (.iload_n 2, 1) := by decide +kernel
theorem d_zs_fact_24 : decode m_zs_fact.2.1 24 = .ok (.invokestatic 109, 3) := by decide +kernel
theorem d_zs_fact_27 : decode m_zs_fact.2.1 27 = .ok (.iload_n 3, 1) := by decide +kernel
theorem d_zs_fact_28 : decode m_zs_fact.2.1 28 = .ok (.lookupswitch (54) #[(0, 28), (1, 36)], 28) := by decide +kernel
theorem d_zs_fact_56 : decode m_zs_fact.2.1 56 = .ok (.aload 4, 2) := by decide +kernel
theorem d_zs_fact_58 : decode m_zs_fact.2.1 58 = .ok (.getfield 152, 3) := by decide +kernel
theorem d_zs_fact_61 : decode m_zs_fact.2.1 61 = .ok (.iload_n 2, 1) := by decide +kernel
theorem d_zs_fact_62 : decode m_zs_fact.2.1 62 = .ok (.iaload, 1) := by decide +kernel
theorem d_zs_fact_63 : decode m_zs_fact.2.1 63 = .ok (.ireturn, 1) := by decide +kernel
theorem d_zs_fact_64 : decode m_zs_fact.2.1 64 = .ok (.iload_n 2, 1) := by decide +kernel
theorem d_zs_fact_65 : decode m_zs_fact.2.1 65 = .ok (.bipush 43, 2) := by decide +kernel
theorem d_zs_fact_67 : decode m_zs_fact.2.1 67 = .ok (.if_icmp .ge (13), 3) := by decide +kernel
theorem d_zs_fact_70 : decode m_zs_fact.2.1 70 = .ok (.aload 4, 2) := by decide +kernel
theorem d_zs_fact_72 : decode m_zs_fact.2.1 72 = .ok (.getfield 117, 3) := by decide +kernel
theorem d_zs_fact_75 : decode m_zs_fact.2.1 75 = .ok (.iload_n 2, 1) := by decide +kernel
theorem d_zs_fact_76 : decode m_zs_fact.2.1 76 = .ok (.iaload, 1) := by decide +kernel
theorem d_zs_fact_77 : decode m_zs_fact.2.1 77 = .ok (.goto 4, 3) := by decide +kernel
theorem d_zs_fact_80 : decode m_zs_fact.2.1 80 = .ok (.iconst 0, 1) := by decide +kernel
theorem d_zs_fact_81 : decode m_zs_fact.2.1 81 = .ok (.ireturn, 1) := by decide +kernel
theorem d_zs_fact_82 : decode m_zs_fact.2.1 82 = .ok (.aload 4, 2) := by decide +kernel
theorem d_zs_fact_84 : decode m_zs_fact.2.1 84 = .ok (.getfield 113, 3) := by decide +kernel
theorem d_zs_fact_87 : decode m_zs_fact.2.1 87 = .ok (.iload_n 2, 1) := by decide +kernel
theorem d_zs_fact_88 : decode m_zs_fact.2.1 88 = .ok (.iaload, 1) := by decide +kernel
theorem d_zs_fact_89 : decode m_zs_fact.2.1 89 = .ok (.ireturn, 1) := by decide +kernel
theorem d_zs_event_0 : decode m_zs_event.2.1 0 = .ok (.iload_n 1, 1) := by decide +kernel
theorem d_zs_event_1 : decode m_zs_event.2.1 1 = .ok (.invokestatic 40, 3) := by decide +kernel
theorem d_zs_event_4 : decode m_zs_event.2.1 4 = .ok (.aload_n 0, 1) := by decide +kernel
theorem d_zs_event_5 : decode m_zs_event.2.1 5 = .ok (.iload_n 1, 1) := by decide +kernel
theorem d_zs_event_6 : decode m_zs_event.2.1 6 = .ok (.invokevirtual 94, 3) := by decide +kernel
theorem d_zs_event_9 : decode m_zs_event.2.1 9 = .ok (.aload_n 0, 1) := by decide +kernel
theorem d_zs_event_10 : decode m_zs_event.2.1 10 = .ok (.getfield 17, 3) := by decide +kernel
theorem d_zs_event_13 : decode m_zs_event.2.1 13 = .ok (.iload_n 1, 1) := by decide +kernel
theorem d_zs_event_14 : decode m_zs_event.2.1 14 = .ok (.aaload, 1) := by decide +kernel
theorem d_zs_event_15 : decode m_zs_event.2.1 15 = .ok (.getfield 91, 3) := by decide +kernel
theorem d_zs_event_18 : decode m_zs_event.2.1 18 = .ok (.ifCond .ne (11), 3) := by decide +kernel
theorem d_zs_event_21 : decode m_zs_event.2.1 21 = .ok (.new 169, 3) := by decide +kernel
theorem d_zs_event_24 : decode m_zs_event.2.1 24 = .ok (.dup, 1) := by decide +kernel
theorem d_zs_event_25 : decode m_zs_event.2.1 25 = .ok (.invokespecial 171, 3) := by decide +kernel
theorem d_zs_event_28 : decode m_zs_event.2.1 28 = .ok (.athrow, 1) := by decide +kernel
theorem d_zs_event_29 : decode m_zs_event.2.1 29 = .ok (.aload_n 0, 1) := by decide +kernel
theorem d_zs_event_30 : decode m_zs_event.2.1 30 = .ok (.getfield 17, 3) := by decide +kernel
theorem d_zs_event_33 : decode m_zs_event.2.1 33 = .ok (.iload_n 1, 1) := by decide +kernel
theorem d_zs_event_34 : decode m_zs_event.2.1 34 = .ok (.aaload, 1) := by decide +kernel
theorem d_zs_event_35 : decode m_zs_event.2.1 35 = .ok (.invokevirtual 172, 3) := by decide +kernel
theorem d_zs_event_38 : decode m_zs_event.2.1 38 = .ok (.ireturn, 1) := by decide +kernel
theorem d_zs_crash_0 : decode m_zs_crash.2.1 0 = .ok (.iload_n 1, 1) := by decide +kernel
theorem d_zs_crash_1 : decode m_zs_crash.2.1 1 = .ok (.invokestatic 44, 3) := by decide +kernel
theorem d_zs_crash_4 : decode m_zs_crash.2.1 4 = .ok (.aload_n 0, 1) := by decide +kernel
theorem d_zs_crash_5 : decode m_zs_crash.2.1 5 = .ok (.getfield 11, 3) := by decide +kernel
theorem d_zs_crash_8 : decode m_zs_crash.2.1 8 = .ok (.iload_n 1, 1) := by decide +kernel
theorem d_zs_crash_9 : decode m_zs_crash.2.1 9 = .ok (.aaload, 1) := by decide +kernel
theorem d_zs_crash_10 : decode m_zs_crash.2.1 10 = .ok (.astore_n 2, 1) := by decide +kernel
theorem d_zs_crash_11 : decode m_zs_crash.2.1 11 = .ok (.aload_n 2, 1) := by decide +kernel
theorem d_zs_crash_12 : decode m_zs_crash.2.1 12 = .ok (.getfield 97, 3) := by decide +kernel
theorem d_zs_crash_15 : decode m_zs_crash.2.1 15 = .ok (.ifCond .ne (11), 3) := by decide +kernel
theorem d_zs_crash_18 : decode m_zs_crash.2.1 18 = .ok (.new 66, 3) := by decide +kernel
theorem d_zs_crash_21 : decode m_zs_crash.2.1 21 = .ok (.dup, 1) := by decide +kernel
theorem d_zs_crash_22 : decode m_zs_crash.2.1 22 = .ok (.invokespecial 68, 3) := by decide +kernel
theorem d_zs_crash_25 : decode m_zs_crash.2.1 25 = .ok (.athrow, 1) := by decide +kernel
theorem d_zs_crash_26 : decode m_zs_crash.2.1 26 = .ok (.aload_n 2, 1) := by decide +kernel
theorem d_zs_crash_27 : decode m_zs_crash.2.1 27 = .ok (.iconst 0, 1) := by decide +kernel
theorem d_zs_crash_28 : decode m_zs_crash.2.1 28 = .ok (.putfield 97, 3) := by decide +kernel
theorem d_zs_crash_31 : decode m_zs_crash.2.1 31 = .ok (.iload_n 1, 1) := by decide +kernel
theorem d_zs_crash_32 : decode m_zs_crash.2.1 32 = .ok (.aload_n 0, 1) := by decide +kernel
theorem d_zs_crash_33 : decode m_zs_crash.2.1 33 = .ok (.getfield 28, 3) := by decide +kernel
theorem d_zs_crash_36 : decode m_zs_crash.2.1 36 = .ok (.if_icmp .ne (8), 3) := by decide +kernel
theorem d_zs_crash_39 : decode m_zs_crash.2.1 39 = .ok (.aload_n 0, 1) := by decide +kernel
theorem d_zs_crash_40 : decode m_zs_crash.2.1 40 = .ok (.iconst (-1), 1) := by decide +kernel
theorem d_zs_crash_41 : decode m_zs_crash.2.1 41 = .ok (.putfield 28, 3) := by decide +kernel
theorem d_zs_crash_44 : decode m_zs_crash.2.1 44 = .ok (.iconst 0, 1) := by decide +kernel
theorem d_zs_crash_45 : decode m_zs_crash.2.1 45 = .ok (.istore_n 3, 1) := by decide +kernel
theorem d_zs_crash_46 : decode m_zs_crash.2.1 46 = .ok (.iload_n 3, 1) := by decide +kernel
theorem d_zs_crash_47 : decode m_zs_crash.2.1 47 = .ok (.iconst 4, 1) := by decide +kernel
theorem d_zs_crash_48 : decode m_zs_crash.2.1 48 = .ok (.if_icmp .ge (27), 3) := by decide +kernel
theorem d_zs_crash_51 : decode m_zs_crash.2.1 51 = .ok (.aload_n 0, 1) := by decide +kernel
theorem d_zs_crash_52 : decode m_zs_crash.2.1 52 = .ok (.iload_n 3, 1) := by decide +kernel
theorem d_zs_crash_53 : decode m_zs_crash.2.1 53 = .ok (.iload_n 1, 1) := by decide +kernel
theorem d_zs_crash_54 : decode m_zs_crash.2.1 54 = .ok (.invokevirtual 176, 3) := by decide +kernel
theorem d_zs_crash_57 : decode m_zs_crash.2.1 57 = .ok (.ifCond .eq (12), 3) := by decide +kernel
theorem d_zs_crash_60 : decode m_zs_crash.2.1 60 = .ok (.aload_n 0, 1) := by decide +kernel
theorem d_zs_crash_61 : decode m_zs_crash.2.1 61 = .ok (.getfield 17, 3) := by decide +kernel
theorem d_zs_crash_64 : decode m_zs_crash.2.1 64 = .ok (.iload_n 3, 1) := by decide +kernel
theorem d_zs_crash_65 : decode m_zs_crash.2.1 65 = .ok (.aaload, 1) := by decide +kernel
theorem d_zs_crash_66 : decode m_zs_crash.2.1 66 = .ok (.invokevirtual 103, 3) := by decide +kernel
theorem d_zs_crash_69 : decode m_zs_crash.2.1 69 = .ok (.iinc 3 1, 3) := by decide +kernel
theorem d_zs_crash_72 : decode m_zs_crash.2.1 72 = .ok (.goto (-26), 3) := by decide +kernel
theorem d_zs_crash_75 : decode m_zs_crash.2.1 75 = .ok (.aload_n 2, 1) := by decide +kernel
theorem d_zs_crash_76 : decode m_zs_crash.2.1 76 = .ok (.getfield 179, 3) := by decide +kernel
theorem d_zs_crash_79 : decode m_zs_crash.2.1 79 = .ok (.ireturn, 1) := by decide +kernel
theorem d_zs_restart_0 : decode m_zs_restart.2.1 0 = .ok (.iload_n 1, 1) := by decide +kernel
theorem d_zs_restart_1 : decode m_zs_restart.2.1 1 = .ok (.invokestatic 44, 3) := by decide +kernel
theorem d_zs_restart_4 : decode m_zs_restart.2.1 4 = .ok (.aload_n 0, 1) := by decide +kernel
theorem d_zs_restart_5 : decode m_zs_restart.2.1 5 = .ok (.getfield 11, 3) := by decide +kernel
theorem d_zs_restart_8 : decode m_zs_restart.2.1 8 = .ok (.iload_n 1, 1) := by decide +kernel
theorem d_zs_restart_9 : decode m_zs_restart.2.1 9 = .ok (.aaload, 1) := by decide +kernel
theorem d_zs_restart_10 : decode m_zs_restart.2.1 10 = .ok (.astore_n 2, 1) := by decide +kernel
theorem d_zs_restart_11 : decode m_zs_restart.2.1 11 = .ok (.aload_n 2, 1) := by decide +kernel
theorem d_zs_restart_12 : decode m_zs_restart.2.1 12 = .ok (.getfield 97, 3) := by decide +kernel
theorem d_zs_restart_15 : decode m_zs_restart.2.1 15 = .ok (.ifCond .eq (11), 3) := by decide +kernel
theorem d_zs_restart_18 : decode m_zs_restart.2.1 18 = .ok (.new 66, 3) := by decide +kernel
theorem d_zs_restart_21 : decode m_zs_restart.2.1 21 = .ok (.dup, 1) := by decide +kernel
theorem d_zs_restart_22 : decode m_zs_restart.2.1 22 = .ok (.invokespecial 68, 3) := by decide +kernel
theorem d_zs_restart_25 : decode m_zs_restart.2.1 25 = .ok (.athrow, 1) := by decide +kernel
theorem d_zs_restart_26 : decode m_zs_restart.2.1 26 = .ok (.aload_n 2, 1) := by decide +kernel
theorem d_zs_restart_27 : decode m_zs_restart.2.1 27 = .ok (.iconst 1, 1) := by decide +kernel
theorem d_zs_restart_28 : decode m_zs_restart.2.1 28 = .ok (.putfield 97, 3) := by decide +kernel
theorem d_zs_restart_31 : decode m_zs_restart.2.1 31 = .ok (.aload_n 0, 1) := by decide +kernel
theorem d_zs_restart_32 : decode m_zs_restart.2.1 32 = .ok (.invokevirtual 182, 3) := by decide +kernel
theorem d_zs_restart_35 : decode m_zs_restart.2.1 35 = .ok (.aload_n 2, 1) := by decide +kernel
theorem d_zs_restart_36 : decode m_zs_restart.2.1 36 = .ok (.getfield 185, 3) := by decide +kernel
theorem d_zs_restart_39 : decode m_zs_restart.2.1 39 = .ok (.istore_n 3, 1) := by decide +kernel
theorem d_zs_restart_40 : decode m_zs_restart.2.1 40 = .ok (.aload_n 0, 1) := by decide +kernel
theorem d_zs_restart_41 : decode m_zs_restart.2.1 41 = .ok (.invokevirtual 85, 3) := by decide +kernel
theorem d_zs_restart_44 : decode m_zs_restart.2.1 44 = .ok (.iload_n 3, 1) := by decide +kernel
theorem d_zs_restart_45 : decode m_zs_restart.2.1 45 = .ok (.ireturn, 1) := by decide +kernel
theorem d_zs_alone_0 : decode m_zs_alone.2.1 0 = .ok (.iload_n 1, 1) := by decide +kernel
theorem d_zs_alone_1 : decode m_zs_alone.2.1 1 = .ok (.invokestatic 44, 3) := by decide +kernel
theorem d_zs_alone_4 : decode m_zs_alone.2.1 4 = .ok (.aload_n 0, 1) := by decide +kernel
theorem d_zs_alone_5 : decode m_zs_alone.2.1 5 = .ok (.getfield 11, 3) := by decide +kernel
theorem d_zs_alone_8 : decode m_zs_alone.2.1 8 = .ok (.iload_n 1, 1) := by decide +kernel
theorem d_zs_alone_9 : decode m_zs_alone.2.1 9 = .ok (.aaload, 1) := by decide +kernel
theorem d_zs_alone_10 : decode m_zs_alone.2.1 10 = .ok (.getfield 188, 3) := by decide +kernel
theorem d_zs_alone_13 : decode m_zs_alone.2.1 13 = .ok (.istore_n 3, 1) := by decide +kernel
theorem d_zs_alone_14 : decode m_zs_alone.2.1 14 = .ok (.aload_n 0, 1) := by decide +kernel
theorem d_zs_alone_15 : decode m_zs_alone.2.1 15 = .ok (.getfield 11, 3) := by decide +kernel
theorem d_zs_alone_18 : decode m_zs_alone.2.1 18 = .ok (.iload_n 1, 1) := by decide +kernel
theorem d_zs_alone_19 : decode m_zs_alone.2.1 19 = .ok (.aaload, 1) := by decide +kernel
theorem d_zs_alone_20 : decode m_zs_alone.2.1 20 = .ok (.iload_n 2, 1) := by decide +kernel
theorem d_zs_alone_21 : decode m_zs_alone.2.1 21 = .ok (.putfield 188, 3) := by decide +kernel
theorem d_zs_alone_24 : decode m_zs_alone.2.1 24 = .ok (.aload_n 0, 1) := by decide +kernel
theorem d_zs_alone_25 : decode m_zs_alone.2.1 25 = .ok (.invokevirtual 182, 3) := by decide +kernel
theorem d_zs_alone_28 : decode m_zs_alone.2.1 28 = .ok (.aload_n 0, 1) := by decide +kernel
theorem d_zs_alone_29 : decode m_zs_alone.2.1 29 = .ok (.invokevirtual 85, 3) := by decide +kernel
theorem d_zs_alone_32 : decode m_zs_alone.2.1 32 = .ok (.iload_n 3, 1) := by decide +kernel
theorem d_zs_alone_33 : decode m_zs_alone.2.1 33 = .ok (.iload_n 2, 1) := by decide +kernel
theorem d_zs_alone_34 : decode m_zs_alone.2.1 34 = .ok (.if_icmp .eq (7), 3) := by decide +kernel
theorem d_zs_alone_37 : decode m_zs_alone.2.1 37 = .ok (.iconst 1, 1) := by decide +kernel
theorem d_zs_alone_38 : decode m_zs_alone.2.1 38 = .ok (.goto 4, 3) := by decide +kernel
theorem d_zs_alone_41 : decode m_zs_alone.2.1 41 = .ok (.iconst 0, 1) := by decide +kernel
theorem d_zs_alone_42 : decode m_zs_alone.2.1 42 = .ok (.ireturn, 1) := by decide +kernel
theorem d_zs_elect_0 : decode m_zs_elect.2.1 0 = .ok (.iconst 0, 1) := by decide +kernel
theorem d_zs_elect_1 : decode m_zs_elect.2.1 1 = .ok (.istore_n 1, 1) := by decide +kernel
theorem d_zs_elect_2 : decode m_zs_elect.2.1 2 = .ok (.iconst (-1), 1) := by decide +kernel
theorem d_zs_elect_3 : decode m_zs_elect.2.1 3 = .ok (.istore_n 2, 1) := by decide +kernel
theorem d_zs_elect_4 : decode m_zs_elect.2.1 4 = .ok (.iconst 0, 1) := by decide +kernel
theorem d_zs_elect_5 : decode m_zs_elect.2.1 5 = .ok (.istore_n 3, 1) := by decide +kernel
theorem d_zs_elect_6 : decode m_zs_elect.2.1 6 = .ok (.iload_n 3, 1) := by decide +kernel
theorem d_zs_elect_7 : decode m_zs_elect.2.1 7 = .ok (.iconst 3, 1) := by decide +kernel
theorem d_zs_elect_8 : decode m_zs_elect.2.1 8 = .ok (.if_icmp .ge (49), 3) := by decide +kernel
theorem d_zs_elect_11 : decode m_zs_elect.2.1 11 = .ok (.aload_n 0, 1) := by decide +kernel
theorem d_zs_elect_12 : decode m_zs_elect.2.1 12 = .ok (.getfield 11, 3) := by decide +kernel
theorem d_zs_elect_15 : decode m_zs_elect.2.1 15 = .ok (.iload_n 3, 1) := by decide +kernel
theorem d_zs_elect_16 : decode m_zs_elect.2.1 16 = .ok (.aaload, 1) := by decide +kernel
theorem d_zs_elect_17 : decode m_zs_elect.2.1 17 = .ok (.invokevirtual 191, 3) := by decide +kernel
theorem d_zs_elect_20 : decode m_zs_elect.2.1 20 = .ok (.ifCond .eq (31), 3) := by decide +kernel
theorem d_zs_elect_23 : decode m_zs_elect.2.1 23 = .ok (.iinc 1 1, 3) := by decide +kernel
theorem d_zs_elect_26 : decode m_zs_elect.2.1 26 = .ok (.iload_n 2, 1) := by decide +kernel
theorem d_zs_elect_27 : decode m_zs_elect.2.1 27 = .ok (.iconst (-1), 1) := by decide +kernel
theorem d_zs_elect_28 : decode m_zs_elect.2.1 28 = .ok (.if_icmp .eq (21), 3) := by decide +kernel
theorem d_zs_elect_31 : decode m_zs_elect.2.1 31 = .ok (.aload_n 0, 1) := by decide +kernel
theorem d_zs_elect_32 : decode m_zs_elect.2.1 32 = .ok (.getfield 11, 3) := by decide +kernel
theorem d_zs_elect_35 : decode m_zs_elect.2.1 35 = .ok (.iload_n 3, 1) := by decide +kernel
theorem d_zs_elect_36 : decode m_zs_elect.2.1 36 = .ok (.aaload, 1) := by decide +kernel
theorem d_zs_elect_37 : decode m_zs_elect.2.1 37 = .ok (.aload_n 0, 1) := by decide +kernel
theorem d_zs_elect_38 : decode m_zs_elect.2.1 38 = .ok (.getfield 11, 3) := by decide +kernel
theorem d_zs_elect_41 : decode m_zs_elect.2.1 41 = .ok (.iload_n 2, 1) := by decide +kernel
theorem d_zs_elect_42 : decode m_zs_elect.2.1 42 = .ok (.aaload, 1) := by decide +kernel
theorem d_zs_elect_43 : decode m_zs_elect.2.1 43 = .ok (.invokevirtual 194, 3) := by decide +kernel
theorem d_zs_elect_46 : decode m_zs_elect.2.1 46 = .ok (.ifCond .eq (5), 3) := by decide +kernel
theorem d_zs_elect_49 : decode m_zs_elect.2.1 49 = .ok (.iload_n 3, 1) := by decide +kernel
theorem d_zs_elect_50 : decode m_zs_elect.2.1 50 = .ok (.istore_n 2, 1) := by decide +kernel
theorem d_zs_elect_51 : decode m_zs_elect.2.1 51 = .ok (.iinc 3 1, 3) := by decide +kernel
theorem d_zs_elect_54 : decode m_zs_elect.2.1 54 = .ok (.goto (-48), 3) := by decide +kernel
theorem d_zs_elect_57 : decode m_zs_elect.2.1 57 = .ok (.iload_n 1, 1) := by decide +kernel
theorem d_zs_elect_58 : decode m_zs_elect.2.1 58 = .ok (.iconst 2, 1) := by decide +kernel
theorem d_zs_elect_59 : decode m_zs_elect.2.1 59 = .ok (.if_icmp .lt (8), 3) := by decide +kernel
theorem d_zs_elect_62 : decode m_zs_elect.2.1 62 = .ok (.iload_n 2, 1) := by decide +kernel
theorem d_zs_elect_63 : decode m_zs_elect.2.1 63 = .ok (.iconst (-1), 1) := by decide +kernel
theorem d_zs_elect_64 : decode m_zs_elect.2.1 64 = .ok (.if_icmp .ne (11), 3) := by decide +kernel
theorem d_zs_elect_67 : decode m_zs_elect.2.1 67 = .ok (.new 66, 3) := by decide +kernel
theorem d_zs_elect_70 : decode m_zs_elect.2.1 70 = .ok (.dup, 1) := by decide +kernel
theorem d_zs_elect_71 : decode m_zs_elect.2.1 71 = .ok (.invokespecial 68, 3) := by decide +kernel
theorem d_zs_elect_74 : decode m_zs_elect.2.1 74 = .ok (.athrow, 1) := by decide +kernel
theorem d_zs_elect_75 : decode m_zs_elect.2.1 75 = .ok (.aload_n 0, 1) := by decide +kernel
theorem d_zs_elect_76 : decode m_zs_elect.2.1 76 = .ok (.iload_n 2, 1) := by decide +kernel
theorem d_zs_elect_77 : decode m_zs_elect.2.1 77 = .ok (.putfield 28, 3) := by decide +kernel
theorem d_zs_elect_80 : decode m_zs_elect.2.1 80 = .ok (.aload_n 0, 1) := by decide +kernel
theorem d_zs_elect_81 : decode m_zs_elect.2.1 81 = .ok (.dup, 1) := by decide +kernel
theorem d_zs_elect_82 : decode m_zs_elect.2.1 82 = .ok (.getfield 32, 3) := by decide +kernel
theorem d_zs_elect_85 : decode m_zs_elect.2.1 85 = .ok (.iconst 1, 1) := by decide +kernel
theorem d_zs_elect_86 : decode m_zs_elect.2.1 86 = .ok (.iadd, 1) := by decide +kernel
theorem d_zs_elect_87 : decode m_zs_elect.2.1 87 = .ok (.putfield 32, 3) := by decide +kernel
theorem d_zs_elect_90 : decode m_zs_elect.2.1 90 = .ok (.aload_n 0, 1) := by decide +kernel
theorem d_zs_elect_91 : decode m_zs_elect.2.1 91 = .ok (.aload_n 0, 1) := by decide +kernel
theorem d_zs_elect_92 : decode m_zs_elect.2.1 92 = .ok (.getfield 11, 3) := by decide +kernel
theorem d_zs_elect_95 : decode m_zs_elect.2.1 95 = .ok (.iload_n 2, 1) := by decide +kernel
theorem d_zs_elect_96 : decode m_zs_elect.2.1 96 = .ok (.aaload, 1) := by decide +kernel
theorem d_zs_elect_97 : decode m_zs_elect.2.1 97 = .ok (.invokevirtual 198, 3) := by decide +kernel
theorem d_zs_elect_100 : decode m_zs_elect.2.1 100 = .ok (.aload_n 0, 1) := by decide +kernel
theorem d_zs_elect_101 : decode m_zs_elect.2.1 101 = .ok (.invokevirtual 182, 3) := by decide +kernel
theorem d_zs_elect_104 : decode m_zs_elect.2.1 104 = .ok (.aload_n 0, 1) := by decide +kernel
theorem d_zs_elect_105 : decode m_zs_elect.2.1 105 = .ok (.invokevirtual 85, 3) := by decide +kernel
theorem d_zs_elect_108 : decode m_zs_elect.2.1 108 = .ok (.iload_n 2, 1) := by decide +kernel
theorem d_zs_elect_109 : decode m_zs_elect.2.1 109 = .ok (.ireturn, 1) := by decide +kernel
theorem d_zs_planAnew_0 : decode m_zs_planAnew.2.1 0 = .ok (.aload_n 0, 1) := by decide +kernel
theorem d_zs_planAnew_1 : decode m_zs_planAnew.2.1 1 = .ok (.getfield 24, 3) := by decide +kernel
theorem d_zs_planAnew_4 : decode m_zs_planAnew.2.1 4 = .ok (.invokevirtual 229, 3) := by decide +kernel
theorem d_zs_planAnew_7 : decode m_zs_planAnew.2.1 7 = .ok (.iconst 0, 1) := by decide +kernel
theorem d_zs_planAnew_8 : decode m_zs_planAnew.2.1 8 = .ok (.istore_n 2, 1) := by decide +kernel
theorem d_zs_planAnew_9 : decode m_zs_planAnew.2.1 9 = .ok (.iload_n 2, 1) := by decide +kernel
theorem d_zs_planAnew_10 : decode m_zs_planAnew.2.1 10 = .ok (.aload_n 1, 1) := by decide +kernel
theorem d_zs_planAnew_11 : decode m_zs_planAnew.2.1 11 = .ok (.getfield 179, 3) := by decide +kernel
theorem d_zs_planAnew_14 : decode m_zs_planAnew.2.1 14 = .ok (.if_icmp .ge (22), 3) := by decide +kernel
theorem d_zs_planAnew_17 : decode m_zs_planAnew.2.1 17 = .ok (.aload_n 0, 1) := by decide +kernel
theorem d_zs_planAnew_18 : decode m_zs_planAnew.2.1 18 = .ok (.getfield 24, 3) := by decide +kernel
theorem d_zs_planAnew_21 : decode m_zs_planAnew.2.1 21 = .ok (.aload_n 1, 1) := by decide +kernel
theorem d_zs_planAnew_22 : decode m_zs_planAnew.2.1 22 = .ok (.getfield 232, 3) := by decide +kernel
theorem d_zs_planAnew_25 : decode m_zs_planAnew.2.1 25 = .ok (.iload_n 2, 1) := by decide +kernel
theorem d_zs_planAnew_26 : decode m_zs_planAnew.2.1 26 = .ok (.aaload, 1) := by decide +kernel
theorem d_zs_planAnew_27 : decode m_zs_planAnew.2.1 27 = .ok (.invokevirtual 226, 3) := by decide +kernel
theorem d_zs_planAnew_30 : decode m_zs_planAnew.2.1 30 = .ok (.iinc 2 1, 3) := by decide +kernel
theorem d_zs_planAnew_33 : decode m_zs_planAnew.2.1 33 = .ok (.goto (-24), 3) := by decide +kernel
theorem d_zs_planAnew_36 : decode m_zs_planAnew.2.1 36 = .ok (.return_, 1) := by decide +kernel
theorem d_zs_tick_0 : decode m_zs_tick.2.1 0 = .ok (.iload_n 1, 1) := by decide +kernel
theorem d_zs_tick_1 : decode m_zs_tick.2.1 1 = .ok (.iconst 0, 1) := by decide +kernel
theorem d_zs_tick_2 : decode m_zs_tick.2.1 2 = .ok (.bipush 20, 2) := by decide +kernel
theorem d_zs_tick_4 : decode m_zs_tick.2.1 4 = .ok (.invokestatic 47, 3) := by decide +kernel
theorem d_zs_tick_7 : decode m_zs_tick.2.1 7 = .ok (.aload_n 0, 1) := by decide +kernel
theorem d_zs_tick_8 : decode m_zs_tick.2.1 8 = .ok (.dup, 1) := by decide +kernel
theorem d_zs_tick_9 : decode m_zs_tick.2.1 9 = .ok (.getfield 35, 3) := by decide +kernel
theorem d_zs_tick_12 : decode m_zs_tick.2.1 12 = .ok (.iload_n 1, 1) := by decide +kernel
theorem d_zs_tick_13 : decode m_zs_tick.2.1 13 = .ok (.iadd, 1) := by decide +kernel
theorem d_zs_tick_14 : decode m_zs_tick.2.1 14 = .ok (.putfield 35, 3) := by decide +kernel
theorem d_zs_tick_17 : decode m_zs_tick.2.1 17 = .ok (.iconst 0, 1) := by decide +kernel
theorem d_zs_tick_18 : decode m_zs_tick.2.1 18 = .ok (.istore_n 2, 1) := by decide +kernel
theorem d_zs_tick_19 : decode m_zs_tick.2.1 19 = .ok (.iconst 0, 1) := by decide +kernel
theorem d_zs_tick_20 : decode m_zs_tick.2.1 20 = .ok (.istore_n 3, 1) := by decide +kernel
theorem d_zs_tick_21 : decode m_zs_tick.2.1 21 = .ok (.iload_n 3, 1) := by decide +kernel
theorem d_zs_tick_22 : decode m_zs_tick.2.1 22 = .ok (.iconst 4, 1) := by decide +kernel
theorem d_zs_tick_23 : decode m_zs_tick.2.1 23 = .ok (.if_icmp .ge (51), 3) := by decide +kernel
theorem d_zs_tick_26 : decode m_zs_tick.2.1 26 = .ok (.aload_n 0, 1) := by decide +kernel
theorem d_zs_tick_27 : decode m_zs_tick.2.1 27 = .ok (.getfield 17, 3) := by decide +kernel
theorem d_zs_tick_30 : decode m_zs_tick.2.1 30 = .ok (.iload_n 3, 1) := by decide +kernel
theorem d_zs_tick_31 : decode m_zs_tick.2.1 31 = .ok (.aaload, 1) := by decide +kernel
theorem d_zs_tick_32 : decode m_zs_tick.2.1 32 = .ok (.astore 4, 2) := by decide +kernel
theorem d_zs_tick_34 : decode m_zs_tick.2.1 34 = .ok (.aload 4, 2) := by decide +kernel
theorem d_zs_tick_36 : decode m_zs_tick.2.1 36 = .ok (.getfield 51, 3) := by decide +kernel
theorem d_zs_tick_39 : decode m_zs_tick.2.1 39 = .ok (.ifCond .eq (29), 3) := by decide +kernel
theorem d_zs_tick_42 : decode m_zs_tick.2.1 42 = .ok (.aload 4, 2) := by decide +kernel
theorem d_zs_tick_44 : decode m_zs_tick.2.1 44 = .ok (.getfield 88, 3) := by decide +kernel
theorem d_zs_tick_47 : decode m_zs_tick.2.1 47 = .ok (.aload 4, 2) := by decide +kernel
theorem d_zs_tick_49 : decode m_zs_tick.2.1 49 = .ok (.getfield 202, 3) := by decide +kernel
theorem d_zs_tick_52 : decode m_zs_tick.2.1 52 = .ok (.iadd, 1) := by decide +kernel
theorem d_zs_tick_53 : decode m_zs_tick.2.1 53 = .ok (.aload_n 0, 1) := by decide +kernel
theorem d_zs_tick_54 : decode m_zs_tick.2.1 54 = .ok (.getfield 35, 3) := by decide +kernel
theorem d_zs_tick_57 : decode m_zs_tick.2.1 57 = .ok (.if_icmp .gt (11), 3) := by decide +kernel
theorem d_zs_tick_60 : decode m_zs_tick.2.1 60 = .ok (.aload 4, 2) := by decide +kernel
theorem d_zs_tick_62 : decode m_zs_tick.2.1 62 = .ok (.invokevirtual 82, 3) := by decide +kernel
theorem d_zs_tick_65 : decode m_zs_tick.2.1 65 = .ok (.iinc 2 1, 3) := by decide +kernel
theorem d_zs_tick_68 : decode m_zs_tick.2.1 68 = .ok (.iinc 3 1, 3) := by decide +kernel
theorem d_zs_tick_71 : decode m_zs_tick.2.1 71 = .ok (.goto (-50), 3) := by decide +kernel
theorem d_zs_tick_74 : decode m_zs_tick.2.1 74 = .ok (.aload_n 0, 1) := by decide +kernel
theorem d_zs_tick_75 : decode m_zs_tick.2.1 75 = .ok (.invokevirtual 85, 3) := by decide +kernel
theorem d_zs_tick_78 : decode m_zs_tick.2.1 78 = .ok (.iload_n 2, 1) := by decide +kernel
theorem d_zs_tick_79 : decode m_zs_tick.2.1 79 = .ok (.ireturn, 1) := by decide +kernel
theorem d_zs_state_0 : decode m_zs_state.2.1 0 = .ok (.iload_n 1, 1) := by decide +kernel
theorem d_zs_state_1 : decode m_zs_state.2.1 1 = .ok (.invokestatic 44, 3) := by decide +kernel
theorem d_zs_state_4 : decode m_zs_state.2.1 4 = .ok (.iload_n 2, 1) := by decide +kernel
theorem d_zs_state_5 : decode m_zs_state.2.1 5 = .ok (.iconst 0, 1) := by decide +kernel
theorem d_zs_state_6 : decode m_zs_state.2.1 6 = .ok (.iconst 5, 1) := by decide +kernel
theorem d_zs_state_7 : decode m_zs_state.2.1 7 = .ok (.invokestatic 47, 3) := by decide +kernel
theorem d_zs_state_10 : decode m_zs_state.2.1 10 = .ok (.aload_n 0, 1) := by decide +kernel
theorem d_zs_state_11 : decode m_zs_state.2.1 11 = .ok (.getfield 11, 3) := by decide +kernel
theorem d_zs_state_14 : decode m_zs_state.2.1 14 = .ok (.iload_n 1, 1) := by decide +kernel
theorem d_zs_state_15 : decode m_zs_state.2.1 15 = .ok (.aaload, 1) := by decide +kernel
theorem d_zs_state_16 : decode m_zs_state.2.1 16 = .ok (.astore_n 3, 1) := by decide +kernel
theorem d_zs_state_17 : decode m_zs_state.2.1 17 = .ok (.iload_n 2, 1) := by decide +kernel
theorem d_zs_state_18 : decode m_zs_state.2.1 18 = .ok (.tableswitch (79) (0) (4) #[34, 39, 44, 57, 71], 34) := by decide +kernel
theorem d_zs_state_52 : decode m_zs_state.2.1 52 = .ok (.aload_n 3, 1) := by decide +kernel
theorem d_zs_state_53 : decode m_zs_state.2.1 53 = .ok (.getfield 179, 3) := by decide +kernel
theorem d_zs_state_56 : decode m_zs_state.2.1 56 = .ok (.ireturn, 1) := by decide +kernel
theorem d_zs_state_57 : decode m_zs_state.2.1 57 = .ok (.aload_n 3, 1) := by decide +kernel
theorem d_zs_state_58 : decode m_zs_state.2.1 58 = .ok (.getfield 185, 3) := by decide +kernel
theorem d_zs_state_61 : decode m_zs_state.2.1 61 = .ok (.ireturn, 1) := by decide +kernel
theorem d_zs_state_62 : decode m_zs_state.2.1 62 = .ok (.aload_n 3, 1) := by decide +kernel
theorem d_zs_state_63 : decode m_zs_state.2.1 63 = .ok (.getfield 97, 3) := by decide +kernel
theorem d_zs_state_66 : decode m_zs_state.2.1 66 = .ok (.ifCond .eq (7), 3) := by decide +kernel
theorem d_zs_state_69 : decode m_zs_state.2.1 69 = .ok (.iconst 1, 1) := by decide +kernel
theorem d_zs_state_70 : decode m_zs_state.2.1 70 = .ok (.goto 4, 3) := by decide +kernel
theorem d_zs_state_73 : decode m_zs_state.2.1 73 = .ok (.iconst 0, 1) := by decide +kernel
theorem d_zs_state_74 : decode m_zs_state.2.1 74 = .ok (.ireturn, 1) := by decide +kernel
theorem d_zs_state_75 : decode m_zs_state.2.1 75 = .ok (.aload_n 0, 1) := by decide +kernel
theorem d_zs_state_76 : decode m_zs_state.2.1 76 = .ok (.iload_n 1, 1) := by decide +kernel
theorem d_zs_state_77 : decode m_zs_state.2.1 77 = .ok (.invokevirtual 58, 3) := by decide +kernel
theorem d_zs_state_80 : decode m_zs_state.2.1 80 = .ok (.ifCond .eq (7), 3) := by decide +kernel
theorem d_zs_state_83 : decode m_zs_state.2.1 83 = .ok (.iconst 1, 1) := by decide +kernel
theorem d_zs_state_84 : decode m_zs_state.2.1 84 = .ok (.goto 4, 3) := by decide +kernel
theorem d_zs_state_87 : decode m_zs_state.2.1 87 = .ok (.iconst 0, 1) := by decide +kernel
theorem d_zs_state_88 : decode m_zs_state.2.1 88 = .ok (.ireturn, 1) := by decide +kernel
theorem d_zs_state_89 : decode m_zs_state.2.1 89 = .ok (.aload_n 3, 1) := by decide +kernel
theorem d_zs_state_90 : decode m_zs_state.2.1 90 = .ok (.getfield 205, 3) := by decide +kernel
theorem d_zs_state_93 : decode m_zs_state.2.1 93 = .ok (.invokevirtual 208, 3) := by decide +kernel
theorem d_zs_state_96 : decode m_zs_state.2.1 96 = .ok (.ireturn, 1) := by decide +kernel
theorem d_zs_state_97 : decode m_zs_state.2.1 97 = .ok (.aload_n 3, 1) := by decide +kernel
theorem d_zs_state_98 : decode m_zs_state.2.1 98 = .ok (.getfield 211, 3) := by decide +kernel
theorem d_zs_state_101 : decode m_zs_state.2.1 101 = .ok (.ireturn, 1) := by decide +kernel
theorem d_zs_count_0 : decode m_zs_count.2.1 0 = .ok (.iload_n 1, 1) := by decide +kernel
theorem d_zs_count_1 : decode m_zs_count.2.1 1 = .ok (.iconst 0, 1) := by decide +kernel
theorem d_zs_count_2 : decode m_zs_count.2.1 2 = .ok (.bipush 7, 2) := by decide +kernel
theorem d_zs_count_4 : decode m_zs_count.2.1 4 = .ok (.invokestatic 47, 3) := by decide +kernel
theorem d_zs_count_7 : decode m_zs_count.2.1 7 = .ok (.iload_n 1, 1) := by decide +kernel
theorem d_zs_count_8 : decode m_zs_count.2.1 8 = .ok (.tableswitch (60) (0) (3) #[32, 37, 42, 47], 32) := by decide +kernel
theorem d_zs_count_40 : decode m_zs_count.2.1 40 = .ok (.aload_n 0, 1) := by decide +kernel
theorem d_zs_count_41 : decode m_zs_count.2.1 41 = .ok (.getfield 35, 3) := by decide +kernel
theorem d_zs_count_44 : decode m_zs_count.2.1 44 = .ok (.ireturn, 1) := by decide +kernel
theorem d_zs_count_45 : decode m_zs_count.2.1 45 = .ok (.aload_n 0, 1) := by decide +kernel
theorem d_zs_count_46 : decode m_zs_count.2.1 46 = .ok (.getfield 28, 3) := by decide +kernel
theorem d_zs_count_49 : decode m_zs_count.2.1 49 = .ok (.ireturn, 1) := by decide +kernel
theorem d_zs_count_50 : decode m_zs_count.2.1 50 = .ok (.aload_n 0, 1) := by decide +kernel
theorem d_zs_count_51 : decode m_zs_count.2.1 51 = .ok (.getfield 32, 3) := by decide +kernel
theorem d_zs_count_54 : decode m_zs_count.2.1 54 = .ok (.ireturn, 1) := by decide +kernel
theorem d_zs_count_55 : decode m_zs_count.2.1 55 = .ok (.aload_n 0, 1) := by decide +kernel
theorem d_zs_count_56 : decode m_zs_count.2.1 56 = .ok (.invokevirtual 62, 3) := by decide +kernel
theorem d_zs_count_59 : decode m_zs_count.2.1 59 = .ok (.ifCond .eq (7), 3) := by decide +kernel
theorem d_zs_count_62 : decode m_zs_count.2.1 62 = .ok (.iconst 1, 1) := by decide +kernel
theorem d_zs_count_63 : decode m_zs_count.2.1 63 = .ok (.goto 4, 3) := by decide +kernel
theorem d_zs_count_66 : decode m_zs_count.2.1 66 = .ok (.iconst 0, 1) := by decide +kernel
theorem d_zs_count_67 : decode m_zs_count.2.1 67 = .ok (.ireturn, 1) := by decide +kernel
theorem d_zs_count_68 : decode m_zs_count.2.1 68 = .ok (.aload_n 0, 1) := by decide +kernel
theorem d_zs_count_69 : decode m_zs_count.2.1 69 = .ok (.getfield 17, 3) := by decide +kernel
theorem d_zs_count_72 : decode m_zs_count.2.1 72 = .ok (.iload_n 1, 1) := by decide +kernel
theorem d_zs_count_73 : decode m_zs_count.2.1 73 = .ok (.iconst 4, 1) := by decide +kernel
theorem d_zs_count_74 : decode m_zs_count.2.1 74 = .ok (.isub, 1) := by decide +kernel
theorem d_zs_count_75 : decode m_zs_count.2.1 75 = .ok (.aaload, 1) := by decide +kernel
theorem d_zs_count_76 : decode m_zs_count.2.1 76 = .ok (.invokevirtual 214, 3) := by decide +kernel
theorem d_zs_count_79 : decode m_zs_count.2.1 79 = .ok (.ireturn, 1) := by decide +kernel
end
section
/-! decode rows, by wip/whole/gen_facts.py -/
theorem d_md_init_0 : decode m_md_init.2.1 0 = .ok (.aload_n 0, 1) := by decide +kernel
theorem d_md_init_1 : decode m_md_init.2.1 1 = .ok (.invokespecial 1, 3) := by decide +kernel
theorem d_md_init_4 : decode m_md_init.2.1 4 = .ok (.aload_n 0, 1) := by decide +kernel
theorem d_md_init_5 : decode m_md_init.2.1 5 = .ok (.sipush 240, 3) := by decide +kernel
theorem d_md_init_8 : decode m_md_init.2.1 8 = .ok (.newarray .int, 2) := by decide +kernel
theorem d_md_init_10 : decode m_md_init.2.1 10 = .ok (.putfield 7, 3) := by decide +kernel
theorem d_md_init_13 : decode m_md_init.2.1 13 = .ok (.aload_n 0, 1) := by decide +kernel
theorem d_md_init_14 : decode m_md_init.2.1 14 = .ok (.sipush 240, 3) := by decide +kernel
theorem d_md_init_17 : decode m_md_init.2.1 17 = .ok (.newarray .int, 2) := by decide +kernel
theorem d_md_init_19 : decode m_md_init.2.1 19 = .ok (.putfield 13, 3) := by decide +kernel
theorem d_md_init_22 : decode m_md_init.2.1 22 = .ok (.aload_n 0, 1) := by decide +kernel
theorem d_md_init_23 : decode m_md_init.2.1 23 = .ok (.sipush 240, 3) := by decide +kernel
theorem d_md_init_26 : decode m_md_init.2.1 26 = .ok (.newarray .int, 2) := by decide +kernel
theorem d_md_init_28 : decode m_md_init.2.1 28 = .ok (.putfield 16, 3) := by decide +kernel
theorem d_md_init_31 : decode m_md_init.2.1 31 = .ok (.aload_n 0, 1) := by decide +kernel
theorem d_md_init_32 : decode m_md_init.2.1 32 = .ok (.sipush 240, 3) := by decide +kernel
theorem d_md_init_35 : decode m_md_init.2.1 35 = .ok (.newarray .int, 2) := by decide +kernel
theorem d_md_init_37 : decode m_md_init.2.1 37 = .ok (.putfield 19, 3) := by decide +kernel
theorem d_md_init_40 : decode m_md_init.2.1 40 = .ok (.aload_n 0, 1) := by decide +kernel
theorem d_md_init_41 : decode m_md_init.2.1 41 = .ok (.iconst 3, 1) := by decide +kernel
theorem d_md_init_42 : decode m_md_init.2.1 42 = .ok (.newarray .int, 2) := by decide +kernel
theorem d_md_init_44 : decode m_md_init.2.1 44 = .ok (.putfield 22, 3) := by decide +kernel
theorem d_md_init_47 : decode m_md_init.2.1 47 = .ok (.aload_n 0, 1) := by decide +kernel
theorem d_md_init_48 : decode m_md_init.2.1 48 = .ok (.iconst 3, 1) := by decide +kernel
theorem d_md_init_49 : decode m_md_init.2.1 49 = .ok (.newarray .int, 2) := by decide +kernel
theorem d_md_init_51 : decode m_md_init.2.1 51 = .ok (.putfield 25, 3) := by decide +kernel
theorem d_md_init_54 : decode m_md_init.2.1 54 = .ok (.aload_n 0, 1) := by decide +kernel
theorem d_md_init_55 : decode m_md_init.2.1 55 = .ok (.iconst 3, 1) := by decide +kernel
theorem d_md_init_56 : decode m_md_init.2.1 56 = .ok (.newarray .int, 2) := by decide +kernel
theorem d_md_init_58 : decode m_md_init.2.1 58 = .ok (.putfield 28, 3) := by decide +kernel
theorem d_md_init_61 : decode m_md_init.2.1 61 = .ok (.aload_n 0, 1) := by decide +kernel
theorem d_md_init_62 : decode m_md_init.2.1 62 = .ok (.iconst 3, 1) := by decide +kernel
theorem d_md_init_63 : decode m_md_init.2.1 63 = .ok (.newarray .boolean, 2) := by decide +kernel
theorem d_md_init_65 : decode m_md_init.2.1 65 = .ok (.putfield 31, 3) := by decide +kernel
theorem d_md_init_68 : decode m_md_init.2.1 68 = .ok (.aload_n 0, 1) := by decide +kernel
theorem d_md_init_69 : decode m_md_init.2.1 69 = .ok (.iconst 3, 1) := by decide +kernel
theorem d_md_init_70 : decode m_md_init.2.1 70 = .ok (.newarray .boolean, 2) := by decide +kernel
theorem d_md_init_72 : decode m_md_init.2.1 72 = .ok (.putfield 35, 3) := by decide +kernel
theorem d_md_init_75 : decode m_md_init.2.1 75 = .ok (.aload_n 0, 1) := by decide +kernel
theorem d_md_init_76 : decode m_md_init.2.1 76 = .ok (.iconst 1, 1) := by decide +kernel
theorem d_md_init_77 : decode m_md_init.2.1 77 = .ok (.putfield 38, 3) := by decide +kernel
theorem d_md_init_80 : decode m_md_init.2.1 80 = .ok (.aload_n 0, 1) := by decide +kernel
theorem d_md_init_81 : decode m_md_init.2.1 81 = .ok (.iconst 4, 1) := by decide +kernel
theorem d_md_init_82 : decode m_md_init.2.1 82 = .ok (.newarray .boolean, 2) := by decide +kernel
theorem d_md_init_84 : decode m_md_init.2.1 84 = .ok (.putfield 42, 3) := by decide +kernel
theorem d_md_init_87 : decode m_md_init.2.1 87 = .ok (.aload_n 0, 1) := by decide +kernel
theorem d_md_init_88 : decode m_md_init.2.1 88 = .ok (.iconst 4, 1) := by decide +kernel
theorem d_md_init_89 : decode m_md_init.2.1 89 = .ok (.newarray .boolean, 2) := by decide +kernel
theorem d_md_init_91 : decode m_md_init.2.1 91 = .ok (.putfield 45, 3) := by decide +kernel
theorem d_md_init_94 : decode m_md_init.2.1 94 = .ok (.aload_n 0, 1) := by decide +kernel
theorem d_md_init_95 : decode m_md_init.2.1 95 = .ok (.iconst 4, 1) := by decide +kernel
theorem d_md_init_96 : decode m_md_init.2.1 96 = .ok (.newarray .int, 2) := by decide +kernel
theorem d_md_init_98 : decode m_md_init.2.1 98 = .ok (.putfield 48, 3) := by decide +kernel
theorem d_md_init_101 : decode m_md_init.2.1 101 = .ok (.aload_n 0, 1) := by decide +kernel
theorem d_md_init_102 : decode m_md_init.2.1 102 = .ok (.iconst 4, 1) := by decide +kernel
theorem d_md_init_103 : decode m_md_init.2.1 103 = .ok (.newarray .int, 2) := by decide +kernel
theorem d_md_init_105 : decode m_md_init.2.1 105 = .ok (.putfield 51, 3) := by decide +kernel
theorem d_md_init_108 : decode m_md_init.2.1 108 = .ok (.aload_n 0, 1) := by decide +kernel
theorem d_md_init_109 : decode m_md_init.2.1 109 = .ok (.iconst 4, 1) := by decide +kernel
theorem d_md_init_110 : decode m_md_init.2.1 110 = .ok (.newarray .int, 2) := by decide +kernel
theorem d_md_init_112 : decode m_md_init.2.1 112 = .ok (.putfield 54, 3) := by decide +kernel
theorem d_md_init_115 : decode m_md_init.2.1 115 = .ok (.aload_n 0, 1) := by decide +kernel
theorem d_md_init_116 : decode m_md_init.2.1 116 = .ok (.sipush 1036, 3) := by decide +kernel
theorem d_md_init_119 : decode m_md_init.2.1 119 = .ok (.newarray .boolean, 2) := by decide +kernel
theorem d_md_init_121 : decode m_md_init.2.1 121 = .ok (.putfield 57, 3) := by decide +kernel
theorem d_md_init_124 : decode m_md_init.2.1 124 = .ok (.aload_n 0, 1) := by decide +kernel
theorem d_md_init_125 : decode m_md_init.2.1 125 = .ok (.sipush 1036, 3) := by decide +kernel
theorem d_md_init_128 : decode m_md_init.2.1 128 = .ok (.newarray .boolean, 2) := by decide +kernel
theorem d_md_init_130 : decode m_md_init.2.1 130 = .ok (.putfield 60, 3) := by decide +kernel
theorem d_md_init_133 : decode m_md_init.2.1 133 = .ok (.aload_n 0, 1) := by decide +kernel
theorem d_md_init_134 : decode m_md_init.2.1 134 = .ok (.bipush 32, 2) := by decide +kernel
theorem d_md_init_136 : decode m_md_init.2.1 136 = .ok (.newarray .int, 2) := by decide +kernel
theorem d_md_init_138 : decode m_md_init.2.1 138 = .ok (.putfield 63, 3) := by decide +kernel
theorem d_md_init_141 : decode m_md_init.2.1 141 = .ok (.aload_n 0, 1) := by decide +kernel
theorem d_md_init_142 : decode m_md_init.2.1 142 = .ok (.iconst 4, 1) := by decide +kernel
theorem d_md_init_143 : decode m_md_init.2.1 143 = .ok (.newarray .int, 2) := by decide +kernel
theorem d_md_init_145 : decode m_md_init.2.1 145 = .ok (.putfield 66, 3) := by decide +kernel
theorem d_md_init_148 : decode m_md_init.2.1 148 = .ok (.aload_n 0, 1) := by decide +kernel
theorem d_md_init_149 : decode m_md_init.2.1 149 = .ok (.sipush 259, 3) := by decide +kernel
theorem d_md_init_152 : decode m_md_init.2.1 152 = .ok (.newarray .boolean, 2) := by decide +kernel
theorem d_md_init_154 : decode m_md_init.2.1 154 = .ok (.putfield 69, 3) := by decide +kernel
theorem d_md_init_157 : decode m_md_init.2.1 157 = .ok (.aload_n 0, 1) := by decide +kernel
theorem d_md_init_158 : decode m_md_init.2.1 158 = .ok (.sipush 259, 3) := by decide +kernel
theorem d_md_init_161 : decode m_md_init.2.1 161 = .ok (.newarray .int, 2) := by decide +kernel
theorem d_md_init_163 : decode m_md_init.2.1 163 = .ok (.putfield 72, 3) := by decide +kernel
theorem d_md_init_166 : decode m_md_init.2.1 166 = .ok (.aload_n 0, 1) := by decide +kernel
theorem d_md_init_167 : decode m_md_init.2.1 167 = .ok (.sipush 259, 3) := by decide +kernel
theorem d_md_init_170 : decode m_md_init.2.1 170 = .ok (.newarray .int, 2) := by decide +kernel
theorem d_md_init_172 : decode m_md_init.2.1 172 = .ok (.putfield 75, 3) := by decide +kernel
theorem d_md_init_175 : decode m_md_init.2.1 175 = .ok (.aload_n 0, 1) := by decide +kernel
theorem d_md_init_176 : decode m_md_init.2.1 176 = .ok (.sipush 259, 3) := by decide +kernel
theorem d_md_init_179 : decode m_md_init.2.1 179 = .ok (.newarray .int, 2) := by decide +kernel
theorem d_md_init_181 : decode m_md_init.2.1 181 = .ok (.putfield 78, 3) := by decide +kernel
theorem d_md_init_184 : decode m_md_init.2.1 184 = .ok (.aload_n 0, 1) := by decide +kernel
theorem d_md_init_185 : decode m_md_init.2.1 185 = .ok (.sipush 259, 3) := by decide +kernel
theorem d_md_init_188 : decode m_md_init.2.1 188 = .ok (.newarray .int, 2) := by decide +kernel
theorem d_md_init_190 : decode m_md_init.2.1 190 = .ok (.putfield 81, 3) := by decide +kernel
theorem d_md_init_193 : decode m_md_init.2.1 193 = .ok (.iconst 0, 1) := by decide +kernel
theorem d_md_init_194 : decode m_md_init.2.1 194 = .ok (.istore_n 1, 1) := by decide +kernel
theorem d_md_init_195 : decode m_md_init.2.1 195 = .ok (.iload_n 1, 1) := by decide +kernel
theorem d_md_init_196 : decode m_md_init.2.1 196 = .ok (.iconst 3, 1) := by decide +kernel
theorem d_md_init_197 : decode m_md_init.2.1 197 = .ok (.if_icmp .ge (16), 3) := by decide +kernel
theorem d_md_init_200 : decode m_md_init.2.1 200 = .ok (.aload_n 0, 1) := by decide +kernel
theorem d_md_init_201 : decode m_md_init.2.1 201 = .ok (.getfield 28, 3) := by decide +kernel
theorem d_md_init_204 : decode m_md_init.2.1 204 = .ok (.iload_n 1, 1) := by decide +kernel
theorem d_md_init_205 : decode m_md_init.2.1 205 = .ok (.iconst 1, 1) := by decide +kernel
theorem d_md_init_206 : decode m_md_init.2.1 206 = .ok (.iastore, 1) := by decide +kernel
theorem d_md_init_207 : decode m_md_init.2.1 207 = .ok (.iinc 1 1, 3) := by decide +kernel
theorem d_md_init_210 : decode m_md_init.2.1 210 = .ok (.goto (-15), 3) := by decide +kernel
theorem d_md_init_213 : decode m_md_init.2.1 213 = .ok (.return_, 1) := by decide +kernel
theorem d_md_thrown_0 : decode m_md_thrown.2.1 0 = .ok (.aload_n 0, 1) := by decide +kernel
theorem d_md_thrown_1 : decode m_md_thrown.2.1 1 = .ok (.getfield 84, 3) := by decide +kernel
theorem d_md_thrown_4 : decode m_md_thrown.2.1 4 = .ok (.ireturn, 1) := by decide +kernel
theorem d_md_open_0 : decode m_md_open.2.1 0 = .ok (.aload_n 0, 1) := by decide +kernel
theorem d_md_open_1 : decode m_md_open.2.1 1 = .ok (.iconst 0, 1) := by decide +kernel
theorem d_md_open_2 : decode m_md_open.2.1 2 = .ok (.putfield 84, 3) := by decide +kernel
theorem d_md_open_5 : decode m_md_open.2.1 5 = .ok (.aload_n 0, 1) := by decide +kernel
theorem d_md_open_6 : decode m_md_open.2.1 6 = .ok (.iload_n 1, 1) := by decide +kernel
theorem d_md_open_7 : decode m_md_open.2.1 7 = .ok (.iconst 4, 1) := by decide +kernel
theorem d_md_open_8 : decode m_md_open.2.1 8 = .ok (.invokevirtual 145, 3) := by decide +kernel
theorem d_md_open_11 : decode m_md_open.2.1 11 = .ok (.ifCond .ne (24), 3) := by decide +kernel
theorem d_md_open_14 : decode m_md_open.2.1 14 = .ok (.aload_n 0, 1) := by decide +kernel
theorem d_md_open_15 : decode m_md_open.2.1 15 = .ok (.iload_n 2, 1) := by decide +kernel
theorem d_md_open_16 : decode m_md_open.2.1 16 = .ok (.iconst 3, 1) := by decide +kernel
theorem d_md_open_17 : decode m_md_open.2.1 17 = .ok (.invokevirtual 145, 3) := by decide +kernel
theorem d_md_open_20 : decode m_md_open.2.1 20 = .ok (.ifCond .ne (15), 3) := by decide +kernel
theorem d_md_open_23 : decode m_md_open.2.1 23 = .ok (.aload_n 0, 1) := by decide +kernel
theorem d_md_open_24 : decode m_md_open.2.1 24 = .ok (.iload_n 3, 1) := by decide +kernel
theorem d_md_open_25 : decode m_md_open.2.1 25 = .ok (.iconst 1, 1) := by decide +kernel
theorem d_md_open_26 : decode m_md_open.2.1 26 = .ok (.isub, 1) := by decide +kernel
theorem d_md_open_27 : decode m_md_open.2.1 27 = .ok (.bipush 50, 2) := by decide +kernel
theorem d_md_open_29 : decode m_md_open.2.1 29 = .ok (.invokevirtual 145, 3) := by decide +kernel
theorem d_md_open_32 : decode m_md_open.2.1 32 = .ok (.ifCond .eq (9), 3) := by decide +kernel
theorem d_md_open_35 : decode m_md_open.2.1 35 = .ok (.aload_n 0, 1) := by decide +kernel
theorem d_md_open_36 : decode m_md_open.2.1 36 = .ok (.iconst 1, 1) := by decide +kernel
theorem d_md_open_37 : decode m_md_open.2.1 37 = .ok (.invokevirtual 149, 3) := by decide +kernel
theorem d_md_open_40 : decode m_md_open.2.1 40 = .ok (.ireturn, 1) := by decide +kernel
theorem d_md_open_41 : decode m_md_open.2.1 41 = .ok (.aload_n 0, 1) := by decide +kernel
theorem d_md_open_42 : decode m_md_open.2.1 42 = .ok (.getfield 42, 3) := by decide +kernel
theorem d_md_open_45 : decode m_md_open.2.1 45 = .ok (.iload_n 1, 1) := by decide +kernel
theorem d_md_open_46 : decode m_md_open.2.1 46 = .ok (.baload, 1) := by decide +kernel
theorem d_md_open_47 : decode m_md_open.2.1 47 = .ok (.ifCond .ne (27), 3) := by decide +kernel
theorem d_md_open_50 : decode m_md_open.2.1 50 = .ok (.aload_n 0, 1) := by decide +kernel
theorem d_md_open_51 : decode m_md_open.2.1 51 = .ok (.getfield 45, 3) := by decide +kernel
theorem d_md_open_54 : decode m_md_open.2.1 54 = .ok (.iload_n 1, 1) := by decide +kernel
theorem d_md_open_55 : decode m_md_open.2.1 55 = .ok (.baload, 1) := by decide +kernel
theorem d_md_open_56 : decode m_md_open.2.1 56 = .ok (.ifCond .ne (18), 3) := by decide +kernel
theorem d_md_open_59 : decode m_md_open.2.1 59 = .ok (.aload_n 0, 1) := by decide +kernel
theorem d_md_open_60 : decode m_md_open.2.1 60 = .ok (.iload_n 2, 1) := by decide +kernel
theorem d_md_open_61 : decode m_md_open.2.1 61 = .ok (.invokevirtual 112, 3) := by decide +kernel
theorem d_md_open_64 : decode m_md_open.2.1 64 = .ok (.ifCond .eq (10), 3) := by decide +kernel
theorem d_md_open_67 : decode m_md_open.2.1 67 = .ok (.aload_n 0, 1) := by decide +kernel
theorem d_md_open_68 : decode m_md_open.2.1 68 = .ok (.invokevirtual 118, 3) := by decide +kernel
theorem d_md_open_71 : decode m_md_open.2.1 71 = .ok (.ifCond .ne (9), 3) := by decide +kernel
theorem d_md_open_74 : decode m_md_open.2.1 74 = .ok (.aload_n 0, 1) := by decide +kernel
theorem d_md_open_75 : decode m_md_open.2.1 75 = .ok (.iconst 2, 1) := by decide +kernel
theorem d_md_open_76 : decode m_md_open.2.1 76 = .ok (.invokevirtual 149, 3) := by decide +kernel
theorem d_md_open_79 : decode m_md_open.2.1 79 = .ok (.ireturn, 1) := by decide +kernel
theorem d_md_open_80 : decode m_md_open.2.1 80 = .ok (.aload_n 0, 1) := by decide +kernel
theorem d_md_open_81 : decode m_md_open.2.1 81 = .ok (.getfield 42, 3) := by decide +kernel
theorem d_md_open_84 : decode m_md_open.2.1 84 = .ok (.iload_n 1, 1) := by decide +kernel
theorem d_md_open_85 : decode m_md_open.2.1 85 = .ok (.iconst 1, 1) := by decide +kernel
theorem d_md_open_86 : decode m_md_open.2.1 86 = .ok (.bastore, 1) := by decide +kernel
theorem d_md_open_87 : decode m_md_open.2.1 87 = .ok (.aload_n 0, 1) := by decide +kernel
theorem d_md_open_88 : decode m_md_open.2.1 88 = .ok (.getfield 48, 3) := by decide +kernel
theorem d_md_open_91 : decode m_md_open.2.1 91 = .ok (.iload_n 1, 1) := by decide +kernel
theorem d_md_open_92 : decode m_md_open.2.1 92 = .ok (.iload_n 2, 1) := by decide +kernel
theorem d_md_open_93 : decode m_md_open.2.1 93 = .ok (.iastore, 1) := by decide +kernel
theorem d_md_open_94 : decode m_md_open.2.1 94 = .ok (.aload_n 0, 1) := by decide +kernel
theorem d_md_open_95 : decode m_md_open.2.1 95 = .ok (.getfield 51, 3) := by decide +kernel
theorem d_md_open_98 : decode m_md_open.2.1 98 = .ok (.iload_n 1, 1) := by decide +kernel
theorem d_md_open_99 : decode m_md_open.2.1 99 = .ok (.iload_n 3, 1) := by decide +kernel
theorem d_md_open_100 : decode m_md_open.2.1 100 = .ok (.iastore, 1) := by decide +kernel
theorem d_md_open_101 : decode m_md_open.2.1 101 = .ok (.aload_n 0, 1) := by decide +kernel
theorem d_md_open_102 : decode m_md_open.2.1 102 = .ok (.getfield 54, 3) := by decide +kernel
theorem d_md_open_105 : decode m_md_open.2.1 105 = .ok (.iload_n 1, 1) := by decide +kernel
theorem d_md_open_106 : decode m_md_open.2.1 106 = .ok (.aload_n 0, 1) := by decide +kernel
theorem d_md_open_107 : decode m_md_open.2.1 107 = .ok (.getfield 152, 3) := by decide +kernel
theorem d_md_open_110 : decode m_md_open.2.1 110 = .ok (.iastore, 1) := by decide +kernel
theorem d_md_open_111 : decode m_md_open.2.1 111 = .ok (.aload_n 0, 1) := by decide +kernel
theorem d_md_open_112 : decode m_md_open.2.1 112 = .ok (.aload_n 0, 1) := by decide +kernel
theorem d_md_open_113 : decode m_md_open.2.1 113 = .ok (.getfield 152, 3) := by decide +kernel
theorem d_md_open_116 : decode m_md_open.2.1 116 = .ok (.iload_n 3, 1) := by decide +kernel
theorem d_md_open_117 : decode m_md_open.2.1 117 = .ok (.iadd, 1) := by decide +kernel
theorem d_md_open_118 : decode m_md_open.2.1 118 = .ok (.invokevirtual 155, 3) := by decide +kernel
theorem d_md_open_121 : decode m_md_open.2.1 121 = .ok (.ireturn, 1) := by decide +kernel
theorem d_md_out_0 : decode m_md_out.2.1 0 = .ok (.iload_n 1, 1) := by decide +kernel
theorem d_md_out_1 : decode m_md_out.2.1 1 = .ok (.ifCond .lt (8), 3) := by decide +kernel
theorem d_md_out_4 : decode m_md_out.2.1 4 = .ok (.iload_n 1, 1) := by decide +kernel
theorem d_md_out_5 : decode m_md_out.2.1 5 = .ok (.iload_n 2, 1) := by decide +kernel
theorem d_md_out_6 : decode m_md_out.2.1 6 = .ok (.if_icmp .lt (7), 3) := by decide +kernel
theorem d_md_out_9 : decode m_md_out.2.1 9 = .ok (.iconst 1, 1) := by decide +kernel
theorem d_md_out_10 : decode m_md_out.2.1 10 = .ok (.goto 4, 3) := by decide +kernel
theorem d_md_out_13 : decode m_md_out.2.1 13 = .ok (.iconst 0, 1) := by decide +kernel
theorem d_md_out_14 : decode m_md_out.2.1 14 = .ok (.ireturn, 1) := by decide +kernel
theorem d_md_fail_0 : decode m_md_fail.2.1 0 = .ok (.aload_n 0, 1) := by decide +kernel
theorem d_md_fail_1 : decode m_md_fail.2.1 1 = .ok (.iload_n 1, 1) := by decide +kernel
theorem d_md_fail_2 : decode m_md_fail.2.1 2 = .ok (.putfield 84, 3) := by decide +kernel
theorem d_md_fail_5 : decode m_md_fail.2.1 5 = .ok (.iconst 0, 1) := by decide +kernel
theorem d_md_fail_6 : decode m_md_fail.2.1 6 = .ok (.ireturn, 1) := by decide +kernel
theorem d_md_linked_0 : decode m_md_linked.2.1 0 = .ok (.aload_n 0, 1) := by decide +kernel
theorem d_md_linked_1 : decode m_md_linked.2.1 1 = .ok (.getfield 105, 3) := by decide +kernel
theorem d_md_linked_4 : decode m_md_linked.2.1 4 = .ok (.ifCond .lt (26), 3) := by decide +kernel
theorem d_md_linked_7 : decode m_md_linked.2.1 7 = .ok (.aload_n 0, 1) := by decide +kernel
theorem d_md_linked_8 : decode m_md_linked.2.1 8 = .ok (.aload_n 0, 1) := by decide +kernel
theorem d_md_linked_9 : decode m_md_linked.2.1 9 = .ok (.getfield 105, 3) := by decide +kernel
theorem d_md_linked_12 : decode m_md_linked.2.1 12 = .ok (.invokevirtual 108, 3) := by decide +kernel
theorem d_md_linked_15 : decode m_md_linked.2.1 15 = .ok (.ifCond .eq (15), 3) := by decide +kernel
theorem d_md_linked_18 : decode m_md_linked.2.1 18 = .ok (.aload_n 0, 1) := by decide +kernel
theorem d_md_linked_19 : decode m_md_linked.2.1 19 = .ok (.iload_n 1, 1) := by decide +kernel
theorem d_md_linked_20 : decode m_md_linked.2.1 20 = .ok (.invokevirtual 108, 3) := by decide +kernel
theorem d_md_linked_23 : decode m_md_linked.2.1 23 = .ok (.ifCond .eq (7), 3) := by decide +kernel
theorem d_md_linked_26 : decode m_md_linked.2.1 26 = .ok (.iconst 1, 1) := by decide +kernel
theorem d_md_linked_27 : decode m_md_linked.2.1 27 = .ok (.goto 4, 3) := by decide +kernel
theorem d_md_linked_30 : decode m_md_linked.2.1 30 = .ok (.iconst 0, 1) := by decide +kernel
theorem d_md_linked_31 : decode m_md_linked.2.1 31 = .ok (.ireturn, 1) := by decide +kernel
theorem d_md_fit_0 : decode m_md_fit.2.1 0 = .ok (.aload_n 0, 1) := by decide +kernel
theorem d_md_fit_1 : decode m_md_fit.2.1 1 = .ok (.getfield 31, 3) := by decide +kernel
theorem d_md_fit_4 : decode m_md_fit.2.1 4 = .ok (.iload_n 1, 1) := by decide +kernel
theorem d_md_fit_5 : decode m_md_fit.2.1 5 = .ok (.baload, 1) := by decide +kernel
theorem d_md_fit_6 : decode m_md_fit.2.1 6 = .ok (.ifCond .ne (16), 3) := by decide +kernel
theorem d_md_fit_9 : decode m_md_fit.2.1 9 = .ok (.aload_n 0, 1) := by decide +kernel
theorem d_md_fit_10 : decode m_md_fit.2.1 10 = .ok (.getfield 35, 3) := by decide +kernel
theorem d_md_fit_13 : decode m_md_fit.2.1 13 = .ok (.iload_n 1, 1) := by decide +kernel
theorem d_md_fit_14 : decode m_md_fit.2.1 14 = .ok (.baload, 1) := by decide +kernel
theorem d_md_fit_15 : decode m_md_fit.2.1 15 = .ok (.ifCond .ne (7), 3) := by decide +kernel
theorem d_md_fit_18 : decode m_md_fit.2.1 18 = .ok (.iconst 1, 1) := by decide +kernel
theorem d_md_fit_19 : decode m_md_fit.2.1 19 = .ok (.goto 4, 3) := by decide +kernel
theorem d_md_fit_22 : decode m_md_fit.2.1 22 = .ok (.iconst 0, 1) := by decide +kernel
theorem d_md_fit_23 : decode m_md_fit.2.1 23 = .ok (.ireturn, 1) := by decide +kernel
theorem d_md_quorum_0 : decode m_md_quorum.2.1 0 = .ok (.iconst 0, 1) := by decide +kernel
theorem d_md_quorum_1 : decode m_md_quorum.2.1 1 = .ok (.istore_n 1, 1) := by decide +kernel
theorem d_md_quorum_2 : decode m_md_quorum.2.1 2 = .ok (.iconst 0, 1) := by decide +kernel
theorem d_md_quorum_3 : decode m_md_quorum.2.1 3 = .ok (.istore_n 2, 1) := by decide +kernel
theorem d_md_quorum_4 : decode m_md_quorum.2.1 4 = .ok (.iload_n 2, 1) := by decide +kernel
theorem d_md_quorum_5 : decode m_md_quorum.2.1 5 = .ok (.iconst 3, 1) := by decide +kernel
theorem d_md_quorum_6 : decode m_md_quorum.2.1 6 = .ok (.if_icmp .ge (25), 3) := by decide +kernel
theorem d_md_quorum_9 : decode m_md_quorum.2.1 9 = .ok (.iload_n 1, 1) := by decide +kernel
theorem d_md_quorum_10 : decode m_md_quorum.2.1 10 = .ok (.aload_n 0, 1) := by decide +kernel
theorem d_md_quorum_11 : decode m_md_quorum.2.1 11 = .ok (.iload_n 2, 1) := by decide +kernel
theorem d_md_quorum_12 : decode m_md_quorum.2.1 12 = .ok (.invokevirtual 112, 3) := by decide +kernel
theorem d_md_quorum_15 : decode m_md_quorum.2.1 15 = .ok (.ifCond .eq (7), 3) := by decide +kernel
theorem d_md_quorum_18 : decode m_md_quorum.2.1 18 = .ok (.iconst 1, 1) := by decide +kernel
theorem d_md_quorum_19 : decode m_md_quorum.2.1 19 = .ok (.goto 4, 3) := by decide +kernel
theorem d_md_quorum_22 : decode m_md_quorum.2.1 22 = .ok (.iconst 0, 1) := by decide +kernel
theorem d_md_quorum_23 : decode m_md_quorum.2.1 23 = .ok (.iadd, 1) := by decide +kernel
theorem d_md_quorum_24 : decode m_md_quorum.2.1 24 = .ok (.istore_n 1, 1) := by decide +kernel
theorem d_md_quorum_25 : decode m_md_quorum.2.1 25 = .ok (.iinc 2 1, 3) := by decide +kernel
theorem d_md_quorum_28 : decode m_md_quorum.2.1 28 = .ok (.goto (-24), 3) := by decide +kernel
theorem d_md_quorum_31 : decode m_md_quorum.2.1 31 = .ok (.iload_n 1, 1) := by decide +kernel
theorem d_md_quorum_32 : decode m_md_quorum.2.1 32 = .ok (.iconst 1, 1) := by decide +kernel
theorem d_md_quorum_33 : decode m_md_quorum.2.1 33 = .ok (.if_icmp .le (7), 3) := by decide +kernel
theorem d_md_quorum_36 : decode m_md_quorum.2.1 36 = .ok (.iconst 1, 1) := by decide +kernel
theorem d_md_quorum_37 : decode m_md_quorum.2.1 37 = .ok (.goto 4, 3) := by decide +kernel
theorem d_md_quorum_40 : decode m_md_quorum.2.1 40 = .ok (.iconst 0, 1) := by decide +kernel
theorem d_md_quorum_41 : decode m_md_quorum.2.1 41 = .ok (.ireturn, 1) := by decide +kernel
theorem d_md_end_0 : decode m_md_end.2.1 0 = .ok (.iconst 0, 1) := by decide +kernel
theorem d_md_end_1 : decode m_md_end.2.1 1 = .ok (.istore_n 2, 1) := by decide +kernel
theorem d_md_end_2 : decode m_md_end.2.1 2 = .ok (.iload_n 2, 1) := by decide +kernel
theorem d_md_end_3 : decode m_md_end.2.1 3 = .ok (.iconst 4, 1) := by decide +kernel
theorem d_md_end_4 : decode m_md_end.2.1 4 = .ok (.if_icmp .ge (55), 3) := by decide +kernel
theorem d_md_end_7 : decode m_md_end.2.1 7 = .ok (.aload_n 0, 1) := by decide +kernel
theorem d_md_end_8 : decode m_md_end.2.1 8 = .ok (.getfield 45, 3) := by decide +kernel
theorem d_md_end_11 : decode m_md_end.2.1 11 = .ok (.iload_n 2, 1) := by decide +kernel
theorem d_md_end_12 : decode m_md_end.2.1 12 = .ok (.baload, 1) := by decide +kernel
theorem d_md_end_13 : decode m_md_end.2.1 13 = .ok (.ifCond .eq (40), 3) := by decide +kernel
theorem d_md_end_16 : decode m_md_end.2.1 16 = .ok (.aload_n 0, 1) := by decide +kernel
theorem d_md_end_17 : decode m_md_end.2.1 17 = .ok (.invokevirtual 118, 3) := by decide +kernel
theorem d_md_end_20 : decode m_md_end.2.1 20 = .ok (.ifCond .ne (6), 3) := by decide +kernel
theorem d_md_end_23 : decode m_md_end.2.1 23 = .ok (.goto 30, 3) := by decide +kernel
theorem d_md_end_26 : decode m_md_end.2.1 26 = .ok (.aload_n 0, 1) := by decide +kernel
theorem d_md_end_27 : decode m_md_end.2.1 27 = .ok (.invokevirtual 128, 3) := by decide +kernel
theorem d_md_end_30 : decode m_md_end.2.1 30 = .ok (.aload_n 0, 1) := by decide +kernel
theorem d_md_end_31 : decode m_md_end.2.1 31 = .ok (.getfield 45, 3) := by decide +kernel
theorem d_md_end_34 : decode m_md_end.2.1 34 = .ok (.iload_n 2, 1) := by decide +kernel
theorem d_md_end_35 : decode m_md_end.2.1 35 = .ok (.iconst 0, 1) := by decide +kernel
theorem d_md_end_36 : decode m_md_end.2.1 36 = .ok (.bastore, 1) := by decide +kernel
theorem d_md_end_37 : decode m_md_end.2.1 37 = .ok (.aload_n 0, 1) := by decide +kernel
theorem d_md_end_38 : decode m_md_end.2.1 38 = .ok (.iload_n 2, 1) := by decide +kernel
theorem d_md_end_39 : decode m_md_end.2.1 39 = .ok (.invokevirtual 131, 3) := by decide +kernel
theorem d_md_end_42 : decode m_md_end.2.1 42 = .ok (.ifCond .le (11), 3) := by decide +kernel
theorem d_md_end_45 : decode m_md_end.2.1 45 = .ok (.aload_n 0, 1) := by decide +kernel
theorem d_md_end_46 : decode m_md_end.2.1 46 = .ok (.iconst 4, 1) := by decide +kernel
theorem d_md_end_47 : decode m_md_end.2.1 47 = .ok (.iconst 0, 1) := by decide +kernel
theorem d_md_end_48 : decode m_md_end.2.1 48 = .ok (.iconst 0, 1) := by decide +kernel
theorem d_md_end_49 : decode m_md_end.2.1 49 = .ok (.iload_n 2, 1) := by decide +kernel
theorem d_md_end_50 : decode m_md_end.2.1 50 = .ok (.invokevirtual 134, 3) := by decide +kernel
theorem d_md_end_53 : decode m_md_end.2.1 53 = .ok (.iinc 2 1, 3) := by decide +kernel
theorem d_md_end_56 : decode m_md_end.2.1 56 = .ok (.goto (-54), 3) := by decide +kernel
theorem d_md_end_59 : decode m_md_end.2.1 59 = .ok (.iload_n 1, 1) := by decide +kernel
theorem d_md_end_60 : decode m_md_end.2.1 60 = .ok (.ireturn, 1) := by decide +kernel
theorem d_md_planned_0 : decode m_md_planned.2.1 0 = .ok (.aload_n 0, 1) := by decide +kernel
theorem d_md_planned_1 : decode m_md_planned.2.1 1 = .ok (.aload_n 0, 1) := by decide +kernel
theorem d_md_planned_2 : decode m_md_planned.2.1 2 = .ok (.getfield 105, 3) := by decide +kernel
theorem d_md_planned_5 : decode m_md_planned.2.1 5 = .ok (.aload_n 0, 1) := by decide +kernel
theorem d_md_planned_6 : decode m_md_planned.2.1 6 = .ok (.getfield 22, 3) := by decide +kernel
theorem d_md_planned_9 : decode m_md_planned.2.1 9 = .ok (.aload_n 0, 1) := by decide +kernel
theorem d_md_planned_10 : decode m_md_planned.2.1 10 = .ok (.getfield 105, 3) := by decide +kernel
theorem d_md_planned_13 : decode m_md_planned.2.1 13 = .ok (.iaload, 1) := by decide +kernel
theorem d_md_planned_14 : decode m_md_planned.2.1 14 = .ok (.invokevirtual 122, 3) := by decide +kernel
theorem d_md_planned_17 : decode m_md_planned.2.1 17 = .ok (.return_, 1) := by decide +kernel
theorem d_md_grow_0 : decode m_md_grow.2.1 0 = .ok (.aload_n 0, 1) := by decide +kernel
theorem d_md_grow_1 : decode m_md_grow.2.1 1 = .ok (.invokevirtual 95, 3) := by decide +kernel
theorem d_md_grow_4 : decode m_md_grow.2.1 4 = .ok (.iconst 0, 1) := by decide +kernel
theorem d_md_grow_5 : decode m_md_grow.2.1 5 = .ok (.istore_n 3, 1) := by decide +kernel
theorem d_md_grow_6 : decode m_md_grow.2.1 6 = .ok (.iload_n 3, 1) := by decide +kernel
theorem d_md_grow_7 : decode m_md_grow.2.1 7 = .ok (.iload_n 2, 1) := by decide +kernel
theorem d_md_grow_8 : decode m_md_grow.2.1 8 = .ok (.if_icmp .ge (20), 3) := by decide +kernel
theorem d_md_grow_11 : decode m_md_grow.2.1 11 = .ok (.aload_n 0, 1) := by decide +kernel
theorem d_md_grow_12 : decode m_md_grow.2.1 12 = .ok (.bipush 80, 2) := by decide +kernel
theorem d_md_grow_14 : decode m_md_grow.2.1 14 = .ok (.iload_n 1, 1) := by decide +kernel
theorem d_md_grow_15 : decode m_md_grow.2.1 15 = .ok (.imul, 1) := by decide +kernel
theorem d_md_grow_16 : decode m_md_grow.2.1 16 = .ok (.iload_n 3, 1) := by decide +kernel
theorem d_md_grow_17 : decode m_md_grow.2.1 17 = .ok (.iadd, 1) := by decide +kernel
theorem d_md_grow_18 : decode m_md_grow.2.1 18 = .ok (.iconst (-1), 1) := by decide +kernel
theorem d_md_grow_19 : decode m_md_grow.2.1 19 = .ok (.invokevirtual 98, 3) := by decide +kernel
theorem d_md_grow_22 : decode m_md_grow.2.1 22 = .ok (.iinc 3 1, 3) := by decide +kernel
theorem d_md_grow_25 : decode m_md_grow.2.1 25 = .ok (.goto (-19), 3) := by decide +kernel
theorem d_md_grow_28 : decode m_md_grow.2.1 28 = .ok (.return_, 1) := by decide +kernel
theorem d_md_plant_0 : decode m_md_plant.2.1 0 = .ok (.iconst 0, 1) := by decide +kernel
theorem d_md_plant_1 : decode m_md_plant.2.1 1 = .ok (.istore_n 1, 1) := by decide +kernel
theorem d_md_plant_2 : decode m_md_plant.2.1 2 = .ok (.iload_n 1, 1) := by decide +kernel
theorem d_md_plant_3 : decode m_md_plant.2.1 3 = .ok (.sipush 259, 3) := by decide +kernel
theorem d_md_plant_6 : decode m_md_plant.2.1 6 = .ok (.if_icmp .ge (24), 3) := by decide +kernel
theorem d_md_plant_9 : decode m_md_plant.2.1 9 = .ok (.aload_n 0, 1) := by decide +kernel
theorem d_md_plant_10 : decode m_md_plant.2.1 10 = .ok (.getfield 69, 3) := by decide +kernel
theorem d_md_plant_13 : decode m_md_plant.2.1 13 = .ok (.iload_n 1, 1) := by decide +kernel
theorem d_md_plant_14 : decode m_md_plant.2.1 14 = .ok (.iload_n 1, 1) := by decide +kernel
theorem d_md_plant_15 : decode m_md_plant.2.1 15 = .ok (.ifCond .ne (7), 3) := by decide +kernel
theorem d_md_plant_18 : decode m_md_plant.2.1 18 = .ok (.iconst 1, 1) := by decide +kernel
theorem d_md_plant_19 : decode m_md_plant.2.1 19 = .ok (.goto 4, 3) := by decide +kernel
theorem d_md_plant_22 : decode m_md_plant.2.1 22 = .ok (.iconst 0, 1) := by decide +kernel
theorem d_md_plant_23 : decode m_md_plant.2.1 23 = .ok (.bastore, 1) := by decide +kernel
theorem d_md_plant_24 : decode m_md_plant.2.1 24 = .ok (.iinc 1 1, 3) := by decide +kernel
theorem d_md_plant_27 : decode m_md_plant.2.1 27 = .ok (.goto (-25), 3) := by decide +kernel
theorem d_md_plant_30 : decode m_md_plant.2.1 30 = .ok (.aload_n 0, 1) := by decide +kernel
theorem d_md_plant_31 : decode m_md_plant.2.1 31 = .ok (.getfield 72, 3) := by decide +kernel
theorem d_md_plant_34 : decode m_md_plant.2.1 34 = .ok (.iconst 0, 1) := by decide +kernel
theorem d_md_plant_35 : decode m_md_plant.2.1 35 = .ok (.iconst 0, 1) := by decide +kernel
theorem d_md_plant_36 : decode m_md_plant.2.1 36 = .ok (.iastore, 1) := by decide +kernel
theorem d_md_plant_37 : decode m_md_plant.2.1 37 = .ok (.aload_n 0, 1) := by decide +kernel
theorem d_md_plant_38 : decode m_md_plant.2.1 38 = .ok (.getfield 75, 3) := by decide +kernel
theorem d_md_plant_41 : decode m_md_plant.2.1 41 = .ok (.iconst 0, 1) := by decide +kernel
theorem d_md_plant_42 : decode m_md_plant.2.1 42 = .ok (.iconst 0, 1) := by decide +kernel
theorem d_md_plant_43 : decode m_md_plant.2.1 43 = .ok (.iastore, 1) := by decide +kernel
theorem d_md_plant_44 : decode m_md_plant.2.1 44 = .ok (.aload_n 0, 1) := by decide +kernel
theorem d_md_plant_45 : decode m_md_plant.2.1 45 = .ok (.getfield 78, 3) := by decide +kernel
theorem d_md_plant_48 : decode m_md_plant.2.1 48 = .ok (.iconst 0, 1) := by decide +kernel
theorem d_md_plant_49 : decode m_md_plant.2.1 49 = .ok (.iconst 0, 1) := by decide +kernel
theorem d_md_plant_50 : decode m_md_plant.2.1 50 = .ok (.iastore, 1) := by decide +kernel
theorem d_md_plant_51 : decode m_md_plant.2.1 51 = .ok (.aload_n 0, 1) := by decide +kernel
theorem d_md_plant_52 : decode m_md_plant.2.1 52 = .ok (.getfield 81, 3) := by decide +kernel
theorem d_md_plant_55 : decode m_md_plant.2.1 55 = .ok (.iconst 0, 1) := by decide +kernel
theorem d_md_plant_56 : decode m_md_plant.2.1 56 = .ok (.iconst (-1), 1) := by decide +kernel
theorem d_md_plant_57 : decode m_md_plant.2.1 57 = .ok (.iastore, 1) := by decide +kernel
theorem d_md_plant_58 : decode m_md_plant.2.1 58 = .ok (.return_, 1) := by decide +kernel
theorem d_md_done_0 : decode m_md_done.2.1 0 = .ok (.aload_n 0, 1) := by decide +kernel
theorem d_md_done_1 : decode m_md_done.2.1 1 = .ok (.getfield 13, 3) := by decide +kernel
theorem d_md_done_4 : decode m_md_done.2.1 4 = .ok (.iload_n 1, 1) := by decide +kernel
theorem d_md_done_5 : decode m_md_done.2.1 5 = .ok (.iaload, 1) := by decide +kernel
theorem d_md_done_6 : decode m_md_done.2.1 6 = .ok (.istore_n 3, 1) := by decide +kernel
theorem d_md_done_7 : decode m_md_done.2.1 7 = .ok (.aload_n 0, 1) := by decide +kernel
theorem d_md_done_8 : decode m_md_done.2.1 8 = .ok (.getfield 7, 3) := by decide +kernel
theorem d_md_done_11 : decode m_md_done.2.1 11 = .ok (.iload_n 1, 1) := by decide +kernel
theorem d_md_done_12 : decode m_md_done.2.1 12 = .ok (.iaload, 1) := by decide +kernel
theorem d_md_done_13 : decode m_md_done.2.1 13 = .ok (.iconst 2, 1) := by decide +kernel
theorem d_md_done_14 : decode m_md_done.2.1 14 = .ok (.if_icmp .ge (86), 3) := by decide +kernel
theorem d_md_done_17 : decode m_md_done.2.1 17 = .ok (.aload_n 0, 1) := by decide +kernel
theorem d_md_done_18 : decode m_md_done.2.1 18 = .ok (.getfield 69, 3) := by decide +kernel
theorem d_md_done_21 : decode m_md_done.2.1 21 = .ok (.iload_n 3, 1) := by decide +kernel
theorem d_md_done_22 : decode m_md_done.2.1 22 = .ok (.iconst 1, 1) := by decide +kernel
theorem d_md_done_23 : decode m_md_done.2.1 23 = .ok (.bastore, 1) := by decide +kernel
theorem d_md_done_24 : decode m_md_done.2.1 24 = .ok (.aload_n 0, 1) := by decide +kernel
theorem d_md_done_25 : decode m_md_done.2.1 25 = .ok (.getfield 72, 3) := by decide +kernel
theorem d_md_done_28 : decode m_md_done.2.1 28 = .ok (.iload_n 3, 1) := by decide +kernel
theorem d_md_done_29 : decode m_md_done.2.1 29 = .ok (.aload_n 0, 1) := by decide +kernel
theorem d_md_done_30 : decode m_md_done.2.1 30 = .ok (.getfield 16, 3) := by decide +kernel
theorem d_md_done_33 : decode m_md_done.2.1 33 = .ok (.iload_n 1, 1) := by decide +kernel
theorem d_md_done_34 : decode m_md_done.2.1 34 = .ok (.iaload, 1) := by decide +kernel
theorem d_md_done_35 : decode m_md_done.2.1 35 = .ok (.iastore, 1) := by decide +kernel
theorem d_md_done_36 : decode m_md_done.2.1 36 = .ok (.aload_n 0, 1) := by decide +kernel
theorem d_md_done_37 : decode m_md_done.2.1 37 = .ok (.getfield 75, 3) := by decide +kernel
theorem d_md_done_40 : decode m_md_done.2.1 40 = .ok (.iload_n 3, 1) := by decide +kernel
theorem d_md_done_41 : decode m_md_done.2.1 41 = .ok (.iconst 0, 1) := by decide +kernel
theorem d_md_done_42 : decode m_md_done.2.1 42 = .ok (.iastore, 1) := by decide +kernel
theorem d_md_done_43 : decode m_md_done.2.1 43 = .ok (.aload_n 0, 1) := by decide +kernel
theorem d_md_done_44 : decode m_md_done.2.1 44 = .ok (.getfield 78, 3) := by decide +kernel
theorem d_md_done_47 : decode m_md_done.2.1 47 = .ok (.iload_n 3, 1) := by decide +kernel
theorem d_md_done_48 : decode m_md_done.2.1 48 = .ok (.iconst 0, 1) := by decide +kernel
theorem d_md_done_49 : decode m_md_done.2.1 49 = .ok (.iastore, 1) := by decide +kernel
theorem d_md_done_50 : decode m_md_done.2.1 50 = .ok (.aload_n 0, 1) := by decide +kernel
theorem d_md_done_51 : decode m_md_done.2.1 51 = .ok (.getfield 81, 3) := by decide +kernel
theorem d_md_done_54 : decode m_md_done.2.1 54 = .ok (.iload_n 3, 1) := by decide +kernel
theorem d_md_done_55 : decode m_md_done.2.1 55 = .ok (.aload_n 0, 1) := by decide +kernel
theorem d_md_done_56 : decode m_md_done.2.1 56 = .ok (.getfield 19, 3) := by decide +kernel
theorem d_md_done_59 : decode m_md_done.2.1 59 = .ok (.iload_n 1, 1) := by decide +kernel
theorem d_md_done_60 : decode m_md_done.2.1 60 = .ok (.iaload, 1) := by decide +kernel
theorem d_md_done_61 : decode m_md_done.2.1 61 = .ok (.iastore, 1) := by decide +kernel
theorem d_md_done_62 : decode m_md_done.2.1 62 = .ok (.aload_n 0, 1) := by decide +kernel
theorem d_md_done_63 : decode m_md_done.2.1 63 = .ok (.getfield 7, 3) := by decide +kernel
theorem d_md_done_66 : decode m_md_done.2.1 66 = .ok (.iload_n 1, 1) := by decide +kernel
theorem d_md_done_67 : decode m_md_done.2.1 67 = .ok (.iaload, 1) := by decide +kernel
theorem d_md_done_68 : decode m_md_done.2.1 68 = .ok (.iconst 1, 1) := by decide +kernel
theorem d_md_done_69 : decode m_md_done.2.1 69 = .ok (.if_icmp .ne (21), 3) := by decide +kernel
theorem d_md_done_72 : decode m_md_done.2.1 72 = .ok (.aload_n 0, 1) := by decide +kernel
theorem d_md_done_73 : decode m_md_done.2.1 73 = .ok (.getfield 78, 3) := by decide +kernel
theorem d_md_done_76 : decode m_md_done.2.1 76 = .ok (.aload_n 0, 1) := by decide +kernel
theorem d_md_done_77 : decode m_md_done.2.1 77 = .ok (.iload_n 3, 1) := by decide +kernel
theorem d_md_done_78 : decode m_md_done.2.1 78 = .ok (.invokevirtual 87, 3) := by decide +kernel
theorem d_md_done_81 : decode m_md_done.2.1 81 = .ok (.iload_n 3, 1) := by decide +kernel
theorem d_md_done_82 : decode m_md_done.2.1 82 = .ok (.iconst 1, 1) := by decide +kernel
theorem d_md_done_83 : decode m_md_done.2.1 83 = .ok (.isub, 1) := by decide +kernel
theorem d_md_done_84 : decode m_md_done.2.1 84 = .ok (.bipush 6, 2) := by decide +kernel
theorem d_md_done_86 : decode m_md_done.2.1 86 = .ok (.irem, 1) := by decide +kernel
theorem d_md_done_87 : decode m_md_done.2.1 87 = .ok (.iconst 1, 1) := by decide +kernel
theorem d_md_done_88 : decode m_md_done.2.1 88 = .ok (.iadd, 1) := by decide +kernel
theorem d_md_done_89 : decode m_md_done.2.1 89 = .ok (.iastore, 1) := by decide +kernel
theorem d_md_done_90 : decode m_md_done.2.1 90 = .ok (.aload_n 0, 1) := by decide +kernel
theorem d_md_done_91 : decode m_md_done.2.1 91 = .ok (.iload_n 2, 1) := by decide +kernel
theorem d_md_done_92 : decode m_md_done.2.1 92 = .ok (.iload_n 3, 1) := by decide +kernel
theorem d_md_done_93 : decode m_md_done.2.1 93 = .ok (.iconst 1, 1) := by decide +kernel
theorem d_md_done_94 : decode m_md_done.2.1 94 = .ok (.invokevirtual 91, 3) := by decide +kernel
theorem d_md_done_97 : decode m_md_done.2.1 97 = .ok (.goto 131, 3) := by decide +kernel
theorem d_md_done_100 : decode m_md_done.2.1 100 = .ok (.aload_n 0, 1) := by decide +kernel
theorem d_md_done_101 : decode m_md_done.2.1 101 = .ok (.getfield 7, 3) := by decide +kernel
theorem d_md_done_104 : decode m_md_done.2.1 104 = .ok (.iload_n 1, 1) := by decide +kernel
theorem d_md_done_105 : decode m_md_done.2.1 105 = .ok (.iaload, 1) := by decide +kernel
theorem d_md_done_106 : decode m_md_done.2.1 106 = .ok (.iconst 2, 1) := by decide +kernel
theorem d_md_done_107 : decode m_md_done.2.1 107 = .ok (.if_icmp .ne (35), 3) := by decide +kernel
theorem d_md_done_110 : decode m_md_done.2.1 110 = .ok (.aload_n 0, 1) := by decide +kernel
theorem d_md_done_111 : decode m_md_done.2.1 111 = .ok (.getfield 72, 3) := by decide +kernel
theorem d_md_done_114 : decode m_md_done.2.1 114 = .ok (.iload_n 3, 1) := by decide +kernel
theorem d_md_done_115 : decode m_md_done.2.1 115 = .ok (.aload_n 0, 1) := by decide +kernel
theorem d_md_done_116 : decode m_md_done.2.1 116 = .ok (.getfield 16, 3) := by decide +kernel
theorem d_md_done_119 : decode m_md_done.2.1 119 = .ok (.iload_n 1, 1) := by decide +kernel
theorem d_md_done_120 : decode m_md_done.2.1 120 = .ok (.iaload, 1) := by decide +kernel
theorem d_md_done_121 : decode m_md_done.2.1 121 = .ok (.iastore, 1) := by decide +kernel
theorem d_md_done_122 : decode m_md_done.2.1 122 = .ok (.aload_n 0, 1) := by decide +kernel
theorem d_md_done_123 : decode m_md_done.2.1 123 = .ok (.getfield 75, 3) := by decide +kernel
theorem d_md_done_126 : decode m_md_done.2.1 126 = .ok (.iload_n 3, 1) := by decide +kernel
theorem d_md_done_127 : decode m_md_done.2.1 127 = .ok (.dup2, 1) := by decide +kernel
theorem d_md_done_128 : decode m_md_done.2.1 128 = .ok (.iaload, 1) := by decide +kernel
theorem d_md_done_129 : decode m_md_done.2.1 129 = .ok (.iconst 1, 1) := by decide +kernel
theorem d_md_done_130 : decode m_md_done.2.1 130 = .ok (.iadd, 1) := by decide +kernel
theorem d_md_done_131 : decode m_md_done.2.1 131 = .ok (.iastore, 1) := by decide +kernel
theorem d_md_done_132 : decode m_md_done.2.1 132 = .ok (.aload_n 0, 1) := by decide +kernel
theorem d_md_done_133 : decode m_md_done.2.1 133 = .ok (.iload_n 2, 1) := by decide +kernel
theorem d_md_done_134 : decode m_md_done.2.1 134 = .ok (.iload_n 3, 1) := by decide +kernel
theorem d_md_done_135 : decode m_md_done.2.1 135 = .ok (.iconst 2, 1) := by decide +kernel
theorem d_md_done_136 : decode m_md_done.2.1 136 = .ok (.invokevirtual 91, 3) := by decide +kernel
theorem d_md_done_139 : decode m_md_done.2.1 139 = .ok (.goto 89, 3) := by decide +kernel
theorem d_md_done_142 : decode m_md_done.2.1 142 = .ok (.aload_n 0, 1) := by decide +kernel
theorem d_md_done_143 : decode m_md_done.2.1 143 = .ok (.getfield 7, 3) := by decide +kernel
theorem d_md_done_146 : decode m_md_done.2.1 146 = .ok (.iload_n 1, 1) := by decide +kernel
theorem d_md_done_147 : decode m_md_done.2.1 147 = .ok (.iaload, 1) := by decide +kernel
theorem d_md_done_148 : decode m_md_done.2.1 148 = .ok (.iconst 3, 1) := by decide +kernel
theorem d_md_done_149 : decode m_md_done.2.1 149 = .ok (.if_icmp .ne (20), 3) := by decide +kernel
theorem d_md_done_152 : decode m_md_done.2.1 152 = .ok (.aload_n 0, 1) := by decide +kernel
theorem d_md_done_153 : decode m_md_done.2.1 153 = .ok (.getfield 69, 3) := by decide +kernel
theorem d_md_done_156 : decode m_md_done.2.1 156 = .ok (.iload_n 3, 1) := by decide +kernel
theorem d_md_done_157 : decode m_md_done.2.1 157 = .ok (.iconst 0, 1) := by decide +kernel
theorem d_md_done_158 : decode m_md_done.2.1 158 = .ok (.bastore, 1) := by decide +kernel
theorem d_md_done_159 : decode m_md_done.2.1 159 = .ok (.aload_n 0, 1) := by decide +kernel
theorem d_md_done_160 : decode m_md_done.2.1 160 = .ok (.iload_n 2, 1) := by decide +kernel
theorem d_md_done_161 : decode m_md_done.2.1 161 = .ok (.iload_n 3, 1) := by decide +kernel
theorem d_md_done_162 : decode m_md_done.2.1 162 = .ok (.iconst 3, 1) := by decide +kernel
theorem d_md_done_163 : decode m_md_done.2.1 163 = .ok (.invokevirtual 91, 3) := by decide +kernel
theorem d_md_done_166 : decode m_md_done.2.1 166 = .ok (.goto 62, 3) := by decide +kernel
theorem d_md_done_169 : decode m_md_done.2.1 169 = .ok (.iconst 1, 1) := by decide +kernel
theorem d_md_done_170 : decode m_md_done.2.1 170 = .ok (.istore 4, 2) := by decide +kernel
theorem d_md_done_172 : decode m_md_done.2.1 172 = .ok (.iload 4, 2) := by decide +kernel
theorem d_md_done_174 : decode m_md_done.2.1 174 = .ok (.sipush 259, 3) := by decide +kernel
theorem d_md_done_177 : decode m_md_done.2.1 177 = .ok (.if_icmp .ge (51), 3) := by decide +kernel
theorem d_md_done_180 : decode m_md_done.2.1 180 = .ok (.aload_n 0, 1) := by decide +kernel
theorem d_md_done_181 : decode m_md_done.2.1 181 = .ok (.getfield 69, 3) := by decide +kernel
theorem d_md_done_184 : decode m_md_done.2.1 184 = .ok (.iload 4, 2) := by decide +kernel
theorem d_md_done_186 : decode m_md_done.2.1 186 = .ok (.baload, 1) := by decide +kernel
theorem d_md_done_187 : decode m_md_done.2.1 187 = .ok (.ifCond .eq (35), 3) := by decide +kernel
theorem d_md_done_190 : decode m_md_done.2.1 190 = .ok (.aload_n 0, 1) := by decide +kernel
theorem d_md_done_191 : decode m_md_done.2.1 191 = .ok (.getfield 81, 3) := by decide +kernel
theorem d_md_done_194 : decode m_md_done.2.1 194 = .ok (.iload 4, 2) := by decide +kernel
theorem d_md_done_196 : decode m_md_done.2.1 196 = .ok (.iaload, 1) := by decide +kernel
theorem d_md_done_197 : decode m_md_done.2.1 197 = .ok (.aload_n 0, 1) := by decide +kernel
theorem d_md_done_198 : decode m_md_done.2.1 198 = .ok (.getfield 19, 3) := by decide +kernel
theorem d_md_done_201 : decode m_md_done.2.1 201 = .ok (.iload_n 1, 1) := by decide +kernel
theorem d_md_done_202 : decode m_md_done.2.1 202 = .ok (.iaload, 1) := by decide +kernel
theorem d_md_done_203 : decode m_md_done.2.1 203 = .ok (.if_icmp .ne (19), 3) := by decide +kernel
theorem d_md_done_206 : decode m_md_done.2.1 206 = .ok (.aload_n 0, 1) := by decide +kernel
theorem d_md_done_207 : decode m_md_done.2.1 207 = .ok (.getfield 69, 3) := by decide +kernel
theorem d_md_done_210 : decode m_md_done.2.1 210 = .ok (.iload 4, 2) := by decide +kernel
theorem d_md_done_212 : decode m_md_done.2.1 212 = .ok (.iconst 0, 1) := by decide +kernel
theorem d_md_done_213 : decode m_md_done.2.1 213 = .ok (.bastore, 1) := by decide +kernel
theorem d_md_done_214 : decode m_md_done.2.1 214 = .ok (.aload_n 0, 1) := by decide +kernel
theorem d_md_done_215 : decode m_md_done.2.1 215 = .ok (.iload_n 2, 1) := by decide +kernel
theorem d_md_done_216 : decode m_md_done.2.1 216 = .ok (.iload 4, 2) := by decide +kernel
theorem d_md_done_218 : decode m_md_done.2.1 218 = .ok (.iconst 3, 1) := by decide +kernel
theorem d_md_done_219 : decode m_md_done.2.1 219 = .ok (.invokevirtual 91, 3) := by decide +kernel
theorem d_md_done_222 : decode m_md_done.2.1 222 = .ok (.iinc 4 1, 3) := by decide +kernel
theorem d_md_done_225 : decode m_md_done.2.1 225 = .ok (.goto (-53), 3) := by decide +kernel
theorem d_md_done_228 : decode m_md_done.2.1 228 = .ok (.return_, 1) := by decide +kernel
theorem d_md_parent_0 : decode m_md_parent.2.1 0 = .ok (.iload_n 1, 1) := by decide +kernel
theorem d_md_parent_1 : decode m_md_parent.2.1 1 = .ok (.iconst 1, 1) := by decide +kernel
theorem d_md_parent_2 : decode m_md_parent.2.1 2 = .ok (.isub, 1) := by decide +kernel
theorem d_md_parent_3 : decode m_md_parent.2.1 3 = .ok (.bipush 6, 2) := by decide +kernel
theorem d_md_parent_5 : decode m_md_parent.2.1 5 = .ok (.idiv, 1) := by decide +kernel
theorem d_md_parent_6 : decode m_md_parent.2.1 6 = .ok (.ireturn, 1) := by decide +kernel
theorem d_md_tell_0 : decode m_md_tell.2.1 0 = .ok (.iconst 0, 1) := by decide +kernel
theorem d_md_tell_1 : decode m_md_tell.2.1 1 = .ok (.istore 4, 2) := by decide +kernel
theorem d_md_tell_3 : decode m_md_tell.2.1 3 = .ok (.iload 4, 2) := by decide +kernel
theorem d_md_tell_5 : decode m_md_tell.2.1 5 = .ok (.iconst 4, 1) := by decide +kernel
theorem d_md_tell_6 : decode m_md_tell.2.1 6 = .ok (.if_icmp .ge (174), 3) := by decide +kernel
theorem d_md_tell_9 : decode m_md_tell.2.1 9 = .ok (.aload_n 0, 1) := by decide +kernel
theorem d_md_tell_10 : decode m_md_tell.2.1 10 = .ok (.getfield 42, 3) := by decide +kernel
theorem d_md_tell_13 : decode m_md_tell.2.1 13 = .ok (.iload 4, 2) := by decide +kernel
theorem d_md_tell_15 : decode m_md_tell.2.1 15 = .ok (.baload, 1) := by decide +kernel
theorem d_md_tell_16 : decode m_md_tell.2.1 16 = .ok (.ifCond .eq (158), 3) := by decide +kernel
theorem d_md_tell_19 : decode m_md_tell.2.1 19 = .ok (.aload_n 0, 1) := by decide +kernel
theorem d_md_tell_20 : decode m_md_tell.2.1 20 = .ok (.getfield 48, 3) := by decide +kernel
theorem d_md_tell_23 : decode m_md_tell.2.1 23 = .ok (.iload 4, 2) := by decide +kernel
theorem d_md_tell_25 : decode m_md_tell.2.1 25 = .ok (.iaload, 1) := by decide +kernel
theorem d_md_tell_26 : decode m_md_tell.2.1 26 = .ok (.iload_n 1, 1) := by decide +kernel
theorem d_md_tell_27 : decode m_md_tell.2.1 27 = .ok (.if_icmp .eq (6), 3) := by decide +kernel
theorem d_md_tell_30 : decode m_md_tell.2.1 30 = .ok (.goto 144, 3) := by decide +kernel
theorem d_md_tell_33 : decode m_md_tell.2.1 33 = .ok (.sipush 259, 3) := by decide +kernel
theorem d_md_tell_36 : decode m_md_tell.2.1 36 = .ok (.iload 4, 2) := by decide +kernel
theorem d_md_tell_38 : decode m_md_tell.2.1 38 = .ok (.imul, 1) := by decide +kernel
theorem d_md_tell_39 : decode m_md_tell.2.1 39 = .ok (.iload_n 2, 1) := by decide +kernel
theorem d_md_tell_40 : decode m_md_tell.2.1 40 = .ok (.iadd, 1) := by decide +kernel
theorem d_md_tell_41 : decode m_md_tell.2.1 41 = .ok (.istore 5, 2) := by decide +kernel
theorem d_md_tell_43 : decode m_md_tell.2.1 43 = .ok (.aload_n 0, 1) := by decide +kernel
theorem d_md_tell_44 : decode m_md_tell.2.1 44 = .ok (.getfield 57, 3) := by decide +kernel
theorem d_md_tell_47 : decode m_md_tell.2.1 47 = .ok (.iload 5, 2) := by decide +kernel
theorem d_md_tell_49 : decode m_md_tell.2.1 49 = .ok (.baload, 1) := by decide +kernel
theorem d_md_tell_50 : decode m_md_tell.2.1 50 = .ok (.istore 6, 2) := by decide +kernel
theorem d_md_tell_52 : decode m_md_tell.2.1 52 = .ok (.iload 6, 2) := by decide +kernel
theorem d_md_tell_54 : decode m_md_tell.2.1 54 = .ok (.ifCond .eq (16), 3) := by decide +kernel
theorem d_md_tell_57 : decode m_md_tell.2.1 57 = .ok (.aload_n 0, 1) := by decide +kernel
theorem d_md_tell_58 : decode m_md_tell.2.1 58 = .ok (.iload 4, 2) := by decide +kernel
theorem d_md_tell_60 : decode m_md_tell.2.1 60 = .ok (.sipush 300, 3) := by decide +kernel
theorem d_md_tell_63 : decode m_md_tell.2.1 63 = .ok (.iload_n 3, 1) := by decide +kernel
theorem d_md_tell_64 : decode m_md_tell.2.1 64 = .ok (.imul, 1) := by decide +kernel
theorem d_md_tell_65 : decode m_md_tell.2.1 65 = .ok (.iload_n 2, 1) := by decide +kernel
theorem d_md_tell_66 : decode m_md_tell.2.1 66 = .ok (.iadd, 1) := by decide +kernel
theorem d_md_tell_67 : decode m_md_tell.2.1 67 = .ok (.invokevirtual 102, 3) := by decide +kernel
theorem d_md_tell_70 : decode m_md_tell.2.1 70 = .ok (.iload_n 3, 1) := by decide +kernel
theorem d_md_tell_71 : decode m_md_tell.2.1 71 = .ok (.iconst 3, 1) := by decide +kernel
theorem d_md_tell_72 : decode m_md_tell.2.1 72 = .ok (.if_icmp .ne (29), 3) := by decide +kernel
theorem d_md_tell_75 : decode m_md_tell.2.1 75 = .ok (.iload 6, 2) := by decide +kernel
theorem d_md_tell_77 : decode m_md_tell.2.1 77 = .ok (.ifCond .ne (24), 3) := by decide +kernel
theorem d_md_tell_80 : decode m_md_tell.2.1 80 = .ok (.aload_n 0, 1) := by decide +kernel
theorem d_md_tell_81 : decode m_md_tell.2.1 81 = .ok (.getfield 60, 3) := by decide +kernel
theorem d_md_tell_84 : decode m_md_tell.2.1 84 = .ok (.iload 5, 2) := by decide +kernel
theorem d_md_tell_86 : decode m_md_tell.2.1 86 = .ok (.baload, 1) := by decide +kernel
theorem d_md_tell_87 : decode m_md_tell.2.1 87 = .ok (.ifCond .eq (14), 3) := by decide +kernel
theorem d_md_tell_90 : decode m_md_tell.2.1 90 = .ok (.aload_n 0, 1) := by decide +kernel
theorem d_md_tell_91 : decode m_md_tell.2.1 91 = .ok (.iload 4, 2) := by decide +kernel
theorem d_md_tell_93 : decode m_md_tell.2.1 93 = .ok (.sipush 900, 3) := by decide +kernel
theorem d_md_tell_96 : decode m_md_tell.2.1 96 = .ok (.iload_n 2, 1) := by decide +kernel
theorem d_md_tell_97 : decode m_md_tell.2.1 97 = .ok (.iadd, 1) := by decide +kernel
theorem d_md_tell_98 : decode m_md_tell.2.1 98 = .ok (.invokevirtual 102, 3) := by decide +kernel
theorem d_md_tell_101 : decode m_md_tell.2.1 101 = .ok (.iload_n 3, 1) := by decide +kernel
theorem d_md_tell_102 : decode m_md_tell.2.1 102 = .ok (.iconst 3, 1) := by decide +kernel
theorem d_md_tell_103 : decode m_md_tell.2.1 103 = .ok (.if_icmp .ne (11), 3) := by decide +kernel
theorem d_md_tell_106 : decode m_md_tell.2.1 106 = .ok (.aload_n 0, 1) := by decide +kernel
theorem d_md_tell_107 : decode m_md_tell.2.1 107 = .ok (.getfield 60, 3) := by decide +kernel
theorem d_md_tell_110 : decode m_md_tell.2.1 110 = .ok (.iload 5, 2) := by decide +kernel
theorem d_md_tell_112 : decode m_md_tell.2.1 112 = .ok (.iconst 0, 1) := by decide +kernel
theorem d_md_tell_113 : decode m_md_tell.2.1 113 = .ok (.bastore, 1) := by decide +kernel
theorem d_md_tell_114 : decode m_md_tell.2.1 114 = .ok (.aload_n 0, 1) := by decide +kernel
theorem d_md_tell_115 : decode m_md_tell.2.1 115 = .ok (.getfield 57, 3) := by decide +kernel
theorem d_md_tell_118 : decode m_md_tell.2.1 118 = .ok (.iload 5, 2) := by decide +kernel
theorem d_md_tell_120 : decode m_md_tell.2.1 120 = .ok (.iconst 0, 1) := by decide +kernel
theorem d_md_tell_121 : decode m_md_tell.2.1 121 = .ok (.bastore, 1) := by decide +kernel
theorem d_md_tell_122 : decode m_md_tell.2.1 122 = .ok (.sipush 259, 3) := by decide +kernel
theorem d_md_tell_125 : decode m_md_tell.2.1 125 = .ok (.iload 4, 2) := by decide +kernel
theorem d_md_tell_127 : decode m_md_tell.2.1 127 = .ok (.imul, 1) := by decide +kernel
theorem d_md_tell_128 : decode m_md_tell.2.1 128 = .ok (.aload_n 0, 1) := by decide +kernel
theorem d_md_tell_129 : decode m_md_tell.2.1 129 = .ok (.iload_n 2, 1) := by decide +kernel
theorem d_md_tell_130 : decode m_md_tell.2.1 130 = .ok (.invokevirtual 87, 3) := by decide +kernel
theorem d_md_tell_133 : decode m_md_tell.2.1 133 = .ok (.iadd, 1) := by decide +kernel
theorem d_md_tell_134 : decode m_md_tell.2.1 134 = .ok (.istore 7, 2) := by decide +kernel
theorem d_md_tell_136 : decode m_md_tell.2.1 136 = .ok (.iload_n 3, 1) := by decide +kernel
theorem d_md_tell_137 : decode m_md_tell.2.1 137 = .ok (.iconst 2, 1) := by decide +kernel
theorem d_md_tell_138 : decode m_md_tell.2.1 138 = .ok (.if_icmp .eq (36), 3) := by decide +kernel
theorem d_md_tell_141 : decode m_md_tell.2.1 141 = .ok (.aload_n 0, 1) := by decide +kernel
theorem d_md_tell_142 : decode m_md_tell.2.1 142 = .ok (.getfield 60, 3) := by decide +kernel
theorem d_md_tell_145 : decode m_md_tell.2.1 145 = .ok (.iload 7, 2) := by decide +kernel
theorem d_md_tell_147 : decode m_md_tell.2.1 147 = .ok (.baload, 1) := by decide +kernel
theorem d_md_tell_148 : decode m_md_tell.2.1 148 = .ok (.ifCond .eq (26), 3) := by decide +kernel
theorem d_md_tell_151 : decode m_md_tell.2.1 151 = .ok (.aload_n 0, 1) := by decide +kernel
theorem d_md_tell_152 : decode m_md_tell.2.1 152 = .ok (.iload 4, 2) := by decide +kernel
theorem d_md_tell_154 : decode m_md_tell.2.1 154 = .ok (.sipush 1200, 3) := by decide +kernel
theorem d_md_tell_157 : decode m_md_tell.2.1 157 = .ok (.aload_n 0, 1) := by decide +kernel
theorem d_md_tell_158 : decode m_md_tell.2.1 158 = .ok (.iload_n 2, 1) := by decide +kernel
theorem d_md_tell_159 : decode m_md_tell.2.1 159 = .ok (.invokevirtual 87, 3) := by decide +kernel
theorem d_md_tell_162 : decode m_md_tell.2.1 162 = .ok (.iadd, 1) := by decide +kernel
theorem d_md_tell_163 : decode m_md_tell.2.1 163 = .ok (.invokevirtual 102, 3) := by decide +kernel
theorem d_md_tell_166 : decode m_md_tell.2.1 166 = .ok (.aload_n 0, 1) := by decide +kernel
theorem d_md_tell_167 : decode m_md_tell.2.1 167 = .ok (.getfield 60, 3) := by decide +kernel
theorem d_md_tell_170 : decode m_md_tell.2.1 170 = .ok (.iload 7, 2) := by decide +kernel
theorem d_md_tell_172 : decode m_md_tell.2.1 172 = .ok (.iconst 0, 1) := by decide +kernel
theorem d_md_tell_173 : decode m_md_tell.2.1 173 = .ok (.bastore, 1) := by decide +kernel
theorem d_md_tell_174 : decode m_md_tell.2.1 174 = .ok (.iinc 4 1, 3) := by decide +kernel
theorem d_md_tell_177 : decode m_md_tell.2.1 177 = .ok (.goto (-174), 3) := by decide +kernel
theorem d_md_tell_180 : decode m_md_tell.2.1 180 = .ok (.return_, 1) := by decide +kernel
theorem d_md_put_0 : decode m_md_put.2.1 0 = .ok (.aload_n 0, 1) := by decide +kernel
theorem d_md_put_1 : decode m_md_put.2.1 1 = .ok (.getfield 66, 3) := by decide +kernel
theorem d_md_put_4 : decode m_md_put.2.1 4 = .ok (.iload_n 1, 1) := by decide +kernel
theorem d_md_put_5 : decode m_md_put.2.1 5 = .ok (.iaload, 1) := by decide +kernel
theorem d_md_put_6 : decode m_md_put.2.1 6 = .ok (.bipush 8, 2) := by decide +kernel
theorem d_md_put_8 : decode m_md_put.2.1 8 = .ok (.if_icmp .ne (4), 3) := by decide +kernel
theorem d_md_put_11 : decode m_md_put.2.1 11 = .ok (.return_, 1) := by decide +kernel
theorem d_md_put_12 : decode m_md_put.2.1 12 = .ok (.aload_n 0, 1) := by decide +kernel
theorem d_md_put_13 : decode m_md_put.2.1 13 = .ok (.getfield 63, 3) := by decide +kernel
theorem d_md_put_16 : decode m_md_put.2.1 16 = .ok (.bipush 8, 2) := by decide +kernel
theorem d_md_put_18 : decode m_md_put.2.1 18 = .ok (.iload_n 1, 1) := by decide +kernel
theorem d_md_put_19 : decode m_md_put.2.1 19 = .ok (.imul, 1) := by decide +kernel
theorem d_md_put_20 : decode m_md_put.2.1 20 = .ok (.aload_n 0, 1) := by decide +kernel
theorem d_md_put_21 : decode m_md_put.2.1 21 = .ok (.getfield 66, 3) := by decide +kernel
theorem d_md_put_24 : decode m_md_put.2.1 24 = .ok (.iload_n 1, 1) := by decide +kernel
theorem d_md_put_25 : decode m_md_put.2.1 25 = .ok (.iaload, 1) := by decide +kernel
theorem d_md_put_26 : decode m_md_put.2.1 26 = .ok (.iadd, 1) := by decide +kernel
theorem d_md_put_27 : decode m_md_put.2.1 27 = .ok (.iload_n 2, 1) := by decide +kernel
theorem d_md_put_28 : decode m_md_put.2.1 28 = .ok (.iastore, 1) := by decide +kernel
theorem d_md_put_29 : decode m_md_put.2.1 29 = .ok (.aload_n 0, 1) := by decide +kernel
theorem d_md_put_30 : decode m_md_put.2.1 30 = .ok (.getfield 66, 3) := by decide +kernel
theorem d_md_put_33 : decode m_md_put.2.1 33 = .ok (.iload_n 1, 1) := by decide +kernel
theorem d_md_put_34 : decode m_md_put.2.1 34 = .ok (.dup2, 1) := by decide +kernel
theorem d_md_put_35 : decode m_md_put.2.1 35 = .ok (.iaload, 1) := by decide +kernel
theorem d_md_put_36 : decode m_md_put.2.1 36 = .ok (.iconst 1, 1) := by decide +kernel
theorem d_md_put_37 : decode m_md_put.2.1 37 = .ok (.iadd, 1) := by decide +kernel
theorem d_md_put_38 : decode m_md_put.2.1 38 = .ok (.iastore, 1) := by decide +kernel
theorem d_md_put_39 : decode m_md_put.2.1 39 = .ok (.return_, 1) := by decide +kernel
theorem d_md_owned_0 : decode m_md_owned.2.1 0 = .ok (.iconst 0, 1) := by decide +kernel
theorem d_md_owned_1 : decode m_md_owned.2.1 1 = .ok (.istore_n 2, 1) := by decide +kernel
theorem d_md_owned_2 : decode m_md_owned.2.1 2 = .ok (.iconst 1, 1) := by decide +kernel
theorem d_md_owned_3 : decode m_md_owned.2.1 3 = .ok (.istore_n 3, 1) := by decide +kernel
theorem d_md_owned_4 : decode m_md_owned.2.1 4 = .ok (.iload_n 3, 1) := by decide +kernel
theorem d_md_owned_5 : decode m_md_owned.2.1 5 = .ok (.sipush 259, 3) := by decide +kernel
theorem d_md_owned_8 : decode m_md_owned.2.1 8 = .ok (.if_icmp .ge (36), 3) := by decide +kernel
theorem d_md_owned_11 : decode m_md_owned.2.1 11 = .ok (.iload_n 2, 1) := by decide +kernel
theorem d_md_owned_12 : decode m_md_owned.2.1 12 = .ok (.aload_n 0, 1) := by decide +kernel
theorem d_md_owned_13 : decode m_md_owned.2.1 13 = .ok (.getfield 69, 3) := by decide +kernel
theorem d_md_owned_16 : decode m_md_owned.2.1 16 = .ok (.iload_n 3, 1) := by decide +kernel
theorem d_md_owned_17 : decode m_md_owned.2.1 17 = .ok (.baload, 1) := by decide +kernel
theorem d_md_owned_18 : decode m_md_owned.2.1 18 = .ok (.ifCond .eq (17), 3) := by decide +kernel
theorem d_md_owned_21 : decode m_md_owned.2.1 21 = .ok (.aload_n 0, 1) := by decide +kernel
theorem d_md_owned_22 : decode m_md_owned.2.1 22 = .ok (.getfield 81, 3) := by decide +kernel
theorem d_md_owned_25 : decode m_md_owned.2.1 25 = .ok (.iload_n 3, 1) := by decide +kernel
theorem d_md_owned_26 : decode m_md_owned.2.1 26 = .ok (.iaload, 1) := by decide +kernel
theorem d_md_owned_27 : decode m_md_owned.2.1 27 = .ok (.iload_n 1, 1) := by decide +kernel
theorem d_md_owned_28 : decode m_md_owned.2.1 28 = .ok (.if_icmp .ne (7), 3) := by decide +kernel
theorem d_md_owned_31 : decode m_md_owned.2.1 31 = .ok (.iconst 1, 1) := by decide +kernel
theorem d_md_owned_32 : decode m_md_owned.2.1 32 = .ok (.goto 4, 3) := by decide +kernel
theorem d_md_owned_35 : decode m_md_owned.2.1 35 = .ok (.iconst 0, 1) := by decide +kernel
theorem d_md_owned_36 : decode m_md_owned.2.1 36 = .ok (.iadd, 1) := by decide +kernel
theorem d_md_owned_37 : decode m_md_owned.2.1 37 = .ok (.istore_n 2, 1) := by decide +kernel
theorem d_md_owned_38 : decode m_md_owned.2.1 38 = .ok (.iinc 3 1, 3) := by decide +kernel
theorem d_md_owned_41 : decode m_md_owned.2.1 41 = .ok (.goto (-37), 3) := by decide +kernel
theorem d_md_owned_44 : decode m_md_owned.2.1 44 = .ok (.iload_n 2, 1) := by decide +kernel
theorem d_md_owned_45 : decode m_md_owned.2.1 45 = .ok (.ireturn, 1) := by decide +kernel
theorem d_md_propose_0 : decode m_md_propose.2.1 0 = .ok (.bipush 80, 2) := by decide +kernel
theorem d_md_propose_2 : decode m_md_propose.2.1 2 = .ok (.aload_n 0, 1) := by decide +kernel
theorem d_md_propose_3 : decode m_md_propose.2.1 3 = .ok (.getfield 105, 3) := by decide +kernel
theorem d_md_propose_6 : decode m_md_propose.2.1 6 = .ok (.imul, 1) := by decide +kernel
theorem d_md_propose_7 : decode m_md_propose.2.1 7 = .ok (.aload_n 0, 1) := by decide +kernel
theorem d_md_propose_8 : decode m_md_propose.2.1 8 = .ok (.getfield 22, 3) := by decide +kernel
theorem d_md_propose_11 : decode m_md_propose.2.1 11 = .ok (.aload_n 0, 1) := by decide +kernel
theorem d_md_propose_12 : decode m_md_propose.2.1 12 = .ok (.getfield 105, 3) := by decide +kernel
theorem d_md_propose_15 : decode m_md_propose.2.1 15 = .ok (.iaload, 1) := by decide +kernel
theorem d_md_propose_16 : decode m_md_propose.2.1 16 = .ok (.iadd, 1) := by decide +kernel
theorem d_md_propose_17 : decode m_md_propose.2.1 17 = .ok (.istore 5, 2) := by decide +kernel
theorem d_md_propose_19 : decode m_md_propose.2.1 19 = .ok (.aload_n 0, 1) := by decide +kernel
theorem d_md_propose_20 : decode m_md_propose.2.1 20 = .ok (.getfield 7, 3) := by decide +kernel
theorem d_md_propose_23 : decode m_md_propose.2.1 23 = .ok (.iload 5, 2) := by decide +kernel
theorem d_md_propose_25 : decode m_md_propose.2.1 25 = .ok (.iload_n 1, 1) := by decide +kernel
theorem d_md_propose_26 : decode m_md_propose.2.1 26 = .ok (.iastore, 1) := by decide +kernel
theorem d_md_propose_27 : decode m_md_propose.2.1 27 = .ok (.aload_n 0, 1) := by decide +kernel
theorem d_md_propose_28 : decode m_md_propose.2.1 28 = .ok (.getfield 13, 3) := by decide +kernel
theorem d_md_propose_31 : decode m_md_propose.2.1 31 = .ok (.iload 5, 2) := by decide +kernel
theorem d_md_propose_33 : decode m_md_propose.2.1 33 = .ok (.iload_n 2, 1) := by decide +kernel
theorem d_md_propose_34 : decode m_md_propose.2.1 34 = .ok (.iastore, 1) := by decide +kernel
theorem d_md_propose_35 : decode m_md_propose.2.1 35 = .ok (.aload_n 0, 1) := by decide +kernel
theorem d_md_propose_36 : decode m_md_propose.2.1 36 = .ok (.getfield 16, 3) := by decide +kernel
theorem d_md_propose_39 : decode m_md_propose.2.1 39 = .ok (.iload 5, 2) := by decide +kernel
theorem d_md_propose_41 : decode m_md_propose.2.1 41 = .ok (.iload_n 3, 1) := by decide +kernel
theorem d_md_propose_42 : decode m_md_propose.2.1 42 = .ok (.iastore, 1) := by decide +kernel
theorem d_md_propose_43 : decode m_md_propose.2.1 43 = .ok (.aload_n 0, 1) := by decide +kernel
theorem d_md_propose_44 : decode m_md_propose.2.1 44 = .ok (.getfield 19, 3) := by decide +kernel
theorem d_md_propose_47 : decode m_md_propose.2.1 47 = .ok (.iload 5, 2) := by decide +kernel
theorem d_md_propose_49 : decode m_md_propose.2.1 49 = .ok (.iload 4, 2) := by decide +kernel
theorem d_md_propose_51 : decode m_md_propose.2.1 51 = .ok (.iastore, 1) := by decide +kernel
theorem d_md_propose_52 : decode m_md_propose.2.1 52 = .ok (.aload_n 0, 1) := by decide +kernel
theorem d_md_propose_53 : decode m_md_propose.2.1 53 = .ok (.getfield 22, 3) := by decide +kernel
theorem d_md_propose_56 : decode m_md_propose.2.1 56 = .ok (.aload_n 0, 1) := by decide +kernel
theorem d_md_propose_57 : decode m_md_propose.2.1 57 = .ok (.getfield 105, 3) := by decide +kernel
theorem d_md_propose_60 : decode m_md_propose.2.1 60 = .ok (.dup2, 1) := by decide +kernel
theorem d_md_propose_61 : decode m_md_propose.2.1 61 = .ok (.iaload, 1) := by decide +kernel
theorem d_md_propose_62 : decode m_md_propose.2.1 62 = .ok (.iconst 1, 1) := by decide +kernel
theorem d_md_propose_63 : decode m_md_propose.2.1 63 = .ok (.iadd, 1) := by decide +kernel
theorem d_md_propose_64 : decode m_md_propose.2.1 64 = .ok (.iastore, 1) := by decide +kernel
theorem d_md_propose_65 : decode m_md_propose.2.1 65 = .ok (.aload_n 0, 1) := by decide +kernel
theorem d_md_propose_66 : decode m_md_propose.2.1 66 = .ok (.invokevirtual 125, 3) := by decide +kernel
theorem d_md_propose_69 : decode m_md_propose.2.1 69 = .ok (.return_, 1) := by decide +kernel
theorem d_md_spread_0 : decode m_md_spread.2.1 0 = .ok (.iconst 0, 1) := by decide +kernel
theorem d_md_spread_1 : decode m_md_spread.2.1 1 = .ok (.istore_n 1, 1) := by decide +kernel
theorem d_md_spread_2 : decode m_md_spread.2.1 2 = .ok (.iload_n 1, 1) := by decide +kernel
theorem d_md_spread_3 : decode m_md_spread.2.1 3 = .ok (.iconst 3, 1) := by decide +kernel
theorem d_md_spread_4 : decode m_md_spread.2.1 4 = .ok (.if_icmp .ge (27), 3) := by decide +kernel
theorem d_md_spread_7 : decode m_md_spread.2.1 7 = .ok (.aload_n 0, 1) := by decide +kernel
theorem d_md_spread_8 : decode m_md_spread.2.1 8 = .ok (.iload_n 1, 1) := by decide +kernel
theorem d_md_spread_9 : decode m_md_spread.2.1 9 = .ok (.invokevirtual 112, 3) := by decide +kernel
theorem d_md_spread_12 : decode m_md_spread.2.1 12 = .ok (.ifCond .eq (13), 3) := by decide +kernel
theorem d_md_spread_15 : decode m_md_spread.2.1 15 = .ok (.aload_n 0, 1) := by decide +kernel
theorem d_md_spread_16 : decode m_md_spread.2.1 16 = .ok (.getfield 28, 3) := by decide +kernel
theorem d_md_spread_19 : decode m_md_spread.2.1 19 = .ok (.iload_n 1, 1) := by decide +kernel
theorem d_md_spread_20 : decode m_md_spread.2.1 20 = .ok (.aload_n 0, 1) := by decide +kernel
theorem d_md_spread_21 : decode m_md_spread.2.1 21 = .ok (.getfield 38, 3) := by decide +kernel
theorem d_md_spread_24 : decode m_md_spread.2.1 24 = .ok (.iastore, 1) := by decide +kernel
theorem d_md_spread_25 : decode m_md_spread.2.1 25 = .ok (.iinc 1 1, 3) := by decide +kernel
theorem d_md_spread_28 : decode m_md_spread.2.1 28 = .ok (.goto (-26), 3) := by decide +kernel
theorem d_md_spread_31 : decode m_md_spread.2.1 31 = .ok (.iconst 0, 1) := by decide +kernel
theorem d_md_spread_32 : decode m_md_spread.2.1 32 = .ok (.istore_n 1, 1) := by decide +kernel
theorem d_md_spread_33 : decode m_md_spread.2.1 33 = .ok (.iload_n 1, 1) := by decide +kernel
theorem d_md_spread_34 : decode m_md_spread.2.1 34 = .ok (.iconst 3, 1) := by decide +kernel
theorem d_md_spread_35 : decode m_md_spread.2.1 35 = .ok (.if_icmp .ge (80), 3) := by decide +kernel
theorem d_md_spread_38 : decode m_md_spread.2.1 38 = .ok (.aload_n 0, 1) := by decide +kernel
theorem d_md_spread_39 : decode m_md_spread.2.1 39 = .ok (.iload_n 1, 1) := by decide +kernel
theorem d_md_spread_40 : decode m_md_spread.2.1 40 = .ok (.invokevirtual 112, 3) := by decide +kernel
theorem d_md_spread_43 : decode m_md_spread.2.1 43 = .ok (.ifCond .eq (66), 3) := by decide +kernel
theorem d_md_spread_46 : decode m_md_spread.2.1 46 = .ok (.iload_n 1, 1) := by decide +kernel
theorem d_md_spread_47 : decode m_md_spread.2.1 47 = .ok (.aload_n 0, 1) := by decide +kernel
theorem d_md_spread_48 : decode m_md_spread.2.1 48 = .ok (.getfield 105, 3) := by decide +kernel
theorem d_md_spread_51 : decode m_md_spread.2.1 51 = .ok (.if_icmp .ne (6), 3) := by decide +kernel
theorem d_md_spread_54 : decode m_md_spread.2.1 54 = .ok (.goto 55, 3) := by decide +kernel
theorem d_md_spread_57 : decode m_md_spread.2.1 57 = .ok (.aload_n 0, 1) := by decide +kernel
theorem d_md_spread_58 : decode m_md_spread.2.1 58 = .ok (.getfield 22, 3) := by decide +kernel
theorem d_md_spread_61 : decode m_md_spread.2.1 61 = .ok (.iload_n 1, 1) := by decide +kernel
theorem d_md_spread_62 : decode m_md_spread.2.1 62 = .ok (.aload_n 0, 1) := by decide +kernel
theorem d_md_spread_63 : decode m_md_spread.2.1 63 = .ok (.getfield 22, 3) := by decide +kernel
theorem d_md_spread_66 : decode m_md_spread.2.1 66 = .ok (.aload_n 0, 1) := by decide +kernel
theorem d_md_spread_67 : decode m_md_spread.2.1 67 = .ok (.getfield 105, 3) := by decide +kernel
theorem d_md_spread_70 : decode m_md_spread.2.1 70 = .ok (.iaload, 1) := by decide +kernel
theorem d_md_spread_71 : decode m_md_spread.2.1 71 = .ok (.iastore, 1) := by decide +kernel
theorem d_md_spread_72 : decode m_md_spread.2.1 72 = .ok (.iconst 0, 1) := by decide +kernel
theorem d_md_spread_73 : decode m_md_spread.2.1 73 = .ok (.istore_n 2, 1) := by decide +kernel
theorem d_md_spread_74 : decode m_md_spread.2.1 74 = .ok (.iload_n 2, 1) := by decide +kernel
theorem d_md_spread_75 : decode m_md_spread.2.1 75 = .ok (.aload_n 0, 1) := by decide +kernel
theorem d_md_spread_76 : decode m_md_spread.2.1 76 = .ok (.getfield 22, 3) := by decide +kernel
theorem d_md_spread_79 : decode m_md_spread.2.1 79 = .ok (.iload_n 1, 1) := by decide +kernel
theorem d_md_spread_80 : decode m_md_spread.2.1 80 = .ok (.iaload, 1) := by decide +kernel
theorem d_md_spread_81 : decode m_md_spread.2.1 81 = .ok (.if_icmp .ge (28), 3) := by decide +kernel
theorem d_md_spread_84 : decode m_md_spread.2.1 84 = .ok (.aload_n 0, 1) := by decide +kernel
theorem d_md_spread_85 : decode m_md_spread.2.1 85 = .ok (.bipush 80, 2) := by decide +kernel
theorem d_md_spread_87 : decode m_md_spread.2.1 87 = .ok (.aload_n 0, 1) := by decide +kernel
theorem d_md_spread_88 : decode m_md_spread.2.1 88 = .ok (.getfield 105, 3) := by decide +kernel
theorem d_md_spread_91 : decode m_md_spread.2.1 91 = .ok (.imul, 1) := by decide +kernel
theorem d_md_spread_92 : decode m_md_spread.2.1 92 = .ok (.iload_n 2, 1) := by decide +kernel
theorem d_md_spread_93 : decode m_md_spread.2.1 93 = .ok (.iadd, 1) := by decide +kernel
theorem d_md_spread_94 : decode m_md_spread.2.1 94 = .ok (.bipush 80, 2) := by decide +kernel
theorem d_md_spread_96 : decode m_md_spread.2.1 96 = .ok (.iload_n 1, 1) := by decide +kernel
theorem d_md_spread_97 : decode m_md_spread.2.1 97 = .ok (.imul, 1) := by decide +kernel
theorem d_md_spread_98 : decode m_md_spread.2.1 98 = .ok (.iload_n 2, 1) := by decide +kernel
theorem d_md_spread_99 : decode m_md_spread.2.1 99 = .ok (.iadd, 1) := by decide +kernel
theorem d_md_spread_100 : decode m_md_spread.2.1 100 = .ok (.invokevirtual 115, 3) := by decide +kernel
theorem d_md_spread_103 : decode m_md_spread.2.1 103 = .ok (.iinc 2 1, 3) := by decide +kernel
theorem d_md_spread_106 : decode m_md_spread.2.1 106 = .ok (.goto (-32), 3) := by decide +kernel
theorem d_md_spread_109 : decode m_md_spread.2.1 109 = .ok (.iinc 1 1, 3) := by decide +kernel
theorem d_md_spread_112 : decode m_md_spread.2.1 112 = .ok (.goto (-79), 3) := by decide +kernel
theorem d_md_spread_115 : decode m_md_spread.2.1 115 = .ok (.iconst 0, 1) := by decide +kernel
theorem d_md_spread_116 : decode m_md_spread.2.1 116 = .ok (.istore_n 1, 1) := by decide +kernel
theorem d_md_spread_117 : decode m_md_spread.2.1 117 = .ok (.iload_n 1, 1) := by decide +kernel
theorem d_md_spread_118 : decode m_md_spread.2.1 118 = .ok (.iconst 3, 1) := by decide +kernel
theorem d_md_spread_119 : decode m_md_spread.2.1 119 = .ok (.if_icmp .ge (84), 3) := by decide +kernel
theorem d_md_spread_122 : decode m_md_spread.2.1 122 = .ok (.aload_n 0, 1) := by decide +kernel
theorem d_md_spread_123 : decode m_md_spread.2.1 123 = .ok (.invokevirtual 118, 3) := by decide +kernel
theorem d_md_spread_126 : decode m_md_spread.2.1 126 = .ok (.ifCond .eq (77), 3) := by decide +kernel
theorem d_md_spread_129 : decode m_md_spread.2.1 129 = .ok (.aload_n 0, 1) := by decide +kernel
theorem d_md_spread_130 : decode m_md_spread.2.1 130 = .ok (.iload_n 1, 1) := by decide +kernel
theorem d_md_spread_131 : decode m_md_spread.2.1 131 = .ok (.invokevirtual 112, 3) := by decide +kernel
theorem d_md_spread_134 : decode m_md_spread.2.1 134 = .ok (.ifCond .ne (6), 3) := by decide +kernel
theorem d_md_spread_137 : decode m_md_spread.2.1 137 = .ok (.goto 60, 3) := by decide +kernel
theorem d_md_spread_140 : decode m_md_spread.2.1 140 = .ok (.aload_n 0, 1) := by decide +kernel
theorem d_md_spread_141 : decode m_md_spread.2.1 141 = .ok (.iload_n 1, 1) := by decide +kernel
theorem d_md_spread_142 : decode m_md_spread.2.1 142 = .ok (.aload_n 0, 1) := by decide +kernel
theorem d_md_spread_143 : decode m_md_spread.2.1 143 = .ok (.getfield 25, 3) := by decide +kernel
theorem d_md_spread_146 : decode m_md_spread.2.1 146 = .ok (.iload_n 1, 1) := by decide +kernel
theorem d_md_spread_147 : decode m_md_spread.2.1 147 = .ok (.iaload, 1) := by decide +kernel
theorem d_md_spread_148 : decode m_md_spread.2.1 148 = .ok (.invokevirtual 122, 3) := by decide +kernel
theorem d_md_spread_151 : decode m_md_spread.2.1 151 = .ok (.aload_n 0, 1) := by decide +kernel
theorem d_md_spread_152 : decode m_md_spread.2.1 152 = .ok (.getfield 25, 3) := by decide +kernel
theorem d_md_spread_155 : decode m_md_spread.2.1 155 = .ok (.iload_n 1, 1) := by decide +kernel
theorem d_md_spread_156 : decode m_md_spread.2.1 156 = .ok (.iaload, 1) := by decide +kernel
theorem d_md_spread_157 : decode m_md_spread.2.1 157 = .ok (.istore_n 2, 1) := by decide +kernel
theorem d_md_spread_158 : decode m_md_spread.2.1 158 = .ok (.iload_n 2, 1) := by decide +kernel
theorem d_md_spread_159 : decode m_md_spread.2.1 159 = .ok (.aload_n 0, 1) := by decide +kernel
theorem d_md_spread_160 : decode m_md_spread.2.1 160 = .ok (.getfield 22, 3) := by decide +kernel
theorem d_md_spread_163 : decode m_md_spread.2.1 163 = .ok (.iload_n 1, 1) := by decide +kernel
theorem d_md_spread_164 : decode m_md_spread.2.1 164 = .ok (.iaload, 1) := by decide +kernel
theorem d_md_spread_165 : decode m_md_spread.2.1 165 = .ok (.if_icmp .ge (20), 3) := by decide +kernel
theorem d_md_spread_168 : decode m_md_spread.2.1 168 = .ok (.aload_n 0, 1) := by decide +kernel
theorem d_md_spread_169 : decode m_md_spread.2.1 169 = .ok (.bipush 80, 2) := by decide +kernel
theorem d_md_spread_171 : decode m_md_spread.2.1 171 = .ok (.iload_n 1, 1) := by decide +kernel
theorem d_md_spread_172 : decode m_md_spread.2.1 172 = .ok (.imul, 1) := by decide +kernel
theorem d_md_spread_173 : decode m_md_spread.2.1 173 = .ok (.iload_n 2, 1) := by decide +kernel
theorem d_md_spread_174 : decode m_md_spread.2.1 174 = .ok (.iadd, 1) := by decide +kernel
theorem d_md_spread_175 : decode m_md_spread.2.1 175 = .ok (.iload_n 1, 1) := by decide +kernel
theorem d_md_spread_176 : decode m_md_spread.2.1 176 = .ok (.invokevirtual 98, 3) := by decide +kernel
theorem d_md_spread_179 : decode m_md_spread.2.1 179 = .ok (.iinc 2 1, 3) := by decide +kernel
theorem d_md_spread_182 : decode m_md_spread.2.1 182 = .ok (.goto (-24), 3) := by decide +kernel
theorem d_md_spread_185 : decode m_md_spread.2.1 185 = .ok (.aload_n 0, 1) := by decide +kernel
theorem d_md_spread_186 : decode m_md_spread.2.1 186 = .ok (.getfield 25, 3) := by decide +kernel
theorem d_md_spread_189 : decode m_md_spread.2.1 189 = .ok (.iload_n 1, 1) := by decide +kernel
theorem d_md_spread_190 : decode m_md_spread.2.1 190 = .ok (.aload_n 0, 1) := by decide +kernel
theorem d_md_spread_191 : decode m_md_spread.2.1 191 = .ok (.getfield 22, 3) := by decide +kernel
theorem d_md_spread_194 : decode m_md_spread.2.1 194 = .ok (.iload_n 1, 1) := by decide +kernel
theorem d_md_spread_195 : decode m_md_spread.2.1 195 = .ok (.iaload, 1) := by decide +kernel
theorem d_md_spread_196 : decode m_md_spread.2.1 196 = .ok (.iastore, 1) := by decide +kernel
theorem d_md_spread_197 : decode m_md_spread.2.1 197 = .ok (.iinc 1 1, 3) := by decide +kernel
theorem d_md_spread_200 : decode m_md_spread.2.1 200 = .ok (.goto (-83), 3) := by decide +kernel
theorem d_md_spread_203 : decode m_md_spread.2.1 203 = .ok (.return_, 1) := by decide +kernel
theorem d_md_copyEntry_0 : decode m_md_copyEntry.2.1 0 = .ok (.aload_n 0, 1) := by decide +kernel
theorem d_md_copyEntry_1 : decode m_md_copyEntry.2.1 1 = .ok (.getfield 7, 3) := by decide +kernel
theorem d_md_copyEntry_4 : decode m_md_copyEntry.2.1 4 = .ok (.iload_n 2, 1) := by decide +kernel
theorem d_md_copyEntry_5 : decode m_md_copyEntry.2.1 5 = .ok (.aload_n 0, 1) := by decide +kernel
theorem d_md_copyEntry_6 : decode m_md_copyEntry.2.1 6 = .ok (.getfield 7, 3) := by decide +kernel
theorem d_md_copyEntry_9 : decode m_md_copyEntry.2.1 9 = .ok (.iload_n 1, 1) := by decide +kernel
theorem d_md_copyEntry_10 : decode m_md_copyEntry.2.1 10 = .ok (.iaload, 1) := by decide +kernel
theorem d_md_copyEntry_11 : decode m_md_copyEntry.2.1 11 = .ok (.iastore, 1) := by decide +kernel
theorem d_md_copyEntry_12 : decode m_md_copyEntry.2.1 12 = .ok (.aload_n 0, 1) := by decide +kernel
theorem d_md_copyEntry_13 : decode m_md_copyEntry.2.1 13 = .ok (.getfield 13, 3) := by decide +kernel
theorem d_md_copyEntry_16 : decode m_md_copyEntry.2.1 16 = .ok (.iload_n 2, 1) := by decide +kernel
theorem d_md_copyEntry_17 : decode m_md_copyEntry.2.1 17 = .ok (.aload_n 0, 1) := by decide +kernel
theorem d_md_copyEntry_18 : decode m_md_copyEntry.2.1 18 = .ok (.getfield 13, 3) := by decide +kernel
theorem d_md_copyEntry_21 : decode m_md_copyEntry.2.1 21 = .ok (.iload_n 1, 1) := by decide +kernel
theorem d_md_copyEntry_22 : decode m_md_copyEntry.2.1 22 = .ok (.iaload, 1) := by decide +kernel
theorem d_md_copyEntry_23 : decode m_md_copyEntry.2.1 23 = .ok (.iastore, 1) := by decide +kernel
theorem d_md_copyEntry_24 : decode m_md_copyEntry.2.1 24 = .ok (.aload_n 0, 1) := by decide +kernel
theorem d_md_copyEntry_25 : decode m_md_copyEntry.2.1 25 = .ok (.getfield 16, 3) := by decide +kernel
theorem d_md_copyEntry_28 : decode m_md_copyEntry.2.1 28 = .ok (.iload_n 2, 1) := by decide +kernel
theorem d_md_copyEntry_29 : decode m_md_copyEntry.2.1 29 = .ok (.aload_n 0, 1) := by decide +kernel
theorem d_md_copyEntry_30 : decode m_md_copyEntry.2.1 30 = .ok (.getfield 16, 3) := by decide +kernel
theorem d_md_copyEntry_33 : decode m_md_copyEntry.2.1 33 = .ok (.iload_n 1, 1) := by decide +kernel
theorem d_md_copyEntry_34 : decode m_md_copyEntry.2.1 34 = .ok (.iaload, 1) := by decide +kernel
theorem d_md_copyEntry_35 : decode m_md_copyEntry.2.1 35 = .ok (.iastore, 1) := by decide +kernel
theorem d_md_copyEntry_36 : decode m_md_copyEntry.2.1 36 = .ok (.aload_n 0, 1) := by decide +kernel
theorem d_md_copyEntry_37 : decode m_md_copyEntry.2.1 37 = .ok (.getfield 19, 3) := by decide +kernel
theorem d_md_copyEntry_40 : decode m_md_copyEntry.2.1 40 = .ok (.iload_n 2, 1) := by decide +kernel
theorem d_md_copyEntry_41 : decode m_md_copyEntry.2.1 41 = .ok (.aload_n 0, 1) := by decide +kernel
theorem d_md_copyEntry_42 : decode m_md_copyEntry.2.1 42 = .ok (.getfield 19, 3) := by decide +kernel
theorem d_md_copyEntry_45 : decode m_md_copyEntry.2.1 45 = .ok (.iload_n 1, 1) := by decide +kernel
theorem d_md_copyEntry_46 : decode m_md_copyEntry.2.1 46 = .ok (.iaload, 1) := by decide +kernel
theorem d_md_copyEntry_47 : decode m_md_copyEntry.2.1 47 = .ok (.iastore, 1) := by decide +kernel
theorem d_md_copyEntry_48 : decode m_md_copyEntry.2.1 48 = .ok (.return_, 1) := by decide +kernel
theorem d_md_close_0 : decode m_md_close.2.1 0 = .ok (.aload_n 0, 1) := by decide +kernel
theorem d_md_close_1 : decode m_md_close.2.1 1 = .ok (.iconst 0, 1) := by decide +kernel
theorem d_md_close_2 : decode m_md_close.2.1 2 = .ok (.putfield 84, 3) := by decide +kernel
theorem d_md_close_5 : decode m_md_close.2.1 5 = .ok (.aload_n 0, 1) := by decide +kernel
theorem d_md_close_6 : decode m_md_close.2.1 6 = .ok (.iload_n 1, 1) := by decide +kernel
theorem d_md_close_7 : decode m_md_close.2.1 7 = .ok (.iconst 4, 1) := by decide +kernel
theorem d_md_close_8 : decode m_md_close.2.1 8 = .ok (.invokevirtual 145, 3) := by decide +kernel
theorem d_md_close_11 : decode m_md_close.2.1 11 = .ok (.ifCond .eq (9), 3) := by decide +kernel
theorem d_md_close_14 : decode m_md_close.2.1 14 = .ok (.aload_n 0, 1) := by decide +kernel
theorem d_md_close_15 : decode m_md_close.2.1 15 = .ok (.iconst 1, 1) := by decide +kernel
theorem d_md_close_16 : decode m_md_close.2.1 16 = .ok (.invokevirtual 149, 3) := by decide +kernel
theorem d_md_close_19 : decode m_md_close.2.1 19 = .ok (.ireturn, 1) := by decide +kernel
theorem d_md_close_20 : decode m_md_close.2.1 20 = .ok (.aload_n 0, 1) := by decide +kernel
theorem d_md_close_21 : decode m_md_close.2.1 21 = .ok (.iload_n 1, 1) := by decide +kernel
theorem d_md_close_22 : decode m_md_close.2.1 22 = .ok (.invokevirtual 158, 3) := by decide +kernel
theorem d_md_close_25 : decode m_md_close.2.1 25 = .ok (.ifCond .eq (10), 3) := by decide +kernel
theorem d_md_close_28 : decode m_md_close.2.1 28 = .ok (.aload_n 0, 1) := by decide +kernel
theorem d_md_close_29 : decode m_md_close.2.1 29 = .ok (.invokevirtual 118, 3) := by decide +kernel
theorem d_md_close_32 : decode m_md_close.2.1 32 = .ok (.ifCond .ne (9), 3) := by decide +kernel
theorem d_md_close_35 : decode m_md_close.2.1 35 = .ok (.aload_n 0, 1) := by decide +kernel
theorem d_md_close_36 : decode m_md_close.2.1 36 = .ok (.iconst 2, 1) := by decide +kernel
theorem d_md_close_37 : decode m_md_close.2.1 37 = .ok (.invokevirtual 149, 3) := by decide +kernel
theorem d_md_close_40 : decode m_md_close.2.1 40 = .ok (.ireturn, 1) := by decide +kernel
theorem d_md_close_41 : decode m_md_close.2.1 41 = .ok (.aload_n 0, 1) := by decide +kernel
theorem d_md_close_42 : decode m_md_close.2.1 42 = .ok (.invokevirtual 128, 3) := by decide +kernel
theorem d_md_close_45 : decode m_md_close.2.1 45 = .ok (.aload_n 0, 1) := by decide +kernel
theorem d_md_close_46 : decode m_md_close.2.1 46 = .ok (.iload_n 1, 1) := by decide +kernel
theorem d_md_close_47 : decode m_md_close.2.1 47 = .ok (.invokevirtual 131, 3) := by decide +kernel
theorem d_md_close_50 : decode m_md_close.2.1 50 = .ok (.istore_n 2, 1) := by decide +kernel
theorem d_md_close_51 : decode m_md_close.2.1 51 = .ok (.aload_n 0, 1) := by decide +kernel
theorem d_md_close_52 : decode m_md_close.2.1 52 = .ok (.iload_n 1, 1) := by decide +kernel
theorem d_md_close_53 : decode m_md_close.2.1 53 = .ok (.invokevirtual 161, 3) := by decide +kernel
theorem d_md_close_56 : decode m_md_close.2.1 56 = .ok (.aload_n 0, 1) := by decide +kernel
theorem d_md_close_57 : decode m_md_close.2.1 57 = .ok (.iload_n 2, 1) := by decide +kernel
theorem d_md_close_58 : decode m_md_close.2.1 58 = .ok (.invokevirtual 155, 3) := by decide +kernel
theorem d_md_close_61 : decode m_md_close.2.1 61 = .ok (.ireturn, 1) := by decide +kernel
theorem d_md_reaches_0 : decode m_md_reaches.2.1 0 = .ok (.aload_n 0, 1) := by decide +kernel
theorem d_md_reaches_1 : decode m_md_reaches.2.1 1 = .ok (.iload_n 1, 1) := by decide +kernel
theorem d_md_reaches_2 : decode m_md_reaches.2.1 2 = .ok (.invokevirtual 138, 3) := by decide +kernel
theorem d_md_reaches_5 : decode m_md_reaches.2.1 5 = .ok (.ifCond .eq (33), 3) := by decide +kernel
theorem d_md_reaches_8 : decode m_md_reaches.2.1 8 = .ok (.aload_n 0, 1) := by decide +kernel
theorem d_md_reaches_9 : decode m_md_reaches.2.1 9 = .ok (.aload_n 0, 1) := by decide +kernel
theorem d_md_reaches_10 : decode m_md_reaches.2.1 10 = .ok (.getfield 48, 3) := by decide +kernel
theorem d_md_reaches_13 : decode m_md_reaches.2.1 13 = .ok (.iload_n 1, 1) := by decide +kernel
theorem d_md_reaches_14 : decode m_md_reaches.2.1 14 = .ok (.iaload, 1) := by decide +kernel
theorem d_md_reaches_15 : decode m_md_reaches.2.1 15 = .ok (.invokevirtual 112, 3) := by decide +kernel
theorem d_md_reaches_18 : decode m_md_reaches.2.1 18 = .ok (.ifCond .ne (16), 3) := by decide +kernel
theorem d_md_reaches_21 : decode m_md_reaches.2.1 21 = .ok (.aload_n 0, 1) := by decide +kernel
theorem d_md_reaches_22 : decode m_md_reaches.2.1 22 = .ok (.getfield 48, 3) := by decide +kernel
theorem d_md_reaches_25 : decode m_md_reaches.2.1 25 = .ok (.iload_n 1, 1) := by decide +kernel
theorem d_md_reaches_26 : decode m_md_reaches.2.1 26 = .ok (.iaload, 1) := by decide +kernel
theorem d_md_reaches_27 : decode m_md_reaches.2.1 27 = .ok (.aload_n 0, 1) := by decide +kernel
theorem d_md_reaches_28 : decode m_md_reaches.2.1 28 = .ok (.getfield 105, 3) := by decide +kernel
theorem d_md_reaches_31 : decode m_md_reaches.2.1 31 = .ok (.if_icmp .ne (7), 3) := by decide +kernel
theorem d_md_reaches_34 : decode m_md_reaches.2.1 34 = .ok (.iconst 1, 1) := by decide +kernel
theorem d_md_reaches_35 : decode m_md_reaches.2.1 35 = .ok (.goto 4, 3) := by decide +kernel
theorem d_md_reaches_38 : decode m_md_reaches.2.1 38 = .ok (.iconst 0, 1) := by decide +kernel
theorem d_md_reaches_39 : decode m_md_reaches.2.1 39 = .ok (.ireturn, 1) := by decide +kernel
theorem d_md_connected_0 : decode m_md_connected.2.1 0 = .ok (.aload_n 0, 1) := by decide +kernel
theorem d_md_connected_1 : decode m_md_connected.2.1 1 = .ok (.getfield 42, 3) := by decide +kernel
theorem d_md_connected_4 : decode m_md_connected.2.1 4 = .ok (.iload_n 1, 1) := by decide +kernel
theorem d_md_connected_5 : decode m_md_connected.2.1 5 = .ok (.baload, 1) := by decide +kernel
theorem d_md_connected_6 : decode m_md_connected.2.1 6 = .ok (.ifCond .eq (21), 3) := by decide +kernel
theorem d_md_connected_9 : decode m_md_connected.2.1 9 = .ok (.aload_n 0, 1) := by decide +kernel
theorem d_md_connected_10 : decode m_md_connected.2.1 10 = .ok (.getfield 31, 3) := by decide +kernel
theorem d_md_connected_13 : decode m_md_connected.2.1 13 = .ok (.aload_n 0, 1) := by decide +kernel
theorem d_md_connected_14 : decode m_md_connected.2.1 14 = .ok (.getfield 48, 3) := by decide +kernel
theorem d_md_connected_17 : decode m_md_connected.2.1 17 = .ok (.iload_n 1, 1) := by decide +kernel
theorem d_md_connected_18 : decode m_md_connected.2.1 18 = .ok (.iaload, 1) := by decide +kernel
theorem d_md_connected_19 : decode m_md_connected.2.1 19 = .ok (.baload, 1) := by decide +kernel
theorem d_md_connected_20 : decode m_md_connected.2.1 20 = .ok (.ifCond .ne (7), 3) := by decide +kernel
theorem d_md_connected_23 : decode m_md_connected.2.1 23 = .ok (.iconst 1, 1) := by decide +kernel
theorem d_md_connected_24 : decode m_md_connected.2.1 24 = .ok (.goto 4, 3) := by decide +kernel
theorem d_md_connected_27 : decode m_md_connected.2.1 27 = .ok (.iconst 0, 1) := by decide +kernel
theorem d_md_connected_28 : decode m_md_connected.2.1 28 = .ok (.ireturn, 1) := by decide +kernel
theorem d_md_finish_0 : decode m_md_finish.2.1 0 = .ok (.aload_n 0, 1) := by decide +kernel
theorem d_md_finish_1 : decode m_md_finish.2.1 1 = .ok (.getfield 42, 3) := by decide +kernel
theorem d_md_finish_4 : decode m_md_finish.2.1 4 = .ok (.iload_n 1, 1) := by decide +kernel
theorem d_md_finish_5 : decode m_md_finish.2.1 5 = .ok (.iconst 0, 1) := by decide +kernel
theorem d_md_finish_6 : decode m_md_finish.2.1 6 = .ok (.bastore, 1) := by decide +kernel
theorem d_md_finish_7 : decode m_md_finish.2.1 7 = .ok (.aload_n 0, 1) := by decide +kernel
theorem d_md_finish_8 : decode m_md_finish.2.1 8 = .ok (.getfield 45, 3) := by decide +kernel
theorem d_md_finish_11 : decode m_md_finish.2.1 11 = .ok (.iload_n 1, 1) := by decide +kernel
theorem d_md_finish_12 : decode m_md_finish.2.1 12 = .ok (.iconst 1, 1) := by decide +kernel
theorem d_md_finish_13 : decode m_md_finish.2.1 13 = .ok (.bastore, 1) := by decide +kernel
theorem d_md_finish_14 : decode m_md_finish.2.1 14 = .ok (.aload_n 0, 1) := by decide +kernel
theorem d_md_finish_15 : decode m_md_finish.2.1 15 = .ok (.iload_n 1, 1) := by decide +kernel
theorem d_md_finish_16 : decode m_md_finish.2.1 16 = .ok (.invokevirtual 141, 3) := by decide +kernel
theorem d_md_finish_19 : decode m_md_finish.2.1 19 = .ok (.aload_n 0, 1) := by decide +kernel
theorem d_md_finish_20 : decode m_md_finish.2.1 20 = .ok (.getfield 66, 3) := by decide +kernel
theorem d_md_finish_23 : decode m_md_finish.2.1 23 = .ok (.iload_n 1, 1) := by decide +kernel
theorem d_md_finish_24 : decode m_md_finish.2.1 24 = .ok (.iconst 0, 1) := by decide +kernel
theorem d_md_finish_25 : decode m_md_finish.2.1 25 = .ok (.iastore, 1) := by decide +kernel
theorem d_md_finish_26 : decode m_md_finish.2.1 26 = .ok (.return_, 1) := by decide +kernel
theorem d_md_forget_0 : decode m_md_forget.2.1 0 = .ok (.iconst 0, 1) := by decide +kernel
theorem d_md_forget_1 : decode m_md_forget.2.1 1 = .ok (.istore_n 2, 1) := by decide +kernel
theorem d_md_forget_2 : decode m_md_forget.2.1 2 = .ok (.iload_n 2, 1) := by decide +kernel
theorem d_md_forget_3 : decode m_md_forget.2.1 3 = .ok (.sipush 259, 3) := by decide +kernel
theorem d_md_forget_6 : decode m_md_forget.2.1 6 = .ok (.if_icmp .ge (35), 3) := by decide +kernel
theorem d_md_forget_9 : decode m_md_forget.2.1 9 = .ok (.aload_n 0, 1) := by decide +kernel
theorem d_md_forget_10 : decode m_md_forget.2.1 10 = .ok (.getfield 57, 3) := by decide +kernel
theorem d_md_forget_13 : decode m_md_forget.2.1 13 = .ok (.sipush 259, 3) := by decide +kernel
theorem d_md_forget_16 : decode m_md_forget.2.1 16 = .ok (.iload_n 1, 1) := by decide +kernel
theorem d_md_forget_17 : decode m_md_forget.2.1 17 = .ok (.imul, 1) := by decide +kernel
theorem d_md_forget_18 : decode m_md_forget.2.1 18 = .ok (.iload_n 2, 1) := by decide +kernel
theorem d_md_forget_19 : decode m_md_forget.2.1 19 = .ok (.iadd, 1) := by decide +kernel
theorem d_md_forget_20 : decode m_md_forget.2.1 20 = .ok (.iconst 0, 1) := by decide +kernel
theorem d_md_forget_21 : decode m_md_forget.2.1 21 = .ok (.bastore, 1) := by decide +kernel
theorem d_md_forget_22 : decode m_md_forget.2.1 22 = .ok (.aload_n 0, 1) := by decide +kernel
theorem d_md_forget_23 : decode m_md_forget.2.1 23 = .ok (.getfield 60, 3) := by decide +kernel
theorem d_md_forget_26 : decode m_md_forget.2.1 26 = .ok (.sipush 259, 3) := by decide +kernel
theorem d_md_forget_29 : decode m_md_forget.2.1 29 = .ok (.iload_n 1, 1) := by decide +kernel
theorem d_md_forget_30 : decode m_md_forget.2.1 30 = .ok (.imul, 1) := by decide +kernel
theorem d_md_forget_31 : decode m_md_forget.2.1 31 = .ok (.iload_n 2, 1) := by decide +kernel
theorem d_md_forget_32 : decode m_md_forget.2.1 32 = .ok (.iadd, 1) := by decide +kernel
theorem d_md_forget_33 : decode m_md_forget.2.1 33 = .ok (.iconst 0, 1) := by decide +kernel
theorem d_md_forget_34 : decode m_md_forget.2.1 34 = .ok (.bastore, 1) := by decide +kernel
theorem d_md_forget_35 : decode m_md_forget.2.1 35 = .ok (.iinc 2 1, 3) := by decide +kernel
theorem d_md_forget_38 : decode m_md_forget.2.1 38 = .ok (.goto (-36), 3) := by decide +kernel
theorem d_md_forget_41 : decode m_md_forget.2.1 41 = .ok (.return_, 1) := by decide +kernel
theorem d_md_ping_0 : decode m_md_ping.2.1 0 = .ok (.aload_n 0, 1) := by decide +kernel
theorem d_md_ping_1 : decode m_md_ping.2.1 1 = .ok (.iconst 0, 1) := by decide +kernel
theorem d_md_ping_2 : decode m_md_ping.2.1 2 = .ok (.putfield 84, 3) := by decide +kernel
theorem d_md_ping_5 : decode m_md_ping.2.1 5 = .ok (.aload_n 0, 1) := by decide +kernel
theorem d_md_ping_6 : decode m_md_ping.2.1 6 = .ok (.iload_n 1, 1) := by decide +kernel
theorem d_md_ping_7 : decode m_md_ping.2.1 7 = .ok (.iconst 4, 1) := by decide +kernel
theorem d_md_ping_8 : decode m_md_ping.2.1 8 = .ok (.invokevirtual 145, 3) := by decide +kernel
theorem d_md_ping_11 : decode m_md_ping.2.1 11 = .ok (.ifCond .eq (9), 3) := by decide +kernel
theorem d_md_ping_14 : decode m_md_ping.2.1 14 = .ok (.aload_n 0, 1) := by decide +kernel
theorem d_md_ping_15 : decode m_md_ping.2.1 15 = .ok (.iconst 1, 1) := by decide +kernel
theorem d_md_ping_16 : decode m_md_ping.2.1 16 = .ok (.invokevirtual 149, 3) := by decide +kernel
theorem d_md_ping_19 : decode m_md_ping.2.1 19 = .ok (.ireturn, 1) := by decide +kernel
theorem d_md_ping_20 : decode m_md_ping.2.1 20 = .ok (.aload_n 0, 1) := by decide +kernel
theorem d_md_ping_21 : decode m_md_ping.2.1 21 = .ok (.iload_n 1, 1) := by decide +kernel
theorem d_md_ping_22 : decode m_md_ping.2.1 22 = .ok (.invokevirtual 158, 3) := by decide +kernel
theorem d_md_ping_25 : decode m_md_ping.2.1 25 = .ok (.ifCond .eq (10), 3) := by decide +kernel
theorem d_md_ping_28 : decode m_md_ping.2.1 28 = .ok (.aload_n 0, 1) := by decide +kernel
theorem d_md_ping_29 : decode m_md_ping.2.1 29 = .ok (.invokevirtual 118, 3) := by decide +kernel
theorem d_md_ping_32 : decode m_md_ping.2.1 32 = .ok (.ifCond .ne (9), 3) := by decide +kernel
theorem d_md_ping_35 : decode m_md_ping.2.1 35 = .ok (.aload_n 0, 1) := by decide +kernel
theorem d_md_ping_36 : decode m_md_ping.2.1 36 = .ok (.iconst 2, 1) := by decide +kernel
theorem d_md_ping_37 : decode m_md_ping.2.1 37 = .ok (.invokevirtual 149, 3) := by decide +kernel
theorem d_md_ping_40 : decode m_md_ping.2.1 40 = .ok (.ireturn, 1) := by decide +kernel
theorem d_md_ping_41 : decode m_md_ping.2.1 41 = .ok (.aload_n 0, 1) := by decide +kernel
theorem d_md_ping_42 : decode m_md_ping.2.1 42 = .ok (.getfield 54, 3) := by decide +kernel
theorem d_md_ping_45 : decode m_md_ping.2.1 45 = .ok (.iload_n 1, 1) := by decide +kernel
theorem d_md_ping_46 : decode m_md_ping.2.1 46 = .ok (.aload_n 0, 1) := by decide +kernel
theorem d_md_ping_47 : decode m_md_ping.2.1 47 = .ok (.getfield 152, 3) := by decide +kernel
theorem d_md_ping_50 : decode m_md_ping.2.1 50 = .ok (.iastore, 1) := by decide +kernel
theorem d_md_ping_51 : decode m_md_ping.2.1 51 = .ok (.aload_n 0, 1) := by decide +kernel
theorem d_md_ping_52 : decode m_md_ping.2.1 52 = .ok (.aload_n 0, 1) := by decide +kernel
theorem d_md_ping_53 : decode m_md_ping.2.1 53 = .ok (.getfield 66, 3) := by decide +kernel
theorem d_md_ping_56 : decode m_md_ping.2.1 56 = .ok (.iload_n 1, 1) := by decide +kernel
theorem d_md_ping_57 : decode m_md_ping.2.1 57 = .ok (.iaload, 1) := by decide +kernel
theorem d_md_ping_58 : decode m_md_ping.2.1 58 = .ok (.invokevirtual 155, 3) := by decide +kernel
theorem d_md_ping_61 : decode m_md_ping.2.1 61 = .ok (.ireturn, 1) := by decide +kernel
theorem d_md_move_0 : decode m_md_move.2.1 0 = .ok (.aload_n 0, 1) := by decide +kernel
theorem d_md_move_1 : decode m_md_move.2.1 1 = .ok (.iconst 0, 1) := by decide +kernel
theorem d_md_move_2 : decode m_md_move.2.1 2 = .ok (.putfield 84, 3) := by decide +kernel
theorem d_md_move_5 : decode m_md_move.2.1 5 = .ok (.aload_n 0, 1) := by decide +kernel
theorem d_md_move_6 : decode m_md_move.2.1 6 = .ok (.iload_n 1, 1) := by decide +kernel
theorem d_md_move_7 : decode m_md_move.2.1 7 = .ok (.iconst 4, 1) := by decide +kernel
theorem d_md_move_8 : decode m_md_move.2.1 8 = .ok (.invokevirtual 145, 3) := by decide +kernel
theorem d_md_move_11 : decode m_md_move.2.1 11 = .ok (.ifCond .ne (12), 3) := by decide +kernel
theorem d_md_move_14 : decode m_md_move.2.1 14 = .ok (.aload_n 0, 1) := by decide +kernel
theorem d_md_move_15 : decode m_md_move.2.1 15 = .ok (.iload_n 2, 1) := by decide +kernel
theorem d_md_move_16 : decode m_md_move.2.1 16 = .ok (.iconst 3, 1) := by decide +kernel
theorem d_md_move_17 : decode m_md_move.2.1 17 = .ok (.invokevirtual 145, 3) := by decide +kernel
theorem d_md_move_20 : decode m_md_move.2.1 20 = .ok (.ifCond .eq (9), 3) := by decide +kernel
theorem d_md_move_23 : decode m_md_move.2.1 23 = .ok (.aload_n 0, 1) := by decide +kernel
theorem d_md_move_24 : decode m_md_move.2.1 24 = .ok (.iconst 1, 1) := by decide +kernel
theorem d_md_move_25 : decode m_md_move.2.1 25 = .ok (.invokevirtual 149, 3) := by decide +kernel
theorem d_md_move_28 : decode m_md_move.2.1 28 = .ok (.ireturn, 1) := by decide +kernel
theorem d_md_move_29 : decode m_md_move.2.1 29 = .ok (.aload_n 0, 1) := by decide +kernel
theorem d_md_move_30 : decode m_md_move.2.1 30 = .ok (.getfield 42, 3) := by decide +kernel
theorem d_md_move_33 : decode m_md_move.2.1 33 = .ok (.iload_n 1, 1) := by decide +kernel
theorem d_md_move_34 : decode m_md_move.2.1 34 = .ok (.baload, 1) := by decide +kernel
theorem d_md_move_35 : decode m_md_move.2.1 35 = .ok (.ifCond .eq (12), 3) := by decide +kernel
theorem d_md_move_38 : decode m_md_move.2.1 38 = .ok (.aload_n 0, 1) := by decide +kernel
theorem d_md_move_39 : decode m_md_move.2.1 39 = .ok (.getfield 31, 3) := by decide +kernel
theorem d_md_move_42 : decode m_md_move.2.1 42 = .ok (.iload_n 2, 1) := by decide +kernel
theorem d_md_move_43 : decode m_md_move.2.1 43 = .ok (.baload, 1) := by decide +kernel
theorem d_md_move_44 : decode m_md_move.2.1 44 = .ok (.ifCond .eq (9), 3) := by decide +kernel
theorem d_md_move_47 : decode m_md_move.2.1 47 = .ok (.aload_n 0, 1) := by decide +kernel
theorem d_md_move_48 : decode m_md_move.2.1 48 = .ok (.iconst 2, 1) := by decide +kernel
theorem d_md_move_49 : decode m_md_move.2.1 49 = .ok (.invokevirtual 149, 3) := by decide +kernel
theorem d_md_move_52 : decode m_md_move.2.1 52 = .ok (.ireturn, 1) := by decide +kernel
theorem d_md_move_53 : decode m_md_move.2.1 53 = .ok (.aload_n 0, 1) := by decide +kernel
theorem d_md_move_54 : decode m_md_move.2.1 54 = .ok (.getfield 48, 3) := by decide +kernel
theorem d_md_move_57 : decode m_md_move.2.1 57 = .ok (.iload_n 1, 1) := by decide +kernel
theorem d_md_move_58 : decode m_md_move.2.1 58 = .ok (.iaload, 1) := by decide +kernel
theorem d_md_move_59 : decode m_md_move.2.1 59 = .ok (.istore_n 3, 1) := by decide +kernel
theorem d_md_move_60 : decode m_md_move.2.1 60 = .ok (.aload_n 0, 1) := by decide +kernel
theorem d_md_move_61 : decode m_md_move.2.1 61 = .ok (.getfield 48, 3) := by decide +kernel
theorem d_md_move_64 : decode m_md_move.2.1 64 = .ok (.iload_n 1, 1) := by decide +kernel
theorem d_md_move_65 : decode m_md_move.2.1 65 = .ok (.iload_n 2, 1) := by decide +kernel
theorem d_md_move_66 : decode m_md_move.2.1 66 = .ok (.iastore, 1) := by decide +kernel
theorem d_md_move_67 : decode m_md_move.2.1 67 = .ok (.aload_n 0, 1) := by decide +kernel
theorem d_md_move_68 : decode m_md_move.2.1 68 = .ok (.iload_n 1, 1) := by decide +kernel
theorem d_md_move_69 : decode m_md_move.2.1 69 = .ok (.invokevirtual 141, 3) := by decide +kernel
theorem d_md_move_72 : decode m_md_move.2.1 72 = .ok (.aload_n 0, 1) := by decide +kernel
theorem d_md_move_73 : decode m_md_move.2.1 73 = .ok (.iload_n 3, 1) := by decide +kernel
theorem d_md_move_74 : decode m_md_move.2.1 74 = .ok (.invokevirtual 155, 3) := by decide +kernel
theorem d_md_move_77 : decode m_md_move.2.1 77 = .ok (.ireturn, 1) := by decide +kernel
theorem d_md_create_0 : decode m_md_create.2.1 0 = .ok (.aload_n 0, 1) := by decide +kernel
theorem d_md_create_1 : decode m_md_create.2.1 1 = .ok (.iconst 0, 1) := by decide +kernel
theorem d_md_create_2 : decode m_md_create.2.1 2 = .ok (.putfield 84, 3) := by decide +kernel
theorem d_md_create_5 : decode m_md_create.2.1 5 = .ok (.aload_n 0, 1) := by decide +kernel
theorem d_md_create_6 : decode m_md_create.2.1 6 = .ok (.iload_n 1, 1) := by decide +kernel
theorem d_md_create_7 : decode m_md_create.2.1 7 = .ok (.iconst 4, 1) := by decide +kernel
theorem d_md_create_8 : decode m_md_create.2.1 8 = .ok (.invokevirtual 145, 3) := by decide +kernel
theorem d_md_create_11 : decode m_md_create.2.1 11 = .ok (.ifCond .ne (46), 3) := by decide +kernel
theorem d_md_create_14 : decode m_md_create.2.1 14 = .ok (.aload_n 0, 1) := by decide +kernel
theorem d_md_create_15 : decode m_md_create.2.1 15 = .ok (.iload 4, 2) := by decide +kernel
theorem d_md_create_17 : decode m_md_create.2.1 17 = .ok (.iconst 4, 1) := by decide +kernel
theorem d_md_create_18 : decode m_md_create.2.1 18 = .ok (.invokevirtual 145, 3) := by decide +kernel
theorem d_md_create_21 : decode m_md_create.2.1 21 = .ok (.ifCond .ne (36), 3) := by decide +kernel
theorem d_md_create_24 : decode m_md_create.2.1 24 = .ok (.iload_n 2, 1) := by decide +kernel
theorem d_md_create_25 : decode m_md_create.2.1 25 = .ok (.iload 4, 2) := by decide +kernel
theorem d_md_create_27 : decode m_md_create.2.1 27 = .ok (.iconst 2, 1) := by decide +kernel
theorem d_md_create_28 : decode m_md_create.2.1 28 = .ok (.if_icmp .ge (7), 3) := by decide +kernel
theorem d_md_create_31 : decode m_md_create.2.1 31 = .ok (.iconst 1, 1) := by decide +kernel
theorem d_md_create_32 : decode m_md_create.2.1 32 = .ok (.goto 4, 3) := by decide +kernel
theorem d_md_create_35 : decode m_md_create.2.1 35 = .ok (.iconst 0, 1) := by decide +kernel
theorem d_md_create_36 : decode m_md_create.2.1 36 = .ok (.if_icmp .lt (21), 3) := by decide +kernel
theorem d_md_create_39 : decode m_md_create.2.1 39 = .ok (.iload_n 2, 1) := by decide +kernel
theorem d_md_create_40 : decode m_md_create.2.1 40 = .ok (.iload 4, 2) := by decide +kernel
theorem d_md_create_42 : decode m_md_create.2.1 42 = .ok (.iconst 2, 1) := by decide +kernel
theorem d_md_create_43 : decode m_md_create.2.1 43 = .ok (.if_icmp .ge (9), 3) := by decide +kernel
theorem d_md_create_46 : decode m_md_create.2.1 46 = .ok (.sipush 258, 3) := by decide +kernel
theorem d_md_create_49 : decode m_md_create.2.1 49 = .ok (.goto 5, 3) := by decide +kernel
theorem d_md_create_52 : decode m_md_create.2.1 52 = .ok (.bipush 42, 2) := by decide +kernel
theorem d_md_create_54 : decode m_md_create.2.1 54 = .ok (.if_icmp .le (9), 3) := by decide +kernel
theorem d_md_create_57 : decode m_md_create.2.1 57 = .ok (.aload_n 0, 1) := by decide +kernel
theorem d_md_create_58 : decode m_md_create.2.1 58 = .ok (.iconst 1, 1) := by decide +kernel
theorem d_md_create_59 : decode m_md_create.2.1 59 = .ok (.invokevirtual 149, 3) := by decide +kernel
theorem d_md_create_62 : decode m_md_create.2.1 62 = .ok (.ireturn, 1) := by decide +kernel
theorem d_md_create_63 : decode m_md_create.2.1 63 = .ok (.aload_n 0, 1) := by decide +kernel
theorem d_md_create_64 : decode m_md_create.2.1 64 = .ok (.iload_n 1, 1) := by decide +kernel
theorem d_md_create_65 : decode m_md_create.2.1 65 = .ok (.invokevirtual 158, 3) := by decide +kernel
theorem d_md_create_68 : decode m_md_create.2.1 68 = .ok (.ifCond .ne (9), 3) := by decide +kernel
theorem d_md_create_71 : decode m_md_create.2.1 71 = .ok (.aload_n 0, 1) := by decide +kernel
theorem d_md_create_72 : decode m_md_create.2.1 72 = .ok (.iconst 2, 1) := by decide +kernel
theorem d_md_create_73 : decode m_md_create.2.1 73 = .ok (.invokevirtual 149, 3) := by decide +kernel
theorem d_md_create_76 : decode m_md_create.2.1 76 = .ok (.ireturn, 1) := by decide +kernel
theorem d_md_create_77 : decode m_md_create.2.1 77 = .ok (.aload_n 0, 1) := by decide +kernel
theorem d_md_create_78 : decode m_md_create.2.1 78 = .ok (.invokevirtual 128, 3) := by decide +kernel
theorem d_md_create_81 : decode m_md_create.2.1 81 = .ok (.iload 4, 2) := by decide +kernel
theorem d_md_create_83 : decode m_md_create.2.1 83 = .ok (.iconst 2, 1) := by decide +kernel
theorem d_md_create_84 : decode m_md_create.2.1 84 = .ok (.if_icmp .ge (11), 3) := by decide +kernel
theorem d_md_create_87 : decode m_md_create.2.1 87 = .ok (.aload_n 0, 1) := by decide +kernel
theorem d_md_create_88 : decode m_md_create.2.1 88 = .ok (.iload_n 2, 1) := by decide +kernel
theorem d_md_create_89 : decode m_md_create.2.1 89 = .ok (.invokevirtual 87, 3) := by decide +kernel
theorem d_md_create_92 : decode m_md_create.2.1 92 = .ok (.goto 4, 3) := by decide +kernel
theorem d_md_create_95 : decode m_md_create.2.1 95 = .ok (.iload_n 2, 1) := by decide +kernel
theorem d_md_create_96 : decode m_md_create.2.1 96 = .ok (.istore 5, 2) := by decide +kernel
theorem d_md_create_98 : decode m_md_create.2.1 98 = .ok (.aload_n 0, 1) := by decide +kernel
theorem d_md_create_99 : decode m_md_create.2.1 99 = .ok (.getfield 69, 3) := by decide +kernel
theorem d_md_create_102 : decode m_md_create.2.1 102 = .ok (.iload 5, 2) := by decide +kernel
theorem d_md_create_104 : decode m_md_create.2.1 104 = .ok (.baload, 1) := by decide +kernel
theorem d_md_create_105 : decode m_md_create.2.1 105 = .ok (.ifCond .ne (9), 3) := by decide +kernel
theorem d_md_create_108 : decode m_md_create.2.1 108 = .ok (.aload_n 0, 1) := by decide +kernel
theorem d_md_create_109 : decode m_md_create.2.1 109 = .ok (.iconst 3, 1) := by decide +kernel
theorem d_md_create_110 : decode m_md_create.2.1 110 = .ok (.invokevirtual 149, 3) := by decide +kernel
theorem d_md_create_113 : decode m_md_create.2.1 113 = .ok (.ireturn, 1) := by decide +kernel
theorem d_md_create_114 : decode m_md_create.2.1 114 = .ok (.aload_n 0, 1) := by decide +kernel
theorem d_md_create_115 : decode m_md_create.2.1 115 = .ok (.getfield 81, 3) := by decide +kernel
theorem d_md_create_118 : decode m_md_create.2.1 118 = .ok (.iload 5, 2) := by decide +kernel
theorem d_md_create_120 : decode m_md_create.2.1 120 = .ok (.iaload, 1) := by decide +kernel
theorem d_md_create_121 : decode m_md_create.2.1 121 = .ok (.ifCond .ge (21), 3) := by decide +kernel
theorem d_md_create_124 : decode m_md_create.2.1 124 = .ok (.iload 4, 2) := by decide +kernel
theorem d_md_create_126 : decode m_md_create.2.1 126 = .ok (.iconst 1, 1) := by decide +kernel
theorem d_md_create_127 : decode m_md_create.2.1 127 = .ok (.if_icmp .le (21), 3) := by decide +kernel
theorem d_md_create_130 : decode m_md_create.2.1 130 = .ok (.aload_n 0, 1) := by decide +kernel
theorem d_md_create_131 : decode m_md_create.2.1 131 = .ok (.getfield 78, 3) := by decide +kernel
theorem d_md_create_134 : decode m_md_create.2.1 134 = .ok (.iload 5, 2) := by decide +kernel
theorem d_md_create_136 : decode m_md_create.2.1 136 = .ok (.iaload, 1) := by decide +kernel
theorem d_md_create_137 : decode m_md_create.2.1 137 = .ok (.bipush 6, 2) := by decide +kernel
theorem d_md_create_139 : decode m_md_create.2.1 139 = .ok (.if_icmp .ne (9), 3) := by decide +kernel
theorem d_md_create_142 : decode m_md_create.2.1 142 = .ok (.aload_n 0, 1) := by decide +kernel
theorem d_md_create_143 : decode m_md_create.2.1 143 = .ok (.iconst 4, 1) := by decide +kernel
theorem d_md_create_144 : decode m_md_create.2.1 144 = .ok (.invokevirtual 149, 3) := by decide +kernel
theorem d_md_create_147 : decode m_md_create.2.1 147 = .ok (.ireturn, 1) := by decide +kernel
theorem d_md_create_148 : decode m_md_create.2.1 148 = .ok (.iload 4, 2) := by decide +kernel
theorem d_md_create_150 : decode m_md_create.2.1 150 = .ok (.iconst 2, 1) := by decide +kernel
theorem d_md_create_151 : decode m_md_create.2.1 151 = .ok (.if_icmp .ge (7), 3) := by decide +kernel
theorem d_md_create_154 : decode m_md_create.2.1 154 = .ok (.iload_n 2, 1) := by decide +kernel
theorem d_md_create_155 : decode m_md_create.2.1 155 = .ok (.goto 17, 3) := by decide +kernel
theorem d_md_create_158 : decode m_md_create.2.1 158 = .ok (.bipush 6, 2) := by decide +kernel
theorem d_md_create_160 : decode m_md_create.2.1 160 = .ok (.iload_n 2, 1) := by decide +kernel
theorem d_md_create_161 : decode m_md_create.2.1 161 = .ok (.imul, 1) := by decide +kernel
theorem d_md_create_162 : decode m_md_create.2.1 162 = .ok (.aload_n 0, 1) := by decide +kernel
theorem d_md_create_163 : decode m_md_create.2.1 163 = .ok (.getfield 78, 3) := by decide +kernel
theorem d_md_create_166 : decode m_md_create.2.1 166 = .ok (.iload 5, 2) := by decide +kernel
theorem d_md_create_168 : decode m_md_create.2.1 168 = .ok (.iaload, 1) := by decide +kernel
theorem d_md_create_169 : decode m_md_create.2.1 169 = .ok (.iadd, 1) := by decide +kernel
theorem d_md_create_170 : decode m_md_create.2.1 170 = .ok (.iconst 1, 1) := by decide +kernel
theorem d_md_create_171 : decode m_md_create.2.1 171 = .ok (.iadd, 1) := by decide +kernel
theorem d_md_create_172 : decode m_md_create.2.1 172 = .ok (.istore 6, 2) := by decide +kernel
theorem d_md_create_174 : decode m_md_create.2.1 174 = .ok (.aload_n 0, 1) := by decide +kernel
theorem d_md_create_175 : decode m_md_create.2.1 175 = .ok (.getfield 69, 3) := by decide +kernel
theorem d_md_create_178 : decode m_md_create.2.1 178 = .ok (.iload 6, 2) := by decide +kernel
theorem d_md_create_180 : decode m_md_create.2.1 180 = .ok (.baload, 1) := by decide +kernel
theorem d_md_create_181 : decode m_md_create.2.1 181 = .ok (.ifCond .eq (9), 3) := by decide +kernel
theorem d_md_create_184 : decode m_md_create.2.1 184 = .ok (.aload_n 0, 1) := by decide +kernel
theorem d_md_create_185 : decode m_md_create.2.1 185 = .ok (.iconst 5, 1) := by decide +kernel
theorem d_md_create_186 : decode m_md_create.2.1 186 = .ok (.invokevirtual 149, 3) := by decide +kernel
theorem d_md_create_189 : decode m_md_create.2.1 189 = .ok (.ireturn, 1) := by decide +kernel
theorem d_md_create_190 : decode m_md_create.2.1 190 = .ok (.aload_n 0, 1) := by decide +kernel
theorem d_md_create_191 : decode m_md_create.2.1 191 = .ok (.getfield 22, 3) := by decide +kernel
theorem d_md_create_194 : decode m_md_create.2.1 194 = .ok (.aload_n 0, 1) := by decide +kernel
theorem d_md_create_195 : decode m_md_create.2.1 195 = .ok (.getfield 105, 3) := by decide +kernel
theorem d_md_create_198 : decode m_md_create.2.1 198 = .ok (.iaload, 1) := by decide +kernel
theorem d_md_create_199 : decode m_md_create.2.1 199 = .ok (.bipush 60, 2) := by decide +kernel
theorem d_md_create_201 : decode m_md_create.2.1 201 = .ok (.if_icmp .lt (9), 3) := by decide +kernel
theorem d_md_create_204 : decode m_md_create.2.1 204 = .ok (.aload_n 0, 1) := by decide +kernel
theorem d_md_create_205 : decode m_md_create.2.1 205 = .ok (.iconst 2, 1) := by decide +kernel
theorem d_md_create_206 : decode m_md_create.2.1 206 = .ok (.invokevirtual 149, 3) := by decide +kernel
theorem d_md_create_209 : decode m_md_create.2.1 209 = .ok (.ireturn, 1) := by decide +kernel
theorem d_md_create_210 : decode m_md_create.2.1 210 = .ok (.aload_n 0, 1) := by decide +kernel
theorem d_md_create_211 : decode m_md_create.2.1 211 = .ok (.iload 4, 2) := by decide +kernel
theorem d_md_create_213 : decode m_md_create.2.1 213 = .ok (.iconst 2, 1) := by decide +kernel
theorem d_md_create_214 : decode m_md_create.2.1 214 = .ok (.if_icmp .ge (7), 3) := by decide +kernel
theorem d_md_create_217 : decode m_md_create.2.1 217 = .ok (.iconst 0, 1) := by decide +kernel
theorem d_md_create_218 : decode m_md_create.2.1 218 = .ok (.goto 4, 3) := by decide +kernel
theorem d_md_create_221 : decode m_md_create.2.1 221 = .ok (.iconst 1, 1) := by decide +kernel
theorem d_md_create_222 : decode m_md_create.2.1 222 = .ok (.iload 6, 2) := by decide +kernel
theorem d_md_create_224 : decode m_md_create.2.1 224 = .ok (.iload_n 3, 1) := by decide +kernel
theorem d_md_create_225 : decode m_md_create.2.1 225 = .ok (.iload 4, 2) := by decide +kernel
theorem d_md_create_227 : decode m_md_create.2.1 227 = .ok (.iconst 2, 1) := by decide +kernel
theorem d_md_create_228 : decode m_md_create.2.1 228 = .ok (.irem, 1) := by decide +kernel
theorem d_md_create_229 : decode m_md_create.2.1 229 = .ok (.iconst 1, 1) := by decide +kernel
theorem d_md_create_230 : decode m_md_create.2.1 230 = .ok (.if_icmp .ne (7), 3) := by decide +kernel
theorem d_md_create_233 : decode m_md_create.2.1 233 = .ok (.iload_n 1, 1) := by decide +kernel
theorem d_md_create_234 : decode m_md_create.2.1 234 = .ok (.goto 4, 3) := by decide +kernel
theorem d_md_create_237 : decode m_md_create.2.1 237 = .ok (.iconst (-1), 1) := by decide +kernel
theorem d_md_create_238 : decode m_md_create.2.1 238 = .ok (.invokevirtual 134, 3) := by decide +kernel
theorem d_md_create_241 : decode m_md_create.2.1 241 = .ok (.aload_n 0, 1) := by decide +kernel
theorem d_md_create_242 : decode m_md_create.2.1 242 = .ok (.invokevirtual 118, 3) := by decide +kernel
theorem d_md_create_245 : decode m_md_create.2.1 245 = .ok (.ifCond .eq (12), 3) := by decide +kernel
theorem d_md_create_248 : decode m_md_create.2.1 248 = .ok (.aload_n 0, 1) := by decide +kernel
theorem d_md_create_249 : decode m_md_create.2.1 249 = .ok (.iload 6, 2) := by decide +kernel
theorem d_md_create_251 : decode m_md_create.2.1 251 = .ok (.invokevirtual 155, 3) := by decide +kernel
theorem d_md_create_254 : decode m_md_create.2.1 254 = .ok (.goto 8, 3) := by decide +kernel
theorem d_md_create_257 : decode m_md_create.2.1 257 = .ok (.aload_n 0, 1) := by decide +kernel
theorem d_md_create_258 : decode m_md_create.2.1 258 = .ok (.iconst 2, 1) := by decide +kernel
theorem d_md_create_259 : decode m_md_create.2.1 259 = .ok (.invokevirtual 149, 3) := by decide +kernel
theorem d_md_create_262 : decode m_md_create.2.1 262 = .ok (.ireturn, 1) := by decide +kernel
theorem d_md_set_0 : decode m_md_set.2.1 0 = .ok (.aload_n 0, 1) := by decide +kernel
theorem d_md_set_1 : decode m_md_set.2.1 1 = .ok (.iconst 0, 1) := by decide +kernel
theorem d_md_set_2 : decode m_md_set.2.1 2 = .ok (.putfield 84, 3) := by decide +kernel
theorem d_md_set_5 : decode m_md_set.2.1 5 = .ok (.aload_n 0, 1) := by decide +kernel
theorem d_md_set_6 : decode m_md_set.2.1 6 = .ok (.iload_n 1, 1) := by decide +kernel
theorem d_md_set_7 : decode m_md_set.2.1 7 = .ok (.iconst 4, 1) := by decide +kernel
theorem d_md_set_8 : decode m_md_set.2.1 8 = .ok (.invokevirtual 145, 3) := by decide +kernel
theorem d_md_set_11 : decode m_md_set.2.1 11 = .ok (.ifCond .ne (19), 3) := by decide +kernel
theorem d_md_set_14 : decode m_md_set.2.1 14 = .ok (.aload_n 0, 1) := by decide +kernel
theorem d_md_set_15 : decode m_md_set.2.1 15 = .ok (.iload_n 2, 1) := by decide +kernel
theorem d_md_set_16 : decode m_md_set.2.1 16 = .ok (.sipush 259, 3) := by decide +kernel
theorem d_md_set_19 : decode m_md_set.2.1 19 = .ok (.invokevirtual 145, 3) := by decide +kernel
theorem d_md_set_22 : decode m_md_set.2.1 22 = .ok (.ifCond .ne (8), 3) := by decide +kernel
theorem d_md_set_25 : decode m_md_set.2.1 25 = .ok (.iload_n 3, 1) := by decide +kernel
theorem d_md_set_26 : decode m_md_set.2.1 26 = .ok (.iconst (-1), 1) := by decide +kernel
theorem d_md_set_27 : decode m_md_set.2.1 27 = .ok (.if_icmp .ge (9), 3) := by decide +kernel
theorem d_md_set_30 : decode m_md_set.2.1 30 = .ok (.aload_n 0, 1) := by decide +kernel
theorem d_md_set_31 : decode m_md_set.2.1 31 = .ok (.iconst 1, 1) := by decide +kernel
theorem d_md_set_32 : decode m_md_set.2.1 32 = .ok (.invokevirtual 149, 3) := by decide +kernel
theorem d_md_set_35 : decode m_md_set.2.1 35 = .ok (.ireturn, 1) := by decide +kernel
theorem d_md_set_36 : decode m_md_set.2.1 36 = .ok (.aload_n 0, 1) := by decide +kernel
theorem d_md_set_37 : decode m_md_set.2.1 37 = .ok (.iload_n 1, 1) := by decide +kernel
theorem d_md_set_38 : decode m_md_set.2.1 38 = .ok (.invokevirtual 158, 3) := by decide +kernel
theorem d_md_set_41 : decode m_md_set.2.1 41 = .ok (.ifCond .ne (9), 3) := by decide +kernel
theorem d_md_set_44 : decode m_md_set.2.1 44 = .ok (.aload_n 0, 1) := by decide +kernel
theorem d_md_set_45 : decode m_md_set.2.1 45 = .ok (.iconst 2, 1) := by decide +kernel
theorem d_md_set_46 : decode m_md_set.2.1 46 = .ok (.invokevirtual 149, 3) := by decide +kernel
theorem d_md_set_49 : decode m_md_set.2.1 49 = .ok (.ireturn, 1) := by decide +kernel
theorem d_md_set_50 : decode m_md_set.2.1 50 = .ok (.aload_n 0, 1) := by decide +kernel
theorem d_md_set_51 : decode m_md_set.2.1 51 = .ok (.invokevirtual 128, 3) := by decide +kernel
theorem d_md_set_54 : decode m_md_set.2.1 54 = .ok (.aload_n 0, 1) := by decide +kernel
theorem d_md_set_55 : decode m_md_set.2.1 55 = .ok (.getfield 69, 3) := by decide +kernel
theorem d_md_set_58 : decode m_md_set.2.1 58 = .ok (.iload_n 2, 1) := by decide +kernel
theorem d_md_set_59 : decode m_md_set.2.1 59 = .ok (.baload, 1) := by decide +kernel
theorem d_md_set_60 : decode m_md_set.2.1 60 = .ok (.ifCond .ne (9), 3) := by decide +kernel
theorem d_md_set_63 : decode m_md_set.2.1 63 = .ok (.aload_n 0, 1) := by decide +kernel
theorem d_md_set_64 : decode m_md_set.2.1 64 = .ok (.iconst 3, 1) := by decide +kernel
theorem d_md_set_65 : decode m_md_set.2.1 65 = .ok (.invokevirtual 149, 3) := by decide +kernel
theorem d_md_set_68 : decode m_md_set.2.1 68 = .ok (.ireturn, 1) := by decide +kernel
theorem d_md_set_69 : decode m_md_set.2.1 69 = .ok (.aload_n 0, 1) := by decide +kernel
theorem d_md_set_70 : decode m_md_set.2.1 70 = .ok (.getfield 75, 3) := by decide +kernel
theorem d_md_set_73 : decode m_md_set.2.1 73 = .ok (.iload_n 2, 1) := by decide +kernel
theorem d_md_set_74 : decode m_md_set.2.1 74 = .ok (.iaload, 1) := by decide +kernel
theorem d_md_set_75 : decode m_md_set.2.1 75 = .ok (.istore 5, 2) := by decide +kernel
theorem d_md_set_77 : decode m_md_set.2.1 77 = .ok (.iload_n 3, 1) := by decide +kernel
theorem d_md_set_78 : decode m_md_set.2.1 78 = .ok (.iconst (-1), 1) := by decide +kernel
theorem d_md_set_79 : decode m_md_set.2.1 79 = .ok (.if_icmp .eq (16), 3) := by decide +kernel
theorem d_md_set_82 : decode m_md_set.2.1 82 = .ok (.iload_n 3, 1) := by decide +kernel
theorem d_md_set_83 : decode m_md_set.2.1 83 = .ok (.iload 5, 2) := by decide +kernel
theorem d_md_set_85 : decode m_md_set.2.1 85 = .ok (.if_icmp .eq (10), 3) := by decide +kernel
theorem d_md_set_88 : decode m_md_set.2.1 88 = .ok (.aload_n 0, 1) := by decide +kernel
theorem d_md_set_89 : decode m_md_set.2.1 89 = .ok (.bipush (-2), 2) := by decide +kernel
theorem d_md_set_91 : decode m_md_set.2.1 91 = .ok (.invokevirtual 155, 3) := by decide +kernel
theorem d_md_set_94 : decode m_md_set.2.1 94 = .ok (.ireturn, 1) := by decide +kernel
theorem d_md_set_95 : decode m_md_set.2.1 95 = .ok (.aload_n 0, 1) := by decide +kernel
theorem d_md_set_96 : decode m_md_set.2.1 96 = .ok (.getfield 22, 3) := by decide +kernel
theorem d_md_set_99 : decode m_md_set.2.1 99 = .ok (.aload_n 0, 1) := by decide +kernel
theorem d_md_set_100 : decode m_md_set.2.1 100 = .ok (.getfield 105, 3) := by decide +kernel
theorem d_md_set_103 : decode m_md_set.2.1 103 = .ok (.iaload, 1) := by decide +kernel
theorem d_md_set_104 : decode m_md_set.2.1 104 = .ok (.bipush 60, 2) := by decide +kernel
theorem d_md_set_106 : decode m_md_set.2.1 106 = .ok (.if_icmp .lt (9), 3) := by decide +kernel
theorem d_md_set_109 : decode m_md_set.2.1 109 = .ok (.aload_n 0, 1) := by decide +kernel
theorem d_md_set_110 : decode m_md_set.2.1 110 = .ok (.iconst 2, 1) := by decide +kernel
theorem d_md_set_111 : decode m_md_set.2.1 111 = .ok (.invokevirtual 149, 3) := by decide +kernel
theorem d_md_set_114 : decode m_md_set.2.1 114 = .ok (.ireturn, 1) := by decide +kernel
theorem d_md_set_115 : decode m_md_set.2.1 115 = .ok (.aload_n 0, 1) := by decide +kernel
theorem d_md_set_116 : decode m_md_set.2.1 116 = .ok (.iconst 2, 1) := by decide +kernel
theorem d_md_set_117 : decode m_md_set.2.1 117 = .ok (.iload_n 2, 1) := by decide +kernel
theorem d_md_set_118 : decode m_md_set.2.1 118 = .ok (.iload 4, 2) := by decide +kernel
theorem d_md_set_120 : decode m_md_set.2.1 120 = .ok (.iconst (-1), 1) := by decide +kernel
theorem d_md_set_121 : decode m_md_set.2.1 121 = .ok (.invokevirtual 134, 3) := by decide +kernel
theorem d_md_set_124 : decode m_md_set.2.1 124 = .ok (.aload_n 0, 1) := by decide +kernel
theorem d_md_set_125 : decode m_md_set.2.1 125 = .ok (.invokevirtual 118, 3) := by decide +kernel
theorem d_md_set_128 : decode m_md_set.2.1 128 = .ok (.ifCond .eq (14), 3) := by decide +kernel
theorem d_md_set_131 : decode m_md_set.2.1 131 = .ok (.aload_n 0, 1) := by decide +kernel
theorem d_md_set_132 : decode m_md_set.2.1 132 = .ok (.iload 5, 2) := by decide +kernel
theorem d_md_set_134 : decode m_md_set.2.1 134 = .ok (.iconst 1, 1) := by decide +kernel
theorem d_md_set_135 : decode m_md_set.2.1 135 = .ok (.iadd, 1) := by decide +kernel
theorem d_md_set_136 : decode m_md_set.2.1 136 = .ok (.invokevirtual 155, 3) := by decide +kernel
theorem d_md_set_139 : decode m_md_set.2.1 139 = .ok (.goto 8, 3) := by decide +kernel
theorem d_md_set_142 : decode m_md_set.2.1 142 = .ok (.aload_n 0, 1) := by decide +kernel
theorem d_md_set_143 : decode m_md_set.2.1 143 = .ok (.iconst 2, 1) := by decide +kernel
theorem d_md_set_144 : decode m_md_set.2.1 144 = .ok (.invokevirtual 149, 3) := by decide +kernel
theorem d_md_set_147 : decode m_md_set.2.1 147 = .ok (.ireturn, 1) := by decide +kernel
theorem d_md_delete_0 : decode m_md_delete.2.1 0 = .ok (.aload_n 0, 1) := by decide +kernel
theorem d_md_delete_1 : decode m_md_delete.2.1 1 = .ok (.iconst 0, 1) := by decide +kernel
theorem d_md_delete_2 : decode m_md_delete.2.1 2 = .ok (.putfield 84, 3) := by decide +kernel
theorem d_md_delete_5 : decode m_md_delete.2.1 5 = .ok (.aload_n 0, 1) := by decide +kernel
theorem d_md_delete_6 : decode m_md_delete.2.1 6 = .ok (.iload_n 1, 1) := by decide +kernel
theorem d_md_delete_7 : decode m_md_delete.2.1 7 = .ok (.iconst 4, 1) := by decide +kernel
theorem d_md_delete_8 : decode m_md_delete.2.1 8 = .ok (.invokevirtual 145, 3) := by decide +kernel
theorem d_md_delete_11 : decode m_md_delete.2.1 11 = .ok (.ifCond .ne (20), 3) := by decide +kernel
theorem d_md_delete_14 : decode m_md_delete.2.1 14 = .ok (.iload_n 2, 1) := by decide +kernel
theorem d_md_delete_15 : decode m_md_delete.2.1 15 = .ok (.iconst 1, 1) := by decide +kernel
theorem d_md_delete_16 : decode m_md_delete.2.1 16 = .ok (.if_icmp .lt (15), 3) := by decide +kernel
theorem d_md_delete_19 : decode m_md_delete.2.1 19 = .ok (.iload_n 2, 1) := by decide +kernel
theorem d_md_delete_20 : decode m_md_delete.2.1 20 = .ok (.sipush 258, 3) := by decide +kernel
theorem d_md_delete_23 : decode m_md_delete.2.1 23 = .ok (.if_icmp .gt (8), 3) := by decide +kernel
theorem d_md_delete_26 : decode m_md_delete.2.1 26 = .ok (.iload_n 3, 1) := by decide +kernel
theorem d_md_delete_27 : decode m_md_delete.2.1 27 = .ok (.iconst (-1), 1) := by decide +kernel
theorem d_md_delete_28 : decode m_md_delete.2.1 28 = .ok (.if_icmp .ge (9), 3) := by decide +kernel
theorem d_md_delete_31 : decode m_md_delete.2.1 31 = .ok (.aload_n 0, 1) := by decide +kernel
theorem d_md_delete_32 : decode m_md_delete.2.1 32 = .ok (.iconst 1, 1) := by decide +kernel
theorem d_md_delete_33 : decode m_md_delete.2.1 33 = .ok (.invokevirtual 149, 3) := by decide +kernel
theorem d_md_delete_36 : decode m_md_delete.2.1 36 = .ok (.ireturn, 1) := by decide +kernel
theorem d_md_delete_37 : decode m_md_delete.2.1 37 = .ok (.aload_n 0, 1) := by decide +kernel
theorem d_md_delete_38 : decode m_md_delete.2.1 38 = .ok (.iload_n 1, 1) := by decide +kernel
theorem d_md_delete_39 : decode m_md_delete.2.1 39 = .ok (.invokevirtual 158, 3) := by decide +kernel
theorem d_md_delete_42 : decode m_md_delete.2.1 42 = .ok (.ifCond .ne (9), 3) := by decide +kernel
theorem d_md_delete_45 : decode m_md_delete.2.1 45 = .ok (.aload_n 0, 1) := by decide +kernel
theorem d_md_delete_46 : decode m_md_delete.2.1 46 = .ok (.iconst 2, 1) := by decide +kernel
theorem d_md_delete_47 : decode m_md_delete.2.1 47 = .ok (.invokevirtual 149, 3) := by decide +kernel
theorem d_md_delete_50 : decode m_md_delete.2.1 50 = .ok (.ireturn, 1) := by decide +kernel
theorem d_md_delete_51 : decode m_md_delete.2.1 51 = .ok (.aload_n 0, 1) := by decide +kernel
theorem d_md_delete_52 : decode m_md_delete.2.1 52 = .ok (.invokevirtual 128, 3) := by decide +kernel
theorem d_md_delete_55 : decode m_md_delete.2.1 55 = .ok (.aload_n 0, 1) := by decide +kernel
theorem d_md_delete_56 : decode m_md_delete.2.1 56 = .ok (.getfield 69, 3) := by decide +kernel
theorem d_md_delete_59 : decode m_md_delete.2.1 59 = .ok (.iload_n 2, 1) := by decide +kernel
theorem d_md_delete_60 : decode m_md_delete.2.1 60 = .ok (.baload, 1) := by decide +kernel
theorem d_md_delete_61 : decode m_md_delete.2.1 61 = .ok (.ifCond .ne (9), 3) := by decide +kernel
theorem d_md_delete_64 : decode m_md_delete.2.1 64 = .ok (.aload_n 0, 1) := by decide +kernel
theorem d_md_delete_65 : decode m_md_delete.2.1 65 = .ok (.iconst 3, 1) := by decide +kernel
theorem d_md_delete_66 : decode m_md_delete.2.1 66 = .ok (.invokevirtual 149, 3) := by decide +kernel
theorem d_md_delete_69 : decode m_md_delete.2.1 69 = .ok (.ireturn, 1) := by decide +kernel
theorem d_md_delete_70 : decode m_md_delete.2.1 70 = .ok (.aload_n 0, 1) := by decide +kernel
theorem d_md_delete_71 : decode m_md_delete.2.1 71 = .ok (.getfield 75, 3) := by decide +kernel
theorem d_md_delete_74 : decode m_md_delete.2.1 74 = .ok (.iload_n 2, 1) := by decide +kernel
theorem d_md_delete_75 : decode m_md_delete.2.1 75 = .ok (.iaload, 1) := by decide +kernel
theorem d_md_delete_76 : decode m_md_delete.2.1 76 = .ok (.istore 4, 2) := by decide +kernel
theorem d_md_delete_78 : decode m_md_delete.2.1 78 = .ok (.iload_n 3, 1) := by decide +kernel
theorem d_md_delete_79 : decode m_md_delete.2.1 79 = .ok (.iconst (-1), 1) := by decide +kernel
theorem d_md_delete_80 : decode m_md_delete.2.1 80 = .ok (.if_icmp .eq (16), 3) := by decide +kernel
theorem d_md_delete_83 : decode m_md_delete.2.1 83 = .ok (.iload_n 3, 1) := by decide +kernel
theorem d_md_delete_84 : decode m_md_delete.2.1 84 = .ok (.iload 4, 2) := by decide +kernel
theorem d_md_delete_86 : decode m_md_delete.2.1 86 = .ok (.if_icmp .eq (10), 3) := by decide +kernel
theorem d_md_delete_89 : decode m_md_delete.2.1 89 = .ok (.aload_n 0, 1) := by decide +kernel
theorem d_md_delete_90 : decode m_md_delete.2.1 90 = .ok (.bipush (-2), 2) := by decide +kernel
theorem d_md_delete_92 : decode m_md_delete.2.1 92 = .ok (.invokevirtual 155, 3) := by decide +kernel
theorem d_md_delete_95 : decode m_md_delete.2.1 95 = .ok (.ireturn, 1) := by decide +kernel
theorem d_md_delete_96 : decode m_md_delete.2.1 96 = .ok (.aload_n 0, 1) := by decide +kernel
theorem d_md_delete_97 : decode m_md_delete.2.1 97 = .ok (.iload_n 2, 1) := by decide +kernel
theorem d_md_delete_98 : decode m_md_delete.2.1 98 = .ok (.invokevirtual 164, 3) := by decide +kernel
theorem d_md_delete_101 : decode m_md_delete.2.1 101 = .ok (.ifCond .eq (9), 3) := by decide +kernel
theorem d_md_delete_104 : decode m_md_delete.2.1 104 = .ok (.aload_n 0, 1) := by decide +kernel
theorem d_md_delete_105 : decode m_md_delete.2.1 105 = .ok (.iconst 4, 1) := by decide +kernel
theorem d_md_delete_106 : decode m_md_delete.2.1 106 = .ok (.invokevirtual 149, 3) := by decide +kernel
theorem d_md_delete_109 : decode m_md_delete.2.1 109 = .ok (.ireturn, 1) := by decide +kernel
theorem d_md_delete_110 : decode m_md_delete.2.1 110 = .ok (.aload_n 0, 1) := by decide +kernel
theorem d_md_delete_111 : decode m_md_delete.2.1 111 = .ok (.getfield 22, 3) := by decide +kernel
theorem d_md_delete_114 : decode m_md_delete.2.1 114 = .ok (.aload_n 0, 1) := by decide +kernel
theorem d_md_delete_115 : decode m_md_delete.2.1 115 = .ok (.getfield 105, 3) := by decide +kernel
theorem d_md_delete_118 : decode m_md_delete.2.1 118 = .ok (.iaload, 1) := by decide +kernel
theorem d_md_delete_119 : decode m_md_delete.2.1 119 = .ok (.bipush 60, 2) := by decide +kernel
theorem d_md_delete_121 : decode m_md_delete.2.1 121 = .ok (.if_icmp .lt (9), 3) := by decide +kernel
theorem d_md_delete_124 : decode m_md_delete.2.1 124 = .ok (.aload_n 0, 1) := by decide +kernel
theorem d_md_delete_125 : decode m_md_delete.2.1 125 = .ok (.iconst 2, 1) := by decide +kernel
theorem d_md_delete_126 : decode m_md_delete.2.1 126 = .ok (.invokevirtual 149, 3) := by decide +kernel
theorem d_md_delete_129 : decode m_md_delete.2.1 129 = .ok (.ireturn, 1) := by decide +kernel
theorem d_md_delete_130 : decode m_md_delete.2.1 130 = .ok (.aload_n 0, 1) := by decide +kernel
theorem d_md_delete_131 : decode m_md_delete.2.1 131 = .ok (.iconst 3, 1) := by decide +kernel
theorem d_md_delete_132 : decode m_md_delete.2.1 132 = .ok (.iload_n 2, 1) := by decide +kernel
theorem d_md_delete_133 : decode m_md_delete.2.1 133 = .ok (.iconst 0, 1) := by decide +kernel
theorem d_md_delete_134 : decode m_md_delete.2.1 134 = .ok (.iconst (-1), 1) := by decide +kernel
theorem d_md_delete_135 : decode m_md_delete.2.1 135 = .ok (.invokevirtual 134, 3) := by decide +kernel
theorem d_md_delete_138 : decode m_md_delete.2.1 138 = .ok (.aload_n 0, 1) := by decide +kernel
theorem d_md_delete_139 : decode m_md_delete.2.1 139 = .ok (.invokevirtual 118, 3) := by decide +kernel
theorem d_md_delete_142 : decode m_md_delete.2.1 142 = .ok (.ifCond .eq (12), 3) := by decide +kernel
theorem d_md_delete_145 : decode m_md_delete.2.1 145 = .ok (.aload_n 0, 1) := by decide +kernel
theorem d_md_delete_146 : decode m_md_delete.2.1 146 = .ok (.iload 4, 2) := by decide +kernel
theorem d_md_delete_148 : decode m_md_delete.2.1 148 = .ok (.invokevirtual 155, 3) := by decide +kernel
theorem d_md_delete_151 : decode m_md_delete.2.1 151 = .ok (.goto 8, 3) := by decide +kernel
theorem d_md_delete_154 : decode m_md_delete.2.1 154 = .ok (.aload_n 0, 1) := by decide +kernel
theorem d_md_delete_155 : decode m_md_delete.2.1 155 = .ok (.iconst 2, 1) := by decide +kernel
theorem d_md_delete_156 : decode m_md_delete.2.1 156 = .ok (.invokevirtual 149, 3) := by decide +kernel
theorem d_md_delete_159 : decode m_md_delete.2.1 159 = .ok (.ireturn, 1) := by decide +kernel
theorem d_md_childrenOf_0 : decode m_md_childrenOf.2.1 0 = .ok (.iconst 0, 1) := by decide +kernel
theorem d_md_childrenOf_1 : decode m_md_childrenOf.2.1 1 = .ok (.istore_n 2, 1) := by decide +kernel
theorem d_md_childrenOf_2 : decode m_md_childrenOf.2.1 2 = .ok (.iconst 0, 1) := by decide +kernel
theorem d_md_childrenOf_3 : decode m_md_childrenOf.2.1 3 = .ok (.istore_n 3, 1) := by decide +kernel
theorem d_md_childrenOf_4 : decode m_md_childrenOf.2.1 4 = .ok (.iload_n 1, 1) := by decide +kernel
theorem d_md_childrenOf_5 : decode m_md_childrenOf.2.1 5 = .ok (.bipush 43, 2) := by decide +kernel
theorem d_md_childrenOf_7 : decode m_md_childrenOf.2.1 7 = .ok (.if_icmp .ge (41), 3) := by decide +kernel
theorem d_md_childrenOf_10 : decode m_md_childrenOf.2.1 10 = .ok (.iload_n 3, 1) := by decide +kernel
theorem d_md_childrenOf_11 : decode m_md_childrenOf.2.1 11 = .ok (.bipush 6, 2) := by decide +kernel
theorem d_md_childrenOf_13 : decode m_md_childrenOf.2.1 13 = .ok (.if_icmp .ge (35), 3) := by decide +kernel
theorem d_md_childrenOf_16 : decode m_md_childrenOf.2.1 16 = .ok (.iload_n 2, 1) := by decide +kernel
theorem d_md_childrenOf_17 : decode m_md_childrenOf.2.1 17 = .ok (.aload_n 0, 1) := by decide +kernel
theorem d_md_childrenOf_18 : decode m_md_childrenOf.2.1 18 = .ok (.getfield 69, 3) := by decide +kernel
theorem d_md_childrenOf_21 : decode m_md_childrenOf.2.1 21 = .ok (.bipush 6, 2) := by decide +kernel
theorem d_md_childrenOf_23 : decode m_md_childrenOf.2.1 23 = .ok (.iload_n 1, 1) := by decide +kernel
theorem d_md_childrenOf_24 : decode m_md_childrenOf.2.1 24 = .ok (.imul, 1) := by decide +kernel
theorem d_md_childrenOf_25 : decode m_md_childrenOf.2.1 25 = .ok (.iload_n 3, 1) := by decide +kernel
theorem d_md_childrenOf_26 : decode m_md_childrenOf.2.1 26 = .ok (.iadd, 1) := by decide +kernel
theorem d_md_childrenOf_27 : decode m_md_childrenOf.2.1 27 = .ok (.iconst 1, 1) := by decide +kernel
theorem d_md_childrenOf_28 : decode m_md_childrenOf.2.1 28 = .ok (.iadd, 1) := by decide +kernel
theorem d_md_childrenOf_29 : decode m_md_childrenOf.2.1 29 = .ok (.baload, 1) := by decide +kernel
theorem d_md_childrenOf_30 : decode m_md_childrenOf.2.1 30 = .ok (.ifCond .eq (9), 3) := by decide +kernel
theorem d_md_childrenOf_33 : decode m_md_childrenOf.2.1 33 = .ok (.iconst 1, 1) := by decide +kernel
theorem d_md_childrenOf_34 : decode m_md_childrenOf.2.1 34 = .ok (.iload_n 3, 1) := by decide +kernel
theorem d_md_childrenOf_35 : decode m_md_childrenOf.2.1 35 = .ok (.ishl, 1) := by decide +kernel
theorem d_md_childrenOf_36 : decode m_md_childrenOf.2.1 36 = .ok (.goto 4, 3) := by decide +kernel
theorem d_md_childrenOf_39 : decode m_md_childrenOf.2.1 39 = .ok (.iconst 0, 1) := by decide +kernel
theorem d_md_childrenOf_40 : decode m_md_childrenOf.2.1 40 = .ok (.ior, 1) := by decide +kernel
theorem d_md_childrenOf_41 : decode m_md_childrenOf.2.1 41 = .ok (.istore_n 2, 1) := by decide +kernel
theorem d_md_childrenOf_42 : decode m_md_childrenOf.2.1 42 = .ok (.iinc 3 1, 3) := by decide +kernel
theorem d_md_childrenOf_45 : decode m_md_childrenOf.2.1 45 = .ok (.goto (-41), 3) := by decide +kernel
theorem d_md_childrenOf_48 : decode m_md_childrenOf.2.1 48 = .ok (.iload_n 2, 1) := by decide +kernel
theorem d_md_childrenOf_49 : decode m_md_childrenOf.2.1 49 = .ok (.ireturn, 1) := by decide +kernel
theorem d_md_get_0 : decode m_md_get.2.1 0 = .ok (.aload_n 0, 1) := by decide +kernel
theorem d_md_get_1 : decode m_md_get.2.1 1 = .ok (.aload_n 0, 1) := by decide +kernel
theorem d_md_get_2 : decode m_md_get.2.1 2 = .ok (.iload_n 1, 1) := by decide +kernel
theorem d_md_get_3 : decode m_md_get.2.1 3 = .ok (.iload_n 2, 1) := by decide +kernel
theorem d_md_get_4 : decode m_md_get.2.1 4 = .ok (.sipush 259, 3) := by decide +kernel
theorem d_md_get_7 : decode m_md_get.2.1 7 = .ok (.invokevirtual 167, 3) := by decide +kernel
theorem d_md_get_10 : decode m_md_get.2.1 10 = .ok (.putfield 84, 3) := by decide +kernel
theorem d_md_get_13 : decode m_md_get.2.1 13 = .ok (.aload_n 0, 1) := by decide +kernel
theorem d_md_get_14 : decode m_md_get.2.1 14 = .ok (.getfield 84, 3) := by decide +kernel
theorem d_md_get_17 : decode m_md_get.2.1 17 = .ok (.ifCond .ne (17), 3) := by decide +kernel
theorem d_md_get_20 : decode m_md_get.2.1 20 = .ok (.aload_n 0, 1) := by decide +kernel
theorem d_md_get_21 : decode m_md_get.2.1 21 = .ok (.getfield 69, 3) := by decide +kernel
theorem d_md_get_24 : decode m_md_get.2.1 24 = .ok (.iload_n 2, 1) := by decide +kernel
theorem d_md_get_25 : decode m_md_get.2.1 25 = .ok (.baload, 1) := by decide +kernel
theorem d_md_get_26 : decode m_md_get.2.1 26 = .ok (.ifCond .ne (8), 3) := by decide +kernel
theorem d_md_get_29 : decode m_md_get.2.1 29 = .ok (.aload_n 0, 1) := by decide +kernel
theorem d_md_get_30 : decode m_md_get.2.1 30 = .ok (.iconst 3, 1) := by decide +kernel
theorem d_md_get_31 : decode m_md_get.2.1 31 = .ok (.putfield 84, 3) := by decide +kernel
theorem d_md_get_34 : decode m_md_get.2.1 34 = .ok (.aload_n 0, 1) := by decide +kernel
theorem d_md_get_35 : decode m_md_get.2.1 35 = .ok (.getfield 84, 3) := by decide +kernel
theorem d_md_get_38 : decode m_md_get.2.1 38 = .ok (.ifCond .le (5), 3) := by decide +kernel
theorem d_md_get_41 : decode m_md_get.2.1 41 = .ok (.iconst 0, 1) := by decide +kernel
theorem d_md_get_42 : decode m_md_get.2.1 42 = .ok (.ireturn, 1) := by decide +kernel
theorem d_md_get_43 : decode m_md_get.2.1 43 = .ok (.aload_n 0, 1) := by decide +kernel
theorem d_md_get_44 : decode m_md_get.2.1 44 = .ok (.getfield 72, 3) := by decide +kernel
theorem d_md_get_47 : decode m_md_get.2.1 47 = .ok (.iload_n 2, 1) := by decide +kernel
theorem d_md_get_48 : decode m_md_get.2.1 48 = .ok (.iaload, 1) := by decide +kernel
theorem d_md_get_49 : decode m_md_get.2.1 49 = .ok (.istore 4, 2) := by decide +kernel
theorem d_md_get_51 : decode m_md_get.2.1 51 = .ok (.iload_n 3, 1) := by decide +kernel
theorem d_md_get_52 : decode m_md_get.2.1 52 = .ok (.ifCond .eq (16), 3) := by decide +kernel
theorem d_md_get_55 : decode m_md_get.2.1 55 = .ok (.aload_n 0, 1) := by decide +kernel
theorem d_md_get_56 : decode m_md_get.2.1 56 = .ok (.getfield 57, 3) := by decide +kernel
theorem d_md_get_59 : decode m_md_get.2.1 59 = .ok (.sipush 259, 3) := by decide +kernel
theorem d_md_get_62 : decode m_md_get.2.1 62 = .ok (.iload_n 1, 1) := by decide +kernel
theorem d_md_get_63 : decode m_md_get.2.1 63 = .ok (.imul, 1) := by decide +kernel
theorem d_md_get_64 : decode m_md_get.2.1 64 = .ok (.iload_n 2, 1) := by decide +kernel
theorem d_md_get_65 : decode m_md_get.2.1 65 = .ok (.iadd, 1) := by decide +kernel
theorem d_md_get_66 : decode m_md_get.2.1 66 = .ok (.iconst 1, 1) := by decide +kernel
theorem d_md_get_67 : decode m_md_get.2.1 67 = .ok (.bastore, 1) := by decide +kernel
theorem d_md_get_68 : decode m_md_get.2.1 68 = .ok (.aload_n 0, 1) := by decide +kernel
theorem d_md_get_69 : decode m_md_get.2.1 69 = .ok (.iload 4, 2) := by decide +kernel
theorem d_md_get_71 : decode m_md_get.2.1 71 = .ok (.invokevirtual 155, 3) := by decide +kernel
theorem d_md_get_74 : decode m_md_get.2.1 74 = .ok (.ireturn, 1) := by decide +kernel
theorem d_md_look_0 : decode m_md_look.2.1 0 = .ok (.aload_n 0, 1) := by decide +kernel
theorem d_md_look_1 : decode m_md_look.2.1 1 = .ok (.iload_n 1, 1) := by decide +kernel
theorem d_md_look_2 : decode m_md_look.2.1 2 = .ok (.iconst 4, 1) := by decide +kernel
theorem d_md_look_3 : decode m_md_look.2.1 3 = .ok (.invokevirtual 145, 3) := by decide +kernel
theorem d_md_look_6 : decode m_md_look.2.1 6 = .ok (.ifCond .ne (12), 3) := by decide +kernel
theorem d_md_look_9 : decode m_md_look.2.1 9 = .ok (.aload_n 0, 1) := by decide +kernel
theorem d_md_look_10 : decode m_md_look.2.1 10 = .ok (.iload_n 2, 1) := by decide +kernel
theorem d_md_look_11 : decode m_md_look.2.1 11 = .ok (.iload_n 3, 1) := by decide +kernel
theorem d_md_look_12 : decode m_md_look.2.1 12 = .ok (.invokevirtual 145, 3) := by decide +kernel
theorem d_md_look_15 : decode m_md_look.2.1 15 = .ok (.ifCond .eq (5), 3) := by decide +kernel
theorem d_md_look_18 : decode m_md_look.2.1 18 = .ok (.iconst 1, 1) := by decide +kernel
theorem d_md_look_19 : decode m_md_look.2.1 19 = .ok (.ireturn, 1) := by decide +kernel
theorem d_md_look_20 : decode m_md_look.2.1 20 = .ok (.aload_n 0, 1) := by decide +kernel
theorem d_md_look_21 : decode m_md_look.2.1 21 = .ok (.iload_n 1, 1) := by decide +kernel
theorem d_md_look_22 : decode m_md_look.2.1 22 = .ok (.invokevirtual 138, 3) := by decide +kernel
theorem d_md_look_25 : decode m_md_look.2.1 25 = .ok (.ifCond .ne (5), 3) := by decide +kernel
theorem d_md_look_28 : decode m_md_look.2.1 28 = .ok (.iconst 2, 1) := by decide +kernel
theorem d_md_look_29 : decode m_md_look.2.1 29 = .ok (.ireturn, 1) := by decide +kernel
theorem d_md_look_30 : decode m_md_look.2.1 30 = .ok (.aload_n 0, 1) := by decide +kernel
theorem d_md_look_31 : decode m_md_look.2.1 31 = .ok (.aload_n 0, 1) := by decide +kernel
theorem d_md_look_32 : decode m_md_look.2.1 32 = .ok (.getfield 48, 3) := by decide +kernel
theorem d_md_look_35 : decode m_md_look.2.1 35 = .ok (.iload_n 1, 1) := by decide +kernel
theorem d_md_look_36 : decode m_md_look.2.1 36 = .ok (.iaload, 1) := by decide +kernel
theorem d_md_look_37 : decode m_md_look.2.1 37 = .ok (.aload_n 0, 1) := by decide +kernel
theorem d_md_look_38 : decode m_md_look.2.1 38 = .ok (.getfield 25, 3) := by decide +kernel
theorem d_md_look_41 : decode m_md_look.2.1 41 = .ok (.aload_n 0, 1) := by decide +kernel
theorem d_md_look_42 : decode m_md_look.2.1 42 = .ok (.getfield 48, 3) := by decide +kernel
theorem d_md_look_45 : decode m_md_look.2.1 45 = .ok (.iload_n 1, 1) := by decide +kernel
theorem d_md_look_46 : decode m_md_look.2.1 46 = .ok (.iaload, 1) := by decide +kernel
theorem d_md_look_47 : decode m_md_look.2.1 47 = .ok (.iaload, 1) := by decide +kernel
theorem d_md_look_48 : decode m_md_look.2.1 48 = .ok (.invokevirtual 122, 3) := by decide +kernel
theorem d_md_look_51 : decode m_md_look.2.1 51 = .ok (.iconst 0, 1) := by decide +kernel
theorem d_md_look_52 : decode m_md_look.2.1 52 = .ok (.ireturn, 1) := by decide +kernel
theorem d_md_exists_0 : decode m_md_exists.2.1 0 = .ok (.aload_n 0, 1) := by decide +kernel
theorem d_md_exists_1 : decode m_md_exists.2.1 1 = .ok (.aload_n 0, 1) := by decide +kernel
theorem d_md_exists_2 : decode m_md_exists.2.1 2 = .ok (.iload_n 1, 1) := by decide +kernel
theorem d_md_exists_3 : decode m_md_exists.2.1 3 = .ok (.iload_n 2, 1) := by decide +kernel
theorem d_md_exists_4 : decode m_md_exists.2.1 4 = .ok (.sipush 259, 3) := by decide +kernel
theorem d_md_exists_7 : decode m_md_exists.2.1 7 = .ok (.invokevirtual 167, 3) := by decide +kernel
theorem d_md_exists_10 : decode m_md_exists.2.1 10 = .ok (.putfield 84, 3) := by decide +kernel
theorem d_md_exists_13 : decode m_md_exists.2.1 13 = .ok (.aload_n 0, 1) := by decide +kernel
theorem d_md_exists_14 : decode m_md_exists.2.1 14 = .ok (.getfield 84, 3) := by decide +kernel
theorem d_md_exists_17 : decode m_md_exists.2.1 17 = .ok (.ifCond .le (5), 3) := by decide +kernel
theorem d_md_exists_20 : decode m_md_exists.2.1 20 = .ok (.iconst 0, 1) := by decide +kernel
theorem d_md_exists_21 : decode m_md_exists.2.1 21 = .ok (.ireturn, 1) := by decide +kernel
theorem d_md_exists_22 : decode m_md_exists.2.1 22 = .ok (.aload_n 0, 1) := by decide +kernel
theorem d_md_exists_23 : decode m_md_exists.2.1 23 = .ok (.getfield 69, 3) := by decide +kernel
theorem d_md_exists_26 : decode m_md_exists.2.1 26 = .ok (.iload_n 2, 1) := by decide +kernel
theorem d_md_exists_27 : decode m_md_exists.2.1 27 = .ok (.baload, 1) := by decide +kernel
theorem d_md_exists_28 : decode m_md_exists.2.1 28 = .ok (.istore 4, 2) := by decide +kernel
theorem d_md_exists_30 : decode m_md_exists.2.1 30 = .ok (.iload_n 3, 1) := by decide +kernel
theorem d_md_exists_31 : decode m_md_exists.2.1 31 = .ok (.ifCond .eq (16), 3) := by decide +kernel
theorem d_md_exists_34 : decode m_md_exists.2.1 34 = .ok (.aload_n 0, 1) := by decide +kernel
theorem d_md_exists_35 : decode m_md_exists.2.1 35 = .ok (.getfield 57, 3) := by decide +kernel
theorem d_md_exists_38 : decode m_md_exists.2.1 38 = .ok (.sipush 259, 3) := by decide +kernel
theorem d_md_exists_41 : decode m_md_exists.2.1 41 = .ok (.iload_n 1, 1) := by decide +kernel
theorem d_md_exists_42 : decode m_md_exists.2.1 42 = .ok (.imul, 1) := by decide +kernel
theorem d_md_exists_43 : decode m_md_exists.2.1 43 = .ok (.iload_n 2, 1) := by decide +kernel
theorem d_md_exists_44 : decode m_md_exists.2.1 44 = .ok (.iadd, 1) := by decide +kernel
theorem d_md_exists_45 : decode m_md_exists.2.1 45 = .ok (.iconst 1, 1) := by decide +kernel
theorem d_md_exists_46 : decode m_md_exists.2.1 46 = .ok (.bastore, 1) := by decide +kernel
theorem d_md_exists_47 : decode m_md_exists.2.1 47 = .ok (.aload_n 0, 1) := by decide +kernel
theorem d_md_exists_48 : decode m_md_exists.2.1 48 = .ok (.iload 4, 2) := by decide +kernel
theorem d_md_exists_50 : decode m_md_exists.2.1 50 = .ok (.ifCond .eq (7), 3) := by decide +kernel
theorem d_md_exists_53 : decode m_md_exists.2.1 53 = .ok (.iconst 1, 1) := by decide +kernel
theorem d_md_exists_54 : decode m_md_exists.2.1 54 = .ok (.goto 4, 3) := by decide +kernel
theorem d_md_exists_57 : decode m_md_exists.2.1 57 = .ok (.iconst 0, 1) := by decide +kernel
theorem d_md_exists_58 : decode m_md_exists.2.1 58 = .ok (.invokevirtual 155, 3) := by decide +kernel
theorem d_md_exists_61 : decode m_md_exists.2.1 61 = .ok (.iconst 1, 1) := by decide +kernel
theorem d_md_exists_62 : decode m_md_exists.2.1 62 = .ok (.if_icmp .ne (7), 3) := by decide +kernel
theorem d_md_exists_65 : decode m_md_exists.2.1 65 = .ok (.iconst 1, 1) := by decide +kernel
theorem d_md_exists_66 : decode m_md_exists.2.1 66 = .ok (.goto 4, 3) := by decide +kernel
theorem d_md_exists_69 : decode m_md_exists.2.1 69 = .ok (.iconst 0, 1) := by decide +kernel
theorem d_md_exists_70 : decode m_md_exists.2.1 70 = .ok (.ireturn, 1) := by decide +kernel
theorem d_md_children_0 : decode m_md_children.2.1 0 = .ok (.aload_n 0, 1) := by decide +kernel
theorem d_md_children_1 : decode m_md_children.2.1 1 = .ok (.aload_n 0, 1) := by decide +kernel
theorem d_md_children_2 : decode m_md_children.2.1 2 = .ok (.iload_n 1, 1) := by decide +kernel
theorem d_md_children_3 : decode m_md_children.2.1 3 = .ok (.iload_n 2, 1) := by decide +kernel
theorem d_md_children_4 : decode m_md_children.2.1 4 = .ok (.bipush 43, 2) := by decide +kernel
theorem d_md_children_6 : decode m_md_children.2.1 6 = .ok (.invokevirtual 167, 3) := by decide +kernel
theorem d_md_children_9 : decode m_md_children.2.1 9 = .ok (.putfield 84, 3) := by decide +kernel
theorem d_md_children_12 : decode m_md_children.2.1 12 = .ok (.aload_n 0, 1) := by decide +kernel
theorem d_md_children_13 : decode m_md_children.2.1 13 = .ok (.getfield 84, 3) := by decide +kernel
theorem d_md_children_16 : decode m_md_children.2.1 16 = .ok (.ifCond .ne (17), 3) := by decide +kernel
theorem d_md_children_19 : decode m_md_children.2.1 19 = .ok (.aload_n 0, 1) := by decide +kernel
theorem d_md_children_20 : decode m_md_children.2.1 20 = .ok (.getfield 69, 3) := by decide +kernel
theorem d_md_children_23 : decode m_md_children.2.1 23 = .ok (.iload_n 2, 1) := by decide +kernel
theorem d_md_children_24 : decode m_md_children.2.1 24 = .ok (.baload, 1) := by decide +kernel
theorem d_md_children_25 : decode m_md_children.2.1 25 = .ok (.ifCond .ne (8), 3) := by decide +kernel
theorem d_md_children_28 : decode m_md_children.2.1 28 = .ok (.aload_n 0, 1) := by decide +kernel
theorem d_md_children_29 : decode m_md_children.2.1 29 = .ok (.iconst 3, 1) := by decide +kernel
theorem d_md_children_30 : decode m_md_children.2.1 30 = .ok (.putfield 84, 3) := by decide +kernel
theorem d_md_children_33 : decode m_md_children.2.1 33 = .ok (.aload_n 0, 1) := by decide +kernel
theorem d_md_children_34 : decode m_md_children.2.1 34 = .ok (.getfield 84, 3) := by decide +kernel
theorem d_md_children_37 : decode m_md_children.2.1 37 = .ok (.ifCond .le (5), 3) := by decide +kernel
theorem d_md_children_40 : decode m_md_children.2.1 40 = .ok (.iconst 0, 1) := by decide +kernel
theorem d_md_children_41 : decode m_md_children.2.1 41 = .ok (.ireturn, 1) := by decide +kernel
theorem d_md_children_42 : decode m_md_children.2.1 42 = .ok (.aload_n 0, 1) := by decide +kernel
theorem d_md_children_43 : decode m_md_children.2.1 43 = .ok (.iload_n 2, 1) := by decide +kernel
theorem d_md_children_44 : decode m_md_children.2.1 44 = .ok (.invokevirtual 164, 3) := by decide +kernel
theorem d_md_children_47 : decode m_md_children.2.1 47 = .ok (.istore 4, 2) := by decide +kernel
theorem d_md_children_49 : decode m_md_children.2.1 49 = .ok (.iload_n 3, 1) := by decide +kernel
theorem d_md_children_50 : decode m_md_children.2.1 50 = .ok (.ifCond .eq (16), 3) := by decide +kernel
theorem d_md_children_53 : decode m_md_children.2.1 53 = .ok (.aload_n 0, 1) := by decide +kernel
theorem d_md_children_54 : decode m_md_children.2.1 54 = .ok (.getfield 60, 3) := by decide +kernel
theorem d_md_children_57 : decode m_md_children.2.1 57 = .ok (.sipush 259, 3) := by decide +kernel
theorem d_md_children_60 : decode m_md_children.2.1 60 = .ok (.iload_n 1, 1) := by decide +kernel
theorem d_md_children_61 : decode m_md_children.2.1 61 = .ok (.imul, 1) := by decide +kernel
theorem d_md_children_62 : decode m_md_children.2.1 62 = .ok (.iload_n 2, 1) := by decide +kernel
theorem d_md_children_63 : decode m_md_children.2.1 63 = .ok (.iadd, 1) := by decide +kernel
theorem d_md_children_64 : decode m_md_children.2.1 64 = .ok (.iconst 1, 1) := by decide +kernel
theorem d_md_children_65 : decode m_md_children.2.1 65 = .ok (.bastore, 1) := by decide +kernel
theorem d_md_children_66 : decode m_md_children.2.1 66 = .ok (.aload_n 0, 1) := by decide +kernel
theorem d_md_children_67 : decode m_md_children.2.1 67 = .ok (.iload 4, 2) := by decide +kernel
theorem d_md_children_69 : decode m_md_children.2.1 69 = .ok (.invokevirtual 155, 3) := by decide +kernel
theorem d_md_children_72 : decode m_md_children.2.1 72 = .ok (.ireturn, 1) := by decide +kernel
theorem d_md_fact_0 : decode m_md_fact.2.1 0 = .ok (.aload_n 0, 1) := by decide +kernel
theorem d_md_fact_1 : decode m_md_fact.2.1 1 = .ok (.aload_n 0, 1) := by decide +kernel
theorem d_md_fact_2 : decode m_md_fact.2.1 2 = .ok (.iload_n 3, 1) := by decide +kernel
theorem d_md_fact_3 : decode m_md_fact.2.1 3 = .ok (.iconst 3, 1) := by decide +kernel
theorem d_md_fact_4 : decode m_md_fact.2.1 4 = .ok (.invokevirtual 145, 3) := by decide +kernel
theorem d_md_fact_7 : decode m_md_fact.2.1 7 = .ok (.ifCond .eq (7), 3) := by decide +kernel
theorem d_md_fact_10 : decode m_md_fact.2.1 10 = .ok (.iconst 1, 1) := by decide +kernel
theorem d_md_fact_11 : decode m_md_fact.2.1 11 = .ok (.goto 12, 3) := by decide +kernel
theorem d_md_fact_14 : decode m_md_fact.2.1 14 = .ok (.aload_n 0, 1) := by decide +kernel
theorem d_md_fact_15 : decode m_md_fact.2.1 15 = .ok (.iload_n 1, 1) := by decide +kernel
theorem d_md_fact_16 : decode m_md_fact.2.1 16 = .ok (.iload_n 2, 1) := by decide +kernel
theorem d_md_fact_17 : decode m_md_fact.2.1 17 = .ok (.sipush 259, 3) := by decide +kernel
theorem d_md_fact_20 : decode m_md_fact.2.1 20 = .ok (.invokevirtual 167, 3) := by decide +kernel
theorem d_md_fact_23 : decode m_md_fact.2.1 23 = .ok (.putfield 84, 3) := by decide +kernel
theorem d_md_fact_26 : decode m_md_fact.2.1 26 = .ok (.aload_n 0, 1) := by decide +kernel
theorem d_md_fact_27 : decode m_md_fact.2.1 27 = .ok (.getfield 84, 3) := by decide +kernel
theorem d_md_fact_30 : decode m_md_fact.2.1 30 = .ok (.ifCond .ne (17), 3) := by decide +kernel
theorem d_md_fact_33 : decode m_md_fact.2.1 33 = .ok (.aload_n 0, 1) := by decide +kernel
theorem d_md_fact_34 : decode m_md_fact.2.1 34 = .ok (.getfield 69, 3) := by decide +kernel
theorem d_md_fact_37 : decode m_md_fact.2.1 37 = .ok (.iload_n 2, 1) := by decide +kernel
theorem d_md_fact_38 : decode m_md_fact.2.1 38 = .ok (.baload, 1) := by decide +kernel
theorem d_md_fact_39 : decode m_md_fact.2.1 39 = .ok (.ifCond .ne (8), 3) := by decide +kernel
theorem d_md_fact_42 : decode m_md_fact.2.1 42 = .ok (.aload_n 0, 1) := by decide +kernel
theorem d_md_fact_43 : decode m_md_fact.2.1 43 = .ok (.iconst 3, 1) := by decide +kernel
theorem d_md_fact_44 : decode m_md_fact.2.1 44 = .ok (.putfield 84, 3) := by decide +kernel
theorem d_md_fact_47 : decode m_md_fact.2.1 47 = .ok (.aload_n 0, 1) := by decide +kernel
theorem d_md_fact_48 : decode m_md_fact.2.1 48 = .ok (.getfield 84, 3) := by decide +kernel
theorem d_md_fact_51 : decode m_md_fact.2.1 51 = .ok (.ifCond .le (5), 3) := by decide +kernel
theorem d_md_fact_54 : decode m_md_fact.2.1 54 = .ok (.iconst 0, 1) := by decide +kernel
theorem d_md_fact_55 : decode m_md_fact.2.1 55 = .ok (.ireturn, 1) := by decide +kernel
theorem d_md_fact_56 : decode m_md_fact.2.1 56 = .ok (.aload_n 0, 1) := by decide +kernel
theorem d_md_fact_57 : decode m_md_fact.2.1 57 = .ok (.iload_n 3, 1) := by decide +kernel
theorem d_md_fact_58 : decode m_md_fact.2.1 58 = .ok (.ifCond .ne (12), 3) := by decide +kernel
theorem d_md_fact_61 : decode m_md_fact.2.1 61 = .ok (.aload_n 0, 1) := by decide +kernel
theorem d_md_fact_62 : decode m_md_fact.2.1 62 = .ok (.getfield 75, 3) := by decide +kernel
theorem d_md_fact_65 : decode m_md_fact.2.1 65 = .ok (.iload_n 2, 1) := by decide +kernel
theorem d_md_fact_66 : decode m_md_fact.2.1 66 = .ok (.iaload, 1) := by decide +kernel
theorem d_md_fact_67 : decode m_md_fact.2.1 67 = .ok (.goto 23, 3) := by decide +kernel
theorem d_md_fact_70 : decode m_md_fact.2.1 70 = .ok (.iload_n 3, 1) := by decide +kernel
theorem d_md_fact_71 : decode m_md_fact.2.1 71 = .ok (.iconst 1, 1) := by decide +kernel
theorem d_md_fact_72 : decode m_md_fact.2.1 72 = .ok (.if_icmp .ne (12), 3) := by decide +kernel
theorem d_md_fact_75 : decode m_md_fact.2.1 75 = .ok (.aload_n 0, 1) := by decide +kernel
theorem d_md_fact_76 : decode m_md_fact.2.1 76 = .ok (.getfield 78, 3) := by decide +kernel
theorem d_md_fact_79 : decode m_md_fact.2.1 79 = .ok (.iload_n 2, 1) := by decide +kernel
theorem d_md_fact_80 : decode m_md_fact.2.1 80 = .ok (.iaload, 1) := by decide +kernel
theorem d_md_fact_81 : decode m_md_fact.2.1 81 = .ok (.goto 9, 3) := by decide +kernel
theorem d_md_fact_84 : decode m_md_fact.2.1 84 = .ok (.aload_n 0, 1) := by decide +kernel
theorem d_md_fact_85 : decode m_md_fact.2.1 85 = .ok (.getfield 81, 3) := by decide +kernel
theorem d_md_fact_88 : decode m_md_fact.2.1 88 = .ok (.iload_n 2, 1) := by decide +kernel
theorem d_md_fact_89 : decode m_md_fact.2.1 89 = .ok (.iaload, 1) := by decide +kernel
theorem d_md_fact_90 : decode m_md_fact.2.1 90 = .ok (.invokevirtual 155, 3) := by decide +kernel
theorem d_md_fact_93 : decode m_md_fact.2.1 93 = .ok (.ireturn, 1) := by decide +kernel
theorem d_md_event_0 : decode m_md_event.2.1 0 = .ok (.aload_n 0, 1) := by decide +kernel
theorem d_md_event_1 : decode m_md_event.2.1 1 = .ok (.iconst 0, 1) := by decide +kernel
theorem d_md_event_2 : decode m_md_event.2.1 2 = .ok (.putfield 84, 3) := by decide +kernel
theorem d_md_event_5 : decode m_md_event.2.1 5 = .ok (.aload_n 0, 1) := by decide +kernel
theorem d_md_event_6 : decode m_md_event.2.1 6 = .ok (.iload_n 1, 1) := by decide +kernel
theorem d_md_event_7 : decode m_md_event.2.1 7 = .ok (.iconst 4, 1) := by decide +kernel
theorem d_md_event_8 : decode m_md_event.2.1 8 = .ok (.invokevirtual 145, 3) := by decide +kernel
theorem d_md_event_11 : decode m_md_event.2.1 11 = .ok (.ifCond .eq (9), 3) := by decide +kernel
theorem d_md_event_14 : decode m_md_event.2.1 14 = .ok (.aload_n 0, 1) := by decide +kernel
theorem d_md_event_15 : decode m_md_event.2.1 15 = .ok (.iconst 1, 1) := by decide +kernel
theorem d_md_event_16 : decode m_md_event.2.1 16 = .ok (.invokevirtual 149, 3) := by decide +kernel
theorem d_md_event_19 : decode m_md_event.2.1 19 = .ok (.ireturn, 1) := by decide +kernel
theorem d_md_event_20 : decode m_md_event.2.1 20 = .ok (.aload_n 0, 1) := by decide +kernel
theorem d_md_event_21 : decode m_md_event.2.1 21 = .ok (.getfield 42, 3) := by decide +kernel
theorem d_md_event_24 : decode m_md_event.2.1 24 = .ok (.iload_n 1, 1) := by decide +kernel
theorem d_md_event_25 : decode m_md_event.2.1 25 = .ok (.baload, 1) := by decide +kernel
theorem d_md_event_26 : decode m_md_event.2.1 26 = .ok (.ifCond .ne (9), 3) := by decide +kernel
theorem d_md_event_29 : decode m_md_event.2.1 29 = .ok (.aload_n 0, 1) := by decide +kernel
theorem d_md_event_30 : decode m_md_event.2.1 30 = .ok (.iconst 2, 1) := by decide +kernel
theorem d_md_event_31 : decode m_md_event.2.1 31 = .ok (.invokevirtual 149, 3) := by decide +kernel
theorem d_md_event_34 : decode m_md_event.2.1 34 = .ok (.ireturn, 1) := by decide +kernel
theorem d_md_event_35 : decode m_md_event.2.1 35 = .ok (.aload_n 0, 1) := by decide +kernel
theorem d_md_event_36 : decode m_md_event.2.1 36 = .ok (.getfield 66, 3) := by decide +kernel
theorem d_md_event_39 : decode m_md_event.2.1 39 = .ok (.iload_n 1, 1) := by decide +kernel
theorem d_md_event_40 : decode m_md_event.2.1 40 = .ok (.iaload, 1) := by decide +kernel
theorem d_md_event_41 : decode m_md_event.2.1 41 = .ok (.ifCond .ne (9), 3) := by decide +kernel
theorem d_md_event_44 : decode m_md_event.2.1 44 = .ok (.aload_n 0, 1) := by decide +kernel
theorem d_md_event_45 : decode m_md_event.2.1 45 = .ok (.iconst 3, 1) := by decide +kernel
theorem d_md_event_46 : decode m_md_event.2.1 46 = .ok (.invokevirtual 149, 3) := by decide +kernel
theorem d_md_event_49 : decode m_md_event.2.1 49 = .ok (.ireturn, 1) := by decide +kernel
theorem d_md_event_50 : decode m_md_event.2.1 50 = .ok (.aload_n 0, 1) := by decide +kernel
theorem d_md_event_51 : decode m_md_event.2.1 51 = .ok (.getfield 63, 3) := by decide +kernel
theorem d_md_event_54 : decode m_md_event.2.1 54 = .ok (.bipush 8, 2) := by decide +kernel
theorem d_md_event_56 : decode m_md_event.2.1 56 = .ok (.iload_n 1, 1) := by decide +kernel
theorem d_md_event_57 : decode m_md_event.2.1 57 = .ok (.imul, 1) := by decide +kernel
theorem d_md_event_58 : decode m_md_event.2.1 58 = .ok (.iaload, 1) := by decide +kernel
theorem d_md_event_59 : decode m_md_event.2.1 59 = .ok (.istore_n 2, 1) := by decide +kernel
theorem d_md_event_60 : decode m_md_event.2.1 60 = .ok (.aload_n 0, 1) := by decide +kernel
theorem d_md_event_61 : decode m_md_event.2.1 61 = .ok (.getfield 66, 3) := by decide +kernel
theorem d_md_event_64 : decode m_md_event.2.1 64 = .ok (.iload_n 1, 1) := by decide +kernel
theorem d_md_event_65 : decode m_md_event.2.1 65 = .ok (.dup2, 1) := by decide +kernel
theorem d_md_event_66 : decode m_md_event.2.1 66 = .ok (.iaload, 1) := by decide +kernel
theorem d_md_event_67 : decode m_md_event.2.1 67 = .ok (.iconst 1, 1) := by decide +kernel
theorem d_md_event_68 : decode m_md_event.2.1 68 = .ok (.isub, 1) := by decide +kernel
theorem d_md_event_69 : decode m_md_event.2.1 69 = .ok (.iastore, 1) := by decide +kernel
theorem d_md_event_70 : decode m_md_event.2.1 70 = .ok (.iconst 0, 1) := by decide +kernel
theorem d_md_event_71 : decode m_md_event.2.1 71 = .ok (.istore_n 3, 1) := by decide +kernel
theorem d_md_event_72 : decode m_md_event.2.1 72 = .ok (.iload_n 3, 1) := by decide +kernel
theorem d_md_event_73 : decode m_md_event.2.1 73 = .ok (.aload_n 0, 1) := by decide +kernel
theorem d_md_event_74 : decode m_md_event.2.1 74 = .ok (.getfield 66, 3) := by decide +kernel
theorem d_md_event_77 : decode m_md_event.2.1 77 = .ok (.iload_n 1, 1) := by decide +kernel
theorem d_md_event_78 : decode m_md_event.2.1 78 = .ok (.iaload, 1) := by decide +kernel
theorem d_md_event_79 : decode m_md_event.2.1 79 = .ok (.if_icmp .ge (33), 3) := by decide +kernel
theorem d_md_event_82 : decode m_md_event.2.1 82 = .ok (.aload_n 0, 1) := by decide +kernel
theorem d_md_event_83 : decode m_md_event.2.1 83 = .ok (.getfield 63, 3) := by decide +kernel
theorem d_md_event_86 : decode m_md_event.2.1 86 = .ok (.bipush 8, 2) := by decide +kernel
theorem d_md_event_88 : decode m_md_event.2.1 88 = .ok (.iload_n 1, 1) := by decide +kernel
theorem d_md_event_89 : decode m_md_event.2.1 89 = .ok (.imul, 1) := by decide +kernel
theorem d_md_event_90 : decode m_md_event.2.1 90 = .ok (.iload_n 3, 1) := by decide +kernel
theorem d_md_event_91 : decode m_md_event.2.1 91 = .ok (.iadd, 1) := by decide +kernel
theorem d_md_event_92 : decode m_md_event.2.1 92 = .ok (.aload_n 0, 1) := by decide +kernel
theorem d_md_event_93 : decode m_md_event.2.1 93 = .ok (.getfield 63, 3) := by decide +kernel
theorem d_md_event_96 : decode m_md_event.2.1 96 = .ok (.bipush 8, 2) := by decide +kernel
theorem d_md_event_98 : decode m_md_event.2.1 98 = .ok (.iload_n 1, 1) := by decide +kernel
theorem d_md_event_99 : decode m_md_event.2.1 99 = .ok (.imul, 1) := by decide +kernel
theorem d_md_event_100 : decode m_md_event.2.1 100 = .ok (.iload_n 3, 1) := by decide +kernel
theorem d_md_event_101 : decode m_md_event.2.1 101 = .ok (.iadd, 1) := by decide +kernel
theorem d_md_event_102 : decode m_md_event.2.1 102 = .ok (.iconst 1, 1) := by decide +kernel
theorem d_md_event_103 : decode m_md_event.2.1 103 = .ok (.iadd, 1) := by decide +kernel
theorem d_md_event_104 : decode m_md_event.2.1 104 = .ok (.iaload, 1) := by decide +kernel
theorem d_md_event_105 : decode m_md_event.2.1 105 = .ok (.iastore, 1) := by decide +kernel
theorem d_md_event_106 : decode m_md_event.2.1 106 = .ok (.iinc 3 1, 3) := by decide +kernel
theorem d_md_event_109 : decode m_md_event.2.1 109 = .ok (.goto (-37), 3) := by decide +kernel
theorem d_md_event_112 : decode m_md_event.2.1 112 = .ok (.aload_n 0, 1) := by decide +kernel
theorem d_md_event_113 : decode m_md_event.2.1 113 = .ok (.iload_n 2, 1) := by decide +kernel
theorem d_md_event_114 : decode m_md_event.2.1 114 = .ok (.invokevirtual 155, 3) := by decide +kernel
theorem d_md_event_117 : decode m_md_event.2.1 117 = .ok (.ireturn, 1) := by decide +kernel
theorem d_md_crash_0 : decode m_md_crash.2.1 0 = .ok (.aload_n 0, 1) := by decide +kernel
theorem d_md_crash_1 : decode m_md_crash.2.1 1 = .ok (.iconst 0, 1) := by decide +kernel
theorem d_md_crash_2 : decode m_md_crash.2.1 2 = .ok (.putfield 84, 3) := by decide +kernel
theorem d_md_crash_5 : decode m_md_crash.2.1 5 = .ok (.aload_n 0, 1) := by decide +kernel
theorem d_md_crash_6 : decode m_md_crash.2.1 6 = .ok (.iload_n 1, 1) := by decide +kernel
theorem d_md_crash_7 : decode m_md_crash.2.1 7 = .ok (.iconst 3, 1) := by decide +kernel
theorem d_md_crash_8 : decode m_md_crash.2.1 8 = .ok (.invokevirtual 145, 3) := by decide +kernel
theorem d_md_crash_11 : decode m_md_crash.2.1 11 = .ok (.ifCond .eq (9), 3) := by decide +kernel
theorem d_md_crash_14 : decode m_md_crash.2.1 14 = .ok (.aload_n 0, 1) := by decide +kernel
theorem d_md_crash_15 : decode m_md_crash.2.1 15 = .ok (.iconst 1, 1) := by decide +kernel
theorem d_md_crash_16 : decode m_md_crash.2.1 16 = .ok (.invokevirtual 149, 3) := by decide +kernel
theorem d_md_crash_19 : decode m_md_crash.2.1 19 = .ok (.ireturn, 1) := by decide +kernel
theorem d_md_crash_20 : decode m_md_crash.2.1 20 = .ok (.aload_n 0, 1) := by decide +kernel
theorem d_md_crash_21 : decode m_md_crash.2.1 21 = .ok (.getfield 31, 3) := by decide +kernel
theorem d_md_crash_24 : decode m_md_crash.2.1 24 = .ok (.iload_n 1, 1) := by decide +kernel
theorem d_md_crash_25 : decode m_md_crash.2.1 25 = .ok (.baload, 1) := by decide +kernel
theorem d_md_crash_26 : decode m_md_crash.2.1 26 = .ok (.ifCond .eq (9), 3) := by decide +kernel
theorem d_md_crash_29 : decode m_md_crash.2.1 29 = .ok (.aload_n 0, 1) := by decide +kernel
theorem d_md_crash_30 : decode m_md_crash.2.1 30 = .ok (.iconst 2, 1) := by decide +kernel
theorem d_md_crash_31 : decode m_md_crash.2.1 31 = .ok (.invokevirtual 149, 3) := by decide +kernel
theorem d_md_crash_34 : decode m_md_crash.2.1 34 = .ok (.ireturn, 1) := by decide +kernel
theorem d_md_crash_35 : decode m_md_crash.2.1 35 = .ok (.aload_n 0, 1) := by decide +kernel
theorem d_md_crash_36 : decode m_md_crash.2.1 36 = .ok (.getfield 31, 3) := by decide +kernel
theorem d_md_crash_39 : decode m_md_crash.2.1 39 = .ok (.iload_n 1, 1) := by decide +kernel
theorem d_md_crash_40 : decode m_md_crash.2.1 40 = .ok (.iconst 1, 1) := by decide +kernel
theorem d_md_crash_41 : decode m_md_crash.2.1 41 = .ok (.bastore, 1) := by decide +kernel
theorem d_md_crash_42 : decode m_md_crash.2.1 42 = .ok (.aload_n 0, 1) := by decide +kernel
theorem d_md_crash_43 : decode m_md_crash.2.1 43 = .ok (.getfield 105, 3) := by decide +kernel
theorem d_md_crash_46 : decode m_md_crash.2.1 46 = .ok (.iload_n 1, 1) := by decide +kernel
theorem d_md_crash_47 : decode m_md_crash.2.1 47 = .ok (.if_icmp .ne (8), 3) := by decide +kernel
theorem d_md_crash_50 : decode m_md_crash.2.1 50 = .ok (.aload_n 0, 1) := by decide +kernel
theorem d_md_crash_51 : decode m_md_crash.2.1 51 = .ok (.iconst (-1), 1) := by decide +kernel
theorem d_md_crash_52 : decode m_md_crash.2.1 52 = .ok (.putfield 105, 3) := by decide +kernel
theorem d_md_crash_55 : decode m_md_crash.2.1 55 = .ok (.iconst 0, 1) := by decide +kernel
theorem d_md_crash_56 : decode m_md_crash.2.1 56 = .ok (.istore_n 2, 1) := by decide +kernel
theorem d_md_crash_57 : decode m_md_crash.2.1 57 = .ok (.iload_n 2, 1) := by decide +kernel
theorem d_md_crash_58 : decode m_md_crash.2.1 58 = .ok (.iconst 4, 1) := by decide +kernel
theorem d_md_crash_59 : decode m_md_crash.2.1 59 = .ok (.if_icmp .ge (24), 3) := by decide +kernel
theorem d_md_crash_62 : decode m_md_crash.2.1 62 = .ok (.aload_n 0, 1) := by decide +kernel
theorem d_md_crash_63 : decode m_md_crash.2.1 63 = .ok (.getfield 48, 3) := by decide +kernel
theorem d_md_crash_66 : decode m_md_crash.2.1 66 = .ok (.iload_n 2, 1) := by decide +kernel
theorem d_md_crash_67 : decode m_md_crash.2.1 67 = .ok (.iaload, 1) := by decide +kernel
theorem d_md_crash_68 : decode m_md_crash.2.1 68 = .ok (.iload_n 1, 1) := by decide +kernel
theorem d_md_crash_69 : decode m_md_crash.2.1 69 = .ok (.if_icmp .ne (8), 3) := by decide +kernel
theorem d_md_crash_72 : decode m_md_crash.2.1 72 = .ok (.aload_n 0, 1) := by decide +kernel
theorem d_md_crash_73 : decode m_md_crash.2.1 73 = .ok (.iload_n 2, 1) := by decide +kernel
theorem d_md_crash_74 : decode m_md_crash.2.1 74 = .ok (.invokevirtual 141, 3) := by decide +kernel
theorem d_md_crash_77 : decode m_md_crash.2.1 77 = .ok (.iinc 2 1, 3) := by decide +kernel
theorem d_md_crash_80 : decode m_md_crash.2.1 80 = .ok (.goto (-23), 3) := by decide +kernel
theorem d_md_crash_83 : decode m_md_crash.2.1 83 = .ok (.aload_n 0, 1) := by decide +kernel
theorem d_md_crash_84 : decode m_md_crash.2.1 84 = .ok (.aload_n 0, 1) := by decide +kernel
theorem d_md_crash_85 : decode m_md_crash.2.1 85 = .ok (.getfield 22, 3) := by decide +kernel
theorem d_md_crash_88 : decode m_md_crash.2.1 88 = .ok (.iload_n 1, 1) := by decide +kernel
theorem d_md_crash_89 : decode m_md_crash.2.1 89 = .ok (.iaload, 1) := by decide +kernel
theorem d_md_crash_90 : decode m_md_crash.2.1 90 = .ok (.invokevirtual 155, 3) := by decide +kernel
theorem d_md_crash_93 : decode m_md_crash.2.1 93 = .ok (.ireturn, 1) := by decide +kernel
theorem d_md_restart_0 : decode m_md_restart.2.1 0 = .ok (.aload_n 0, 1) := by decide +kernel
theorem d_md_restart_1 : decode m_md_restart.2.1 1 = .ok (.iconst 0, 1) := by decide +kernel
theorem d_md_restart_2 : decode m_md_restart.2.1 2 = .ok (.putfield 84, 3) := by decide +kernel
theorem d_md_restart_5 : decode m_md_restart.2.1 5 = .ok (.aload_n 0, 1) := by decide +kernel
theorem d_md_restart_6 : decode m_md_restart.2.1 6 = .ok (.iload_n 1, 1) := by decide +kernel
theorem d_md_restart_7 : decode m_md_restart.2.1 7 = .ok (.iconst 3, 1) := by decide +kernel
theorem d_md_restart_8 : decode m_md_restart.2.1 8 = .ok (.invokevirtual 145, 3) := by decide +kernel
theorem d_md_restart_11 : decode m_md_restart.2.1 11 = .ok (.ifCond .eq (9), 3) := by decide +kernel
theorem d_md_restart_14 : decode m_md_restart.2.1 14 = .ok (.aload_n 0, 1) := by decide +kernel
theorem d_md_restart_15 : decode m_md_restart.2.1 15 = .ok (.iconst 1, 1) := by decide +kernel
theorem d_md_restart_16 : decode m_md_restart.2.1 16 = .ok (.invokevirtual 149, 3) := by decide +kernel
theorem d_md_restart_19 : decode m_md_restart.2.1 19 = .ok (.ireturn, 1) := by decide +kernel
theorem d_md_restart_20 : decode m_md_restart.2.1 20 = .ok (.aload_n 0, 1) := by decide +kernel
theorem d_md_restart_21 : decode m_md_restart.2.1 21 = .ok (.getfield 31, 3) := by decide +kernel
theorem d_md_restart_24 : decode m_md_restart.2.1 24 = .ok (.iload_n 1, 1) := by decide +kernel
theorem d_md_restart_25 : decode m_md_restart.2.1 25 = .ok (.baload, 1) := by decide +kernel
theorem d_md_restart_26 : decode m_md_restart.2.1 26 = .ok (.ifCond .ne (9), 3) := by decide +kernel
theorem d_md_restart_29 : decode m_md_restart.2.1 29 = .ok (.aload_n 0, 1) := by decide +kernel
theorem d_md_restart_30 : decode m_md_restart.2.1 30 = .ok (.iconst 2, 1) := by decide +kernel
theorem d_md_restart_31 : decode m_md_restart.2.1 31 = .ok (.invokevirtual 149, 3) := by decide +kernel
theorem d_md_restart_34 : decode m_md_restart.2.1 34 = .ok (.ireturn, 1) := by decide +kernel
theorem d_md_restart_35 : decode m_md_restart.2.1 35 = .ok (.aload_n 0, 1) := by decide +kernel
theorem d_md_restart_36 : decode m_md_restart.2.1 36 = .ok (.getfield 31, 3) := by decide +kernel
theorem d_md_restart_39 : decode m_md_restart.2.1 39 = .ok (.iload_n 1, 1) := by decide +kernel
theorem d_md_restart_40 : decode m_md_restart.2.1 40 = .ok (.iconst 0, 1) := by decide +kernel
theorem d_md_restart_41 : decode m_md_restart.2.1 41 = .ok (.bastore, 1) := by decide +kernel
theorem d_md_restart_42 : decode m_md_restart.2.1 42 = .ok (.aload_n 0, 1) := by decide +kernel
theorem d_md_restart_43 : decode m_md_restart.2.1 43 = .ok (.getfield 105, 3) := by decide +kernel
theorem d_md_restart_46 : decode m_md_restart.2.1 46 = .ok (.ifCond .lt (7), 3) := by decide +kernel
theorem d_md_restart_49 : decode m_md_restart.2.1 49 = .ok (.aload_n 0, 1) := by decide +kernel
theorem d_md_restart_50 : decode m_md_restart.2.1 50 = .ok (.invokevirtual 125, 3) := by decide +kernel
theorem d_md_restart_53 : decode m_md_restart.2.1 53 = .ok (.aload_n 0, 1) := by decide +kernel
theorem d_md_restart_54 : decode m_md_restart.2.1 54 = .ok (.aload_n 0, 1) := by decide +kernel
theorem d_md_restart_55 : decode m_md_restart.2.1 55 = .ok (.getfield 25, 3) := by decide +kernel
theorem d_md_restart_58 : decode m_md_restart.2.1 58 = .ok (.iload_n 1, 1) := by decide +kernel
theorem d_md_restart_59 : decode m_md_restart.2.1 59 = .ok (.iaload, 1) := by decide +kernel
theorem d_md_restart_60 : decode m_md_restart.2.1 60 = .ok (.invokevirtual 155, 3) := by decide +kernel
theorem d_md_restart_63 : decode m_md_restart.2.1 63 = .ok (.ireturn, 1) := by decide +kernel
theorem d_md_alone_0 : decode m_md_alone.2.1 0 = .ok (.aload_n 0, 1) := by decide +kernel
theorem d_md_alone_1 : decode m_md_alone.2.1 1 = .ok (.iconst 0, 1) := by decide +kernel
theorem d_md_alone_2 : decode m_md_alone.2.1 2 = .ok (.putfield 84, 3) := by decide +kernel
theorem d_md_alone_5 : decode m_md_alone.2.1 5 = .ok (.aload_n 0, 1) := by decide +kernel
theorem d_md_alone_6 : decode m_md_alone.2.1 6 = .ok (.iload_n 1, 1) := by decide +kernel
theorem d_md_alone_7 : decode m_md_alone.2.1 7 = .ok (.iconst 3, 1) := by decide +kernel
theorem d_md_alone_8 : decode m_md_alone.2.1 8 = .ok (.invokevirtual 145, 3) := by decide +kernel
theorem d_md_alone_11 : decode m_md_alone.2.1 11 = .ok (.ifCond .eq (9), 3) := by decide +kernel
theorem d_md_alone_14 : decode m_md_alone.2.1 14 = .ok (.aload_n 0, 1) := by decide +kernel
theorem d_md_alone_15 : decode m_md_alone.2.1 15 = .ok (.iconst 1, 1) := by decide +kernel
theorem d_md_alone_16 : decode m_md_alone.2.1 16 = .ok (.invokevirtual 149, 3) := by decide +kernel
theorem d_md_alone_19 : decode m_md_alone.2.1 19 = .ok (.ireturn, 1) := by decide +kernel
theorem d_md_alone_20 : decode m_md_alone.2.1 20 = .ok (.aload_n 0, 1) := by decide +kernel
theorem d_md_alone_21 : decode m_md_alone.2.1 21 = .ok (.getfield 35, 3) := by decide +kernel
theorem d_md_alone_24 : decode m_md_alone.2.1 24 = .ok (.iload_n 1, 1) := by decide +kernel
theorem d_md_alone_25 : decode m_md_alone.2.1 25 = .ok (.baload, 1) := by decide +kernel
theorem d_md_alone_26 : decode m_md_alone.2.1 26 = .ok (.iload_n 2, 1) := by decide +kernel
theorem d_md_alone_27 : decode m_md_alone.2.1 27 = .ok (.if_icmp .ne (7), 3) := by decide +kernel
theorem d_md_alone_30 : decode m_md_alone.2.1 30 = .ok (.iconst 0, 1) := by decide +kernel
theorem d_md_alone_31 : decode m_md_alone.2.1 31 = .ok (.goto 4, 3) := by decide +kernel
theorem d_md_alone_34 : decode m_md_alone.2.1 34 = .ok (.iconst 1, 1) := by decide +kernel
theorem d_md_alone_35 : decode m_md_alone.2.1 35 = .ok (.istore_n 3, 1) := by decide +kernel
theorem d_md_alone_36 : decode m_md_alone.2.1 36 = .ok (.aload_n 0, 1) := by decide +kernel
theorem d_md_alone_37 : decode m_md_alone.2.1 37 = .ok (.getfield 35, 3) := by decide +kernel
theorem d_md_alone_40 : decode m_md_alone.2.1 40 = .ok (.iload_n 1, 1) := by decide +kernel
theorem d_md_alone_41 : decode m_md_alone.2.1 41 = .ok (.iload_n 2, 1) := by decide +kernel
theorem d_md_alone_42 : decode m_md_alone.2.1 42 = .ok (.bastore, 1) := by decide +kernel
theorem d_md_alone_43 : decode m_md_alone.2.1 43 = .ok (.aload_n 0, 1) := by decide +kernel
theorem d_md_alone_44 : decode m_md_alone.2.1 44 = .ok (.getfield 105, 3) := by decide +kernel
theorem d_md_alone_47 : decode m_md_alone.2.1 47 = .ok (.ifCond .lt (7), 3) := by decide +kernel
theorem d_md_alone_50 : decode m_md_alone.2.1 50 = .ok (.aload_n 0, 1) := by decide +kernel
theorem d_md_alone_51 : decode m_md_alone.2.1 51 = .ok (.invokevirtual 125, 3) := by decide +kernel
theorem d_md_alone_54 : decode m_md_alone.2.1 54 = .ok (.aload_n 0, 1) := by decide +kernel
theorem d_md_alone_55 : decode m_md_alone.2.1 55 = .ok (.iload_n 3, 1) := by decide +kernel
theorem d_md_alone_56 : decode m_md_alone.2.1 56 = .ok (.invokevirtual 155, 3) := by decide +kernel
theorem d_md_alone_59 : decode m_md_alone.2.1 59 = .ok (.ireturn, 1) := by decide +kernel
theorem d_md_elect_0 : decode m_md_elect.2.1 0 = .ok (.aload_n 0, 1) := by decide +kernel
theorem d_md_elect_1 : decode m_md_elect.2.1 1 = .ok (.iconst 0, 1) := by decide +kernel
theorem d_md_elect_2 : decode m_md_elect.2.1 2 = .ok (.putfield 84, 3) := by decide +kernel
theorem d_md_elect_5 : decode m_md_elect.2.1 5 = .ok (.iconst (-1), 1) := by decide +kernel
theorem d_md_elect_6 : decode m_md_elect.2.1 6 = .ok (.istore_n 1, 1) := by decide +kernel
theorem d_md_elect_7 : decode m_md_elect.2.1 7 = .ok (.iconst 0, 1) := by decide +kernel
theorem d_md_elect_8 : decode m_md_elect.2.1 8 = .ok (.istore_n 2, 1) := by decide +kernel
theorem d_md_elect_9 : decode m_md_elect.2.1 9 = .ok (.iconst 0, 1) := by decide +kernel
theorem d_md_elect_10 : decode m_md_elect.2.1 10 = .ok (.istore_n 3, 1) := by decide +kernel
theorem d_md_elect_11 : decode m_md_elect.2.1 11 = .ok (.iload_n 3, 1) := by decide +kernel
theorem d_md_elect_12 : decode m_md_elect.2.1 12 = .ok (.iconst 3, 1) := by decide +kernel
theorem d_md_elect_13 : decode m_md_elect.2.1 13 = .ok (.if_icmp .ge (86), 3) := by decide +kernel
theorem d_md_elect_16 : decode m_md_elect.2.1 16 = .ok (.aload_n 0, 1) := by decide +kernel
theorem d_md_elect_17 : decode m_md_elect.2.1 17 = .ok (.iload_n 3, 1) := by decide +kernel
theorem d_md_elect_18 : decode m_md_elect.2.1 18 = .ok (.invokevirtual 108, 3) := by decide +kernel
theorem d_md_elect_21 : decode m_md_elect.2.1 21 = .ok (.ifCond .ne (6), 3) := by decide +kernel
theorem d_md_elect_24 : decode m_md_elect.2.1 24 = .ok (.goto 69, 3) := by decide +kernel
theorem d_md_elect_27 : decode m_md_elect.2.1 27 = .ok (.iinc 2 1, 3) := by decide +kernel
theorem d_md_elect_30 : decode m_md_elect.2.1 30 = .ok (.iload_n 1, 1) := by decide +kernel
theorem d_md_elect_31 : decode m_md_elect.2.1 31 = .ok (.ifCond .lt (18), 3) := by decide +kernel
theorem d_md_elect_34 : decode m_md_elect.2.1 34 = .ok (.aload_n 0, 1) := by decide +kernel
theorem d_md_elect_35 : decode m_md_elect.2.1 35 = .ok (.getfield 28, 3) := by decide +kernel
theorem d_md_elect_38 : decode m_md_elect.2.1 38 = .ok (.iload_n 3, 1) := by decide +kernel
theorem d_md_elect_39 : decode m_md_elect.2.1 39 = .ok (.iaload, 1) := by decide +kernel
theorem d_md_elect_40 : decode m_md_elect.2.1 40 = .ok (.aload_n 0, 1) := by decide +kernel
theorem d_md_elect_41 : decode m_md_elect.2.1 41 = .ok (.getfield 28, 3) := by decide +kernel
theorem d_md_elect_44 : decode m_md_elect.2.1 44 = .ok (.iload_n 1, 1) := by decide +kernel
theorem d_md_elect_45 : decode m_md_elect.2.1 45 = .ok (.iaload, 1) := by decide +kernel
theorem d_md_elect_46 : decode m_md_elect.2.1 46 = .ok (.if_icmp .le (7), 3) := by decide +kernel
theorem d_md_elect_49 : decode m_md_elect.2.1 49 = .ok (.iconst 1, 1) := by decide +kernel
theorem d_md_elect_50 : decode m_md_elect.2.1 50 = .ok (.goto 4, 3) := by decide +kernel
theorem d_md_elect_53 : decode m_md_elect.2.1 53 = .ok (.iconst 0, 1) := by decide +kernel
theorem d_md_elect_54 : decode m_md_elect.2.1 54 = .ok (.istore 4, 2) := by decide +kernel
theorem d_md_elect_56 : decode m_md_elect.2.1 56 = .ok (.iload 4, 2) := by decide +kernel
theorem d_md_elect_58 : decode m_md_elect.2.1 58 = .ok (.ifCond .ne (33), 3) := by decide +kernel
theorem d_md_elect_61 : decode m_md_elect.2.1 61 = .ok (.aload_n 0, 1) := by decide +kernel
theorem d_md_elect_62 : decode m_md_elect.2.1 62 = .ok (.getfield 28, 3) := by decide +kernel
theorem d_md_elect_65 : decode m_md_elect.2.1 65 = .ok (.iload_n 3, 1) := by decide +kernel
theorem d_md_elect_66 : decode m_md_elect.2.1 66 = .ok (.iaload, 1) := by decide +kernel
theorem d_md_elect_67 : decode m_md_elect.2.1 67 = .ok (.aload_n 0, 1) := by decide +kernel
theorem d_md_elect_68 : decode m_md_elect.2.1 68 = .ok (.getfield 28, 3) := by decide +kernel
theorem d_md_elect_71 : decode m_md_elect.2.1 71 = .ok (.iload_n 1, 1) := by decide +kernel
theorem d_md_elect_72 : decode m_md_elect.2.1 72 = .ok (.iaload, 1) := by decide +kernel
theorem d_md_elect_73 : decode m_md_elect.2.1 73 = .ok (.if_icmp .ne (20), 3) := by decide +kernel
theorem d_md_elect_76 : decode m_md_elect.2.1 76 = .ok (.aload_n 0, 1) := by decide +kernel
theorem d_md_elect_77 : decode m_md_elect.2.1 77 = .ok (.getfield 22, 3) := by decide +kernel
theorem d_md_elect_80 : decode m_md_elect.2.1 80 = .ok (.iload_n 3, 1) := by decide +kernel
theorem d_md_elect_81 : decode m_md_elect.2.1 81 = .ok (.iaload, 1) := by decide +kernel
theorem d_md_elect_82 : decode m_md_elect.2.1 82 = .ok (.aload_n 0, 1) := by decide +kernel
theorem d_md_elect_83 : decode m_md_elect.2.1 83 = .ok (.getfield 22, 3) := by decide +kernel
theorem d_md_elect_86 : decode m_md_elect.2.1 86 = .ok (.iload_n 1, 1) := by decide +kernel
theorem d_md_elect_87 : decode m_md_elect.2.1 87 = .ok (.iaload, 1) := by decide +kernel
theorem d_md_elect_88 : decode m_md_elect.2.1 88 = .ok (.if_icmp .le (5), 3) := by decide +kernel
theorem d_md_elect_91 : decode m_md_elect.2.1 91 = .ok (.iload_n 3, 1) := by decide +kernel
theorem d_md_elect_92 : decode m_md_elect.2.1 92 = .ok (.istore_n 1, 1) := by decide +kernel
theorem d_md_elect_93 : decode m_md_elect.2.1 93 = .ok (.iinc 3 1, 3) := by decide +kernel
theorem d_md_elect_96 : decode m_md_elect.2.1 96 = .ok (.goto (-85), 3) := by decide +kernel
theorem d_md_elect_99 : decode m_md_elect.2.1 99 = .ok (.iload_n 2, 1) := by decide +kernel
theorem d_md_elect_100 : decode m_md_elect.2.1 100 = .ok (.iconst 2, 1) := by decide +kernel
theorem d_md_elect_101 : decode m_md_elect.2.1 101 = .ok (.if_icmp .ge (9), 3) := by decide +kernel
theorem d_md_elect_104 : decode m_md_elect.2.1 104 = .ok (.aload_n 0, 1) := by decide +kernel
theorem d_md_elect_105 : decode m_md_elect.2.1 105 = .ok (.iconst 1, 1) := by decide +kernel
theorem d_md_elect_106 : decode m_md_elect.2.1 106 = .ok (.invokevirtual 149, 3) := by decide +kernel
theorem d_md_elect_109 : decode m_md_elect.2.1 109 = .ok (.ireturn, 1) := by decide +kernel
theorem d_md_elect_110 : decode m_md_elect.2.1 110 = .ok (.aload_n 0, 1) := by decide +kernel
theorem d_md_elect_111 : decode m_md_elect.2.1 111 = .ok (.iload_n 1, 1) := by decide +kernel
theorem d_md_elect_112 : decode m_md_elect.2.1 112 = .ok (.putfield 105, 3) := by decide +kernel
theorem d_md_elect_115 : decode m_md_elect.2.1 115 = .ok (.aload_n 0, 1) := by decide +kernel
theorem d_md_elect_116 : decode m_md_elect.2.1 116 = .ok (.dup, 1) := by decide +kernel
theorem d_md_elect_117 : decode m_md_elect.2.1 117 = .ok (.getfield 38, 3) := by decide +kernel
theorem d_md_elect_120 : decode m_md_elect.2.1 120 = .ok (.iconst 1, 1) := by decide +kernel
theorem d_md_elect_121 : decode m_md_elect.2.1 121 = .ok (.iadd, 1) := by decide +kernel
theorem d_md_elect_122 : decode m_md_elect.2.1 122 = .ok (.putfield 38, 3) := by decide +kernel
theorem d_md_elect_125 : decode m_md_elect.2.1 125 = .ok (.aload_n 0, 1) := by decide +kernel
theorem d_md_elect_126 : decode m_md_elect.2.1 126 = .ok (.invokevirtual 125, 3) := by decide +kernel
theorem d_md_elect_129 : decode m_md_elect.2.1 129 = .ok (.aload_n 0, 1) := by decide +kernel
theorem d_md_elect_130 : decode m_md_elect.2.1 130 = .ok (.aload_n 0, 1) := by decide +kernel
theorem d_md_elect_131 : decode m_md_elect.2.1 131 = .ok (.getfield 105, 3) := by decide +kernel
theorem d_md_elect_134 : decode m_md_elect.2.1 134 = .ok (.invokevirtual 155, 3) := by decide +kernel
theorem d_md_elect_137 : decode m_md_elect.2.1 137 = .ok (.ireturn, 1) := by decide +kernel
theorem d_md_tick_0 : decode m_md_tick.2.1 0 = .ok (.aload_n 0, 1) := by decide +kernel
theorem d_md_tick_1 : decode m_md_tick.2.1 1 = .ok (.iconst 0, 1) := by decide +kernel
theorem d_md_tick_2 : decode m_md_tick.2.1 2 = .ok (.putfield 84, 3) := by decide +kernel
theorem d_md_tick_5 : decode m_md_tick.2.1 5 = .ok (.aload_n 0, 1) := by decide +kernel
theorem d_md_tick_6 : decode m_md_tick.2.1 6 = .ok (.iload_n 1, 1) := by decide +kernel
theorem d_md_tick_7 : decode m_md_tick.2.1 7 = .ok (.bipush 21, 2) := by decide +kernel
theorem d_md_tick_9 : decode m_md_tick.2.1 9 = .ok (.invokevirtual 145, 3) := by decide +kernel
theorem d_md_tick_12 : decode m_md_tick.2.1 12 = .ok (.ifCond .eq (9), 3) := by decide +kernel
theorem d_md_tick_15 : decode m_md_tick.2.1 15 = .ok (.aload_n 0, 1) := by decide +kernel
theorem d_md_tick_16 : decode m_md_tick.2.1 16 = .ok (.iconst 1, 1) := by decide +kernel
theorem d_md_tick_17 : decode m_md_tick.2.1 17 = .ok (.invokevirtual 149, 3) := by decide +kernel
theorem d_md_tick_20 : decode m_md_tick.2.1 20 = .ok (.ireturn, 1) := by decide +kernel
theorem d_md_tick_21 : decode m_md_tick.2.1 21 = .ok (.aload_n 0, 1) := by decide +kernel
theorem d_md_tick_22 : decode m_md_tick.2.1 22 = .ok (.dup, 1) := by decide +kernel
theorem d_md_tick_23 : decode m_md_tick.2.1 23 = .ok (.getfield 152, 3) := by decide +kernel
theorem d_md_tick_26 : decode m_md_tick.2.1 26 = .ok (.iload_n 1, 1) := by decide +kernel
theorem d_md_tick_27 : decode m_md_tick.2.1 27 = .ok (.iadd, 1) := by decide +kernel
theorem d_md_tick_28 : decode m_md_tick.2.1 28 = .ok (.putfield 152, 3) := by decide +kernel
theorem d_md_tick_31 : decode m_md_tick.2.1 31 = .ok (.iconst 0, 1) := by decide +kernel
theorem d_md_tick_32 : decode m_md_tick.2.1 32 = .ok (.istore_n 2, 1) := by decide +kernel
theorem d_md_tick_33 : decode m_md_tick.2.1 33 = .ok (.iconst 0, 1) := by decide +kernel
theorem d_md_tick_34 : decode m_md_tick.2.1 34 = .ok (.istore_n 3, 1) := by decide +kernel
theorem d_md_tick_35 : decode m_md_tick.2.1 35 = .ok (.iload_n 3, 1) := by decide +kernel
theorem d_md_tick_36 : decode m_md_tick.2.1 36 = .ok (.iconst 4, 1) := by decide +kernel
theorem d_md_tick_37 : decode m_md_tick.2.1 37 = .ok (.if_icmp .ge (46), 3) := by decide +kernel
theorem d_md_tick_40 : decode m_md_tick.2.1 40 = .ok (.aload_n 0, 1) := by decide +kernel
theorem d_md_tick_41 : decode m_md_tick.2.1 41 = .ok (.getfield 42, 3) := by decide +kernel
theorem d_md_tick_44 : decode m_md_tick.2.1 44 = .ok (.iload_n 3, 1) := by decide +kernel
theorem d_md_tick_45 : decode m_md_tick.2.1 45 = .ok (.baload, 1) := by decide +kernel
theorem d_md_tick_46 : decode m_md_tick.2.1 46 = .ok (.ifCond .eq (31), 3) := by decide +kernel
theorem d_md_tick_49 : decode m_md_tick.2.1 49 = .ok (.aload_n 0, 1) := by decide +kernel
theorem d_md_tick_50 : decode m_md_tick.2.1 50 = .ok (.getfield 54, 3) := by decide +kernel
theorem d_md_tick_53 : decode m_md_tick.2.1 53 = .ok (.iload_n 3, 1) := by decide +kernel
theorem d_md_tick_54 : decode m_md_tick.2.1 54 = .ok (.iaload, 1) := by decide +kernel
theorem d_md_tick_55 : decode m_md_tick.2.1 55 = .ok (.aload_n 0, 1) := by decide +kernel
theorem d_md_tick_56 : decode m_md_tick.2.1 56 = .ok (.getfield 51, 3) := by decide +kernel
theorem d_md_tick_59 : decode m_md_tick.2.1 59 = .ok (.iload_n 3, 1) := by decide +kernel
theorem d_md_tick_60 : decode m_md_tick.2.1 60 = .ok (.iaload, 1) := by decide +kernel
theorem d_md_tick_61 : decode m_md_tick.2.1 61 = .ok (.iadd, 1) := by decide +kernel
theorem d_md_tick_62 : decode m_md_tick.2.1 62 = .ok (.aload_n 0, 1) := by decide +kernel
theorem d_md_tick_63 : decode m_md_tick.2.1 63 = .ok (.getfield 152, 3) := by decide +kernel
theorem d_md_tick_66 : decode m_md_tick.2.1 66 = .ok (.if_icmp .gt (11), 3) := by decide +kernel
theorem d_md_tick_69 : decode m_md_tick.2.1 69 = .ok (.aload_n 0, 1) := by decide +kernel
theorem d_md_tick_70 : decode m_md_tick.2.1 70 = .ok (.iload_n 3, 1) := by decide +kernel
theorem d_md_tick_71 : decode m_md_tick.2.1 71 = .ok (.invokevirtual 161, 3) := by decide +kernel
theorem d_md_tick_74 : decode m_md_tick.2.1 74 = .ok (.iinc 2 1, 3) := by decide +kernel
theorem d_md_tick_77 : decode m_md_tick.2.1 77 = .ok (.iinc 3 1, 3) := by decide +kernel
theorem d_md_tick_80 : decode m_md_tick.2.1 80 = .ok (.goto (-45), 3) := by decide +kernel
theorem d_md_tick_83 : decode m_md_tick.2.1 83 = .ok (.aload_n 0, 1) := by decide +kernel
theorem d_md_tick_84 : decode m_md_tick.2.1 84 = .ok (.iload_n 2, 1) := by decide +kernel
theorem d_md_tick_85 : decode m_md_tick.2.1 85 = .ok (.invokevirtual 155, 3) := by decide +kernel
theorem d_md_tick_88 : decode m_md_tick.2.1 88 = .ok (.ireturn, 1) := by decide +kernel
theorem d_md_state_0 : decode m_md_state.2.1 0 = .ok (.aload_n 0, 1) := by decide +kernel
theorem d_md_state_1 : decode m_md_state.2.1 1 = .ok (.iconst 0, 1) := by decide +kernel
theorem d_md_state_2 : decode m_md_state.2.1 2 = .ok (.putfield 84, 3) := by decide +kernel
theorem d_md_state_5 : decode m_md_state.2.1 5 = .ok (.aload_n 0, 1) := by decide +kernel
theorem d_md_state_6 : decode m_md_state.2.1 6 = .ok (.iload_n 1, 1) := by decide +kernel
theorem d_md_state_7 : decode m_md_state.2.1 7 = .ok (.iconst 3, 1) := by decide +kernel
theorem d_md_state_8 : decode m_md_state.2.1 8 = .ok (.invokevirtual 145, 3) := by decide +kernel
theorem d_md_state_11 : decode m_md_state.2.1 11 = .ok (.ifCond .ne (13), 3) := by decide +kernel
theorem d_md_state_14 : decode m_md_state.2.1 14 = .ok (.aload_n 0, 1) := by decide +kernel
theorem d_md_state_15 : decode m_md_state.2.1 15 = .ok (.iload_n 2, 1) := by decide +kernel
theorem d_md_state_16 : decode m_md_state.2.1 16 = .ok (.bipush 6, 2) := by decide +kernel
theorem d_md_state_18 : decode m_md_state.2.1 18 = .ok (.invokevirtual 145, 3) := by decide +kernel
theorem d_md_state_21 : decode m_md_state.2.1 21 = .ok (.ifCond .eq (9), 3) := by decide +kernel
theorem d_md_state_24 : decode m_md_state.2.1 24 = .ok (.aload_n 0, 1) := by decide +kernel
theorem d_md_state_25 : decode m_md_state.2.1 25 = .ok (.iconst 1, 1) := by decide +kernel
theorem d_md_state_26 : decode m_md_state.2.1 26 = .ok (.invokevirtual 149, 3) := by decide +kernel
theorem d_md_state_29 : decode m_md_state.2.1 29 = .ok (.ireturn, 1) := by decide +kernel
theorem d_md_state_30 : decode m_md_state.2.1 30 = .ok (.iconst 0, 1) := by decide +kernel
theorem d_md_state_31 : decode m_md_state.2.1 31 = .ok (.istore_n 3, 1) := by decide +kernel
theorem d_md_state_32 : decode m_md_state.2.1 32 = .ok (.aload_n 0, 1) := by decide +kernel
theorem d_md_state_33 : decode m_md_state.2.1 33 = .ok (.iload_n 1, 1) := by decide +kernel
theorem d_md_state_34 : decode m_md_state.2.1 34 = .ok (.aload_n 0, 1) := by decide +kernel
theorem d_md_state_35 : decode m_md_state.2.1 35 = .ok (.getfield 25, 3) := by decide +kernel
theorem d_md_state_38 : decode m_md_state.2.1 38 = .ok (.iload_n 1, 1) := by decide +kernel
theorem d_md_state_39 : decode m_md_state.2.1 39 = .ok (.iaload, 1) := by decide +kernel
theorem d_md_state_40 : decode m_md_state.2.1 40 = .ok (.invokevirtual 122, 3) := by decide +kernel
theorem d_md_state_43 : decode m_md_state.2.1 43 = .ok (.iconst 0, 1) := by decide +kernel
theorem d_md_state_44 : decode m_md_state.2.1 44 = .ok (.istore 4, 2) := by decide +kernel
theorem d_md_state_46 : decode m_md_state.2.1 46 = .ok (.iload 4, 2) := by decide +kernel
theorem d_md_state_48 : decode m_md_state.2.1 48 = .ok (.sipush 259, 3) := by decide +kernel
theorem d_md_state_51 : decode m_md_state.2.1 51 = .ok (.if_icmp .ge (27), 3) := by decide +kernel
theorem d_md_state_54 : decode m_md_state.2.1 54 = .ok (.iload_n 3, 1) := by decide +kernel
theorem d_md_state_55 : decode m_md_state.2.1 55 = .ok (.aload_n 0, 1) := by decide +kernel
theorem d_md_state_56 : decode m_md_state.2.1 56 = .ok (.getfield 69, 3) := by decide +kernel
theorem d_md_state_59 : decode m_md_state.2.1 59 = .ok (.iload 4, 2) := by decide +kernel
theorem d_md_state_61 : decode m_md_state.2.1 61 = .ok (.baload, 1) := by decide +kernel
theorem d_md_state_62 : decode m_md_state.2.1 62 = .ok (.ifCond .eq (7), 3) := by decide +kernel
theorem d_md_state_65 : decode m_md_state.2.1 65 = .ok (.iconst 1, 1) := by decide +kernel
theorem d_md_state_66 : decode m_md_state.2.1 66 = .ok (.goto 4, 3) := by decide +kernel
theorem d_md_state_69 : decode m_md_state.2.1 69 = .ok (.iconst 0, 1) := by decide +kernel
theorem d_md_state_70 : decode m_md_state.2.1 70 = .ok (.iadd, 1) := by decide +kernel
theorem d_md_state_71 : decode m_md_state.2.1 71 = .ok (.istore_n 3, 1) := by decide +kernel
theorem d_md_state_72 : decode m_md_state.2.1 72 = .ok (.iinc 4 1, 3) := by decide +kernel
theorem d_md_state_75 : decode m_md_state.2.1 75 = .ok (.goto (-29), 3) := by decide +kernel
theorem d_md_state_78 : decode m_md_state.2.1 78 = .ok (.iload_n 2, 1) := by decide +kernel
theorem d_md_state_79 : decode m_md_state.2.1 79 = .ok (.tableswitch (78) (0) (4) #[33, 40, 47, 62, 76], 33) := by decide +kernel
theorem d_md_state_112 : decode m_md_state.2.1 112 = .ok (.aload_n 0, 1) := by decide +kernel
theorem d_md_state_113 : decode m_md_state.2.1 113 = .ok (.getfield 22, 3) := by decide +kernel
theorem d_md_state_116 : decode m_md_state.2.1 116 = .ok (.iload_n 1, 1) := by decide +kernel
theorem d_md_state_117 : decode m_md_state.2.1 117 = .ok (.iaload, 1) := by decide +kernel
theorem d_md_state_118 : decode m_md_state.2.1 118 = .ok (.ireturn, 1) := by decide +kernel
theorem d_md_state_119 : decode m_md_state.2.1 119 = .ok (.aload_n 0, 1) := by decide +kernel
theorem d_md_state_120 : decode m_md_state.2.1 120 = .ok (.getfield 25, 3) := by decide +kernel
theorem d_md_state_123 : decode m_md_state.2.1 123 = .ok (.iload_n 1, 1) := by decide +kernel
theorem d_md_state_124 : decode m_md_state.2.1 124 = .ok (.iaload, 1) := by decide +kernel
theorem d_md_state_125 : decode m_md_state.2.1 125 = .ok (.ireturn, 1) := by decide +kernel
theorem d_md_state_126 : decode m_md_state.2.1 126 = .ok (.aload_n 0, 1) := by decide +kernel
theorem d_md_state_127 : decode m_md_state.2.1 127 = .ok (.getfield 31, 3) := by decide +kernel
theorem d_md_state_130 : decode m_md_state.2.1 130 = .ok (.iload_n 1, 1) := by decide +kernel
theorem d_md_state_131 : decode m_md_state.2.1 131 = .ok (.baload, 1) := by decide +kernel
theorem d_md_state_132 : decode m_md_state.2.1 132 = .ok (.ifCond .eq (7), 3) := by decide +kernel
theorem d_md_state_135 : decode m_md_state.2.1 135 = .ok (.iconst 0, 1) := by decide +kernel
theorem d_md_state_136 : decode m_md_state.2.1 136 = .ok (.goto 4, 3) := by decide +kernel
theorem d_md_state_139 : decode m_md_state.2.1 139 = .ok (.iconst 1, 1) := by decide +kernel
theorem d_md_state_140 : decode m_md_state.2.1 140 = .ok (.ireturn, 1) := by decide +kernel
theorem d_md_state_141 : decode m_md_state.2.1 141 = .ok (.aload_n 0, 1) := by decide +kernel
theorem d_md_state_142 : decode m_md_state.2.1 142 = .ok (.iload_n 1, 1) := by decide +kernel
theorem d_md_state_143 : decode m_md_state.2.1 143 = .ok (.invokevirtual 112, 3) := by decide +kernel
theorem d_md_state_146 : decode m_md_state.2.1 146 = .ok (.ifCond .eq (7), 3) := by decide +kernel
theorem d_md_state_149 : decode m_md_state.2.1 149 = .ok (.iconst 1, 1) := by decide +kernel
theorem d_md_state_150 : decode m_md_state.2.1 150 = .ok (.goto 4, 3) := by decide +kernel
theorem d_md_state_153 : decode m_md_state.2.1 153 = .ok (.iconst 0, 1) := by decide +kernel
theorem d_md_state_154 : decode m_md_state.2.1 154 = .ok (.ireturn, 1) := by decide +kernel
theorem d_md_state_155 : decode m_md_state.2.1 155 = .ok (.iload_n 3, 1) := by decide +kernel
theorem d_md_state_156 : decode m_md_state.2.1 156 = .ok (.ireturn, 1) := by decide +kernel
theorem d_md_state_157 : decode m_md_state.2.1 157 = .ok (.aload_n 0, 1) := by decide +kernel
theorem d_md_state_158 : decode m_md_state.2.1 158 = .ok (.getfield 28, 3) := by decide +kernel
theorem d_md_state_161 : decode m_md_state.2.1 161 = .ok (.iload_n 1, 1) := by decide +kernel
theorem d_md_state_162 : decode m_md_state.2.1 162 = .ok (.iaload, 1) := by decide +kernel
theorem d_md_state_163 : decode m_md_state.2.1 163 = .ok (.ireturn, 1) := by decide +kernel
theorem d_md_count_0 : decode m_md_count.2.1 0 = .ok (.aload_n 0, 1) := by decide +kernel
theorem d_md_count_1 : decode m_md_count.2.1 1 = .ok (.iconst 0, 1) := by decide +kernel
theorem d_md_count_2 : decode m_md_count.2.1 2 = .ok (.putfield 84, 3) := by decide +kernel
theorem d_md_count_5 : decode m_md_count.2.1 5 = .ok (.aload_n 0, 1) := by decide +kernel
theorem d_md_count_6 : decode m_md_count.2.1 6 = .ok (.iload_n 1, 1) := by decide +kernel
theorem d_md_count_7 : decode m_md_count.2.1 7 = .ok (.bipush 8, 2) := by decide +kernel
theorem d_md_count_9 : decode m_md_count.2.1 9 = .ok (.invokevirtual 145, 3) := by decide +kernel
theorem d_md_count_12 : decode m_md_count.2.1 12 = .ok (.ifCond .eq (9), 3) := by decide +kernel
theorem d_md_count_15 : decode m_md_count.2.1 15 = .ok (.aload_n 0, 1) := by decide +kernel
theorem d_md_count_16 : decode m_md_count.2.1 16 = .ok (.iconst 1, 1) := by decide +kernel
theorem d_md_count_17 : decode m_md_count.2.1 17 = .ok (.invokevirtual 149, 3) := by decide +kernel
theorem d_md_count_20 : decode m_md_count.2.1 20 = .ok (.ireturn, 1) := by decide +kernel
theorem d_md_count_21 : decode m_md_count.2.1 21 = .ok (.iload_n 1, 1) := by decide +kernel
theorem d_md_count_22 : decode m_md_count.2.1 22 = .ok (.ifCond .ne (8), 3) := by decide +kernel
theorem d_md_count_25 : decode m_md_count.2.1 25 = .ok (.aload_n 0, 1) := by decide +kernel
theorem d_md_count_26 : decode m_md_count.2.1 26 = .ok (.getfield 152, 3) := by decide +kernel
theorem d_md_count_29 : decode m_md_count.2.1 29 = .ok (.ireturn, 1) := by decide +kernel
theorem d_md_count_30 : decode m_md_count.2.1 30 = .ok (.iload_n 1, 1) := by decide +kernel
theorem d_md_count_31 : decode m_md_count.2.1 31 = .ok (.iconst 1, 1) := by decide +kernel
theorem d_md_count_32 : decode m_md_count.2.1 32 = .ok (.if_icmp .ne (8), 3) := by decide +kernel
theorem d_md_count_35 : decode m_md_count.2.1 35 = .ok (.aload_n 0, 1) := by decide +kernel
theorem d_md_count_36 : decode m_md_count.2.1 36 = .ok (.getfield 105, 3) := by decide +kernel
theorem d_md_count_39 : decode m_md_count.2.1 39 = .ok (.ireturn, 1) := by decide +kernel
theorem d_md_count_40 : decode m_md_count.2.1 40 = .ok (.iload_n 1, 1) := by decide +kernel
theorem d_md_count_41 : decode m_md_count.2.1 41 = .ok (.iconst 2, 1) := by decide +kernel
theorem d_md_count_42 : decode m_md_count.2.1 42 = .ok (.if_icmp .ne (8), 3) := by decide +kernel
theorem d_md_count_45 : decode m_md_count.2.1 45 = .ok (.aload_n 0, 1) := by decide +kernel
theorem d_md_count_46 : decode m_md_count.2.1 46 = .ok (.getfield 38, 3) := by decide +kernel
theorem d_md_count_49 : decode m_md_count.2.1 49 = .ok (.ireturn, 1) := by decide +kernel
theorem d_md_count_50 : decode m_md_count.2.1 50 = .ok (.iload_n 1, 1) := by decide +kernel
theorem d_md_count_51 : decode m_md_count.2.1 51 = .ok (.iconst 3, 1) := by decide +kernel
theorem d_md_count_52 : decode m_md_count.2.1 52 = .ok (.if_icmp .ne (16), 3) := by decide +kernel
theorem d_md_count_55 : decode m_md_count.2.1 55 = .ok (.aload_n 0, 1) := by decide +kernel
theorem d_md_count_56 : decode m_md_count.2.1 56 = .ok (.invokevirtual 118, 3) := by decide +kernel
theorem d_md_count_59 : decode m_md_count.2.1 59 = .ok (.ifCond .eq (7), 3) := by decide +kernel
theorem d_md_count_62 : decode m_md_count.2.1 62 = .ok (.iconst 1, 1) := by decide +kernel
theorem d_md_count_63 : decode m_md_count.2.1 63 = .ok (.goto 4, 3) := by decide +kernel
theorem d_md_count_66 : decode m_md_count.2.1 66 = .ok (.iconst 0, 1) := by decide +kernel
theorem d_md_count_67 : decode m_md_count.2.1 67 = .ok (.ireturn, 1) := by decide +kernel
theorem d_md_count_68 : decode m_md_count.2.1 68 = .ok (.aload_n 0, 1) := by decide +kernel
theorem d_md_count_69 : decode m_md_count.2.1 69 = .ok (.getfield 42, 3) := by decide +kernel
theorem d_md_count_72 : decode m_md_count.2.1 72 = .ok (.iload_n 1, 1) := by decide +kernel
theorem d_md_count_73 : decode m_md_count.2.1 73 = .ok (.iconst 4, 1) := by decide +kernel
theorem d_md_count_74 : decode m_md_count.2.1 74 = .ok (.isub, 1) := by decide +kernel
theorem d_md_count_75 : decode m_md_count.2.1 75 = .ok (.baload, 1) := by decide +kernel
theorem d_md_count_76 : decode m_md_count.2.1 76 = .ok (.ifCond .eq (7), 3) := by decide +kernel
theorem d_md_count_79 : decode m_md_count.2.1 79 = .ok (.iconst 1, 1) := by decide +kernel
theorem d_md_count_80 : decode m_md_count.2.1 80 = .ok (.goto 19, 3) := by decide +kernel
theorem d_md_count_83 : decode m_md_count.2.1 83 = .ok (.aload_n 0, 1) := by decide +kernel
theorem d_md_count_84 : decode m_md_count.2.1 84 = .ok (.getfield 45, 3) := by decide +kernel
theorem d_md_count_87 : decode m_md_count.2.1 87 = .ok (.iload_n 1, 1) := by decide +kernel
theorem d_md_count_88 : decode m_md_count.2.1 88 = .ok (.iconst 4, 1) := by decide +kernel
theorem d_md_count_89 : decode m_md_count.2.1 89 = .ok (.isub, 1) := by decide +kernel
theorem d_md_count_90 : decode m_md_count.2.1 90 = .ok (.baload, 1) := by decide +kernel
theorem d_md_count_91 : decode m_md_count.2.1 91 = .ok (.ifCond .eq (7), 3) := by decide +kernel
theorem d_md_count_94 : decode m_md_count.2.1 94 = .ok (.iconst 2, 1) := by decide +kernel
theorem d_md_count_95 : decode m_md_count.2.1 95 = .ok (.goto 4, 3) := by decide +kernel
theorem d_md_count_98 : decode m_md_count.2.1 98 = .ok (.iconst 0, 1) := by decide +kernel
theorem d_md_count_99 : decode m_md_count.2.1 99 = .ok (.ireturn, 1) := by decide +kernel
end
section
/-! decode rows, by wip/whole/gen_facts.py -/
theorem d_lw_open_0 : decode m_lw_open.2.1 0 = .ok (.aload 4, 2) := by decide +kernel
theorem d_lw_open_2 : decode m_lw_open.2.1 2 = .ok (.iconst 0, 1) := by decide +kernel
theorem d_lw_open_3 : decode m_lw_open.2.1 3 = .ok (.aload_n 0, 1) := by decide +kernel
theorem d_lw_open_4 : decode m_lw_open.2.1 4 = .ok (.iload_n 1, 1) := by decide +kernel
theorem d_lw_open_5 : decode m_lw_open.2.1 5 = .ok (.iload_n 2, 1) := by decide +kernel
theorem d_lw_open_6 : decode m_lw_open.2.1 6 = .ok (.iload_n 3, 1) := by decide +kernel
theorem d_lw_open_7 : decode m_lw_open.2.1 7 = .ok (.invokevirtual 7, 3) := by decide +kernel
theorem d_lw_open_10 : decode m_lw_open.2.1 10 = .ok (.i2l, 1) := by decide +kernel
theorem d_lw_open_11 : decode m_lw_open.2.1 11 = .ok (.lastore, 1) := by decide +kernel
theorem d_lw_open_12 : decode m_lw_open.2.1 12 = .ok (.goto 11, 3) := by decide +kernel
theorem d_lw_open_15 : decode m_lw_open.2.1 15 = .ok (.astore 5, 2) := by decide +kernel
theorem d_lw_open_17 : decode m_lw_open.2.1 17 = .ok (.iconst 1, 1) := by decide +kernel
theorem d_lw_open_18 : decode m_lw_open.2.1 18 = .ok (.ireturn, 1) := by decide +kernel
theorem d_lw_open_19 : decode m_lw_open.2.1 19 = .ok (.astore 5, 2) := by decide +kernel
theorem d_lw_open_21 : decode m_lw_open.2.1 21 = .ok (.iconst 2, 1) := by decide +kernel
theorem d_lw_open_22 : decode m_lw_open.2.1 22 = .ok (.ireturn, 1) := by decide +kernel
theorem d_lw_open_23 : decode m_lw_open.2.1 23 = .ok (.iconst 0, 1) := by decide +kernel
theorem d_lw_open_24 : decode m_lw_open.2.1 24 = .ok (.ireturn, 1) := by decide +kernel
theorem d_lw_close_0 : decode m_lw_close.2.1 0 = .ok (.aload_n 2, 1) := by decide +kernel
theorem d_lw_close_1 : decode m_lw_close.2.1 1 = .ok (.iconst 0, 1) := by decide +kernel
theorem d_lw_close_2 : decode m_lw_close.2.1 2 = .ok (.aload_n 0, 1) := by decide +kernel
theorem d_lw_close_3 : decode m_lw_close.2.1 3 = .ok (.iload_n 1, 1) := by decide +kernel
theorem d_lw_close_4 : decode m_lw_close.2.1 4 = .ok (.invokevirtual 17, 3) := by decide +kernel
theorem d_lw_close_7 : decode m_lw_close.2.1 7 = .ok (.i2l, 1) := by decide +kernel
theorem d_lw_close_8 : decode m_lw_close.2.1 8 = .ok (.lastore, 1) := by decide +kernel
theorem d_lw_close_9 : decode m_lw_close.2.1 9 = .ok (.goto 9, 3) := by decide +kernel
theorem d_lw_close_12 : decode m_lw_close.2.1 12 = .ok (.astore_n 3, 1) := by decide +kernel
theorem d_lw_close_13 : decode m_lw_close.2.1 13 = .ok (.iconst 1, 1) := by decide +kernel
theorem d_lw_close_14 : decode m_lw_close.2.1 14 = .ok (.ireturn, 1) := by decide +kernel
theorem d_lw_close_15 : decode m_lw_close.2.1 15 = .ok (.astore_n 3, 1) := by decide +kernel
theorem d_lw_close_16 : decode m_lw_close.2.1 16 = .ok (.iconst 2, 1) := by decide +kernel
theorem d_lw_close_17 : decode m_lw_close.2.1 17 = .ok (.ireturn, 1) := by decide +kernel
theorem d_lw_close_18 : decode m_lw_close.2.1 18 = .ok (.iconst 0, 1) := by decide +kernel
theorem d_lw_close_19 : decode m_lw_close.2.1 19 = .ok (.ireturn, 1) := by decide +kernel
theorem d_lw_ping_0 : decode m_lw_ping.2.1 0 = .ok (.aload_n 2, 1) := by decide +kernel
theorem d_lw_ping_1 : decode m_lw_ping.2.1 1 = .ok (.iconst 0, 1) := by decide +kernel
theorem d_lw_ping_2 : decode m_lw_ping.2.1 2 = .ok (.aload_n 0, 1) := by decide +kernel
theorem d_lw_ping_3 : decode m_lw_ping.2.1 3 = .ok (.iload_n 1, 1) := by decide +kernel
theorem d_lw_ping_4 : decode m_lw_ping.2.1 4 = .ok (.invokevirtual 21, 3) := by decide +kernel
theorem d_lw_ping_7 : decode m_lw_ping.2.1 7 = .ok (.i2l, 1) := by decide +kernel
theorem d_lw_ping_8 : decode m_lw_ping.2.1 8 = .ok (.lastore, 1) := by decide +kernel
theorem d_lw_ping_9 : decode m_lw_ping.2.1 9 = .ok (.goto 9, 3) := by decide +kernel
theorem d_lw_ping_12 : decode m_lw_ping.2.1 12 = .ok (.astore_n 3, 1) := by decide +kernel
theorem d_lw_ping_13 : decode m_lw_ping.2.1 13 = .ok (.iconst 1, 1) := by decide +kernel
theorem d_lw_ping_14 : decode m_lw_ping.2.1 14 = .ok (.ireturn, 1) := by decide +kernel
theorem d_lw_ping_15 : decode m_lw_ping.2.1 15 = .ok (.astore_n 3, 1) := by decide +kernel
theorem d_lw_ping_16 : decode m_lw_ping.2.1 16 = .ok (.iconst 2, 1) := by decide +kernel
theorem d_lw_ping_17 : decode m_lw_ping.2.1 17 = .ok (.ireturn, 1) := by decide +kernel
theorem d_lw_ping_18 : decode m_lw_ping.2.1 18 = .ok (.iconst 0, 1) := by decide +kernel
theorem d_lw_ping_19 : decode m_lw_ping.2.1 19 = .ok (.ireturn, 1) := by decide +kernel
theorem d_lw_move_0 : decode m_lw_move.2.1 0 = .ok (.aload_n 3, 1) := by decide +kernel
theorem d_lw_move_1 : decode m_lw_move.2.1 1 = .ok (.iconst 0, 1) := by decide +kernel
theorem d_lw_move_2 : decode m_lw_move.2.1 2 = .ok (.aload_n 0, 1) := by decide +kernel
theorem d_lw_move_3 : decode m_lw_move.2.1 3 = .ok (.iload_n 1, 1) := by decide +kernel
theorem d_lw_move_4 : decode m_lw_move.2.1 4 = .ok (.iload_n 2, 1) := by decide +kernel
theorem d_lw_move_5 : decode m_lw_move.2.1 5 = .ok (.invokevirtual 24, 3) := by decide +kernel
theorem d_lw_move_8 : decode m_lw_move.2.1 8 = .ok (.i2l, 1) := by decide +kernel
theorem d_lw_move_9 : decode m_lw_move.2.1 9 = .ok (.lastore, 1) := by decide +kernel
theorem d_lw_move_10 : decode m_lw_move.2.1 10 = .ok (.goto 11, 3) := by decide +kernel
theorem d_lw_move_13 : decode m_lw_move.2.1 13 = .ok (.astore 4, 2) := by decide +kernel
theorem d_lw_move_15 : decode m_lw_move.2.1 15 = .ok (.iconst 1, 1) := by decide +kernel
theorem d_lw_move_16 : decode m_lw_move.2.1 16 = .ok (.ireturn, 1) := by decide +kernel
theorem d_lw_move_17 : decode m_lw_move.2.1 17 = .ok (.astore 4, 2) := by decide +kernel
theorem d_lw_move_19 : decode m_lw_move.2.1 19 = .ok (.iconst 2, 1) := by decide +kernel
theorem d_lw_move_20 : decode m_lw_move.2.1 20 = .ok (.ireturn, 1) := by decide +kernel
theorem d_lw_move_21 : decode m_lw_move.2.1 21 = .ok (.iconst 0, 1) := by decide +kernel
theorem d_lw_move_22 : decode m_lw_move.2.1 22 = .ok (.ireturn, 1) := by decide +kernel
theorem d_lw_create_0 : decode m_lw_create.2.1 0 = .ok (.aload 5, 2) := by decide +kernel
theorem d_lw_create_2 : decode m_lw_create.2.1 2 = .ok (.iconst 0, 1) := by decide +kernel
theorem d_lw_create_3 : decode m_lw_create.2.1 3 = .ok (.aload_n 0, 1) := by decide +kernel
theorem d_lw_create_4 : decode m_lw_create.2.1 4 = .ok (.iload_n 1, 1) := by decide +kernel
theorem d_lw_create_5 : decode m_lw_create.2.1 5 = .ok (.iload_n 2, 1) := by decide +kernel
theorem d_lw_create_6 : decode m_lw_create.2.1 6 = .ok (.iload_n 3, 1) := by decide +kernel
theorem d_lw_create_7 : decode m_lw_create.2.1 7 = .ok (.iload 4, 2) := by decide +kernel
theorem d_lw_create_9 : decode m_lw_create.2.1 9 = .ok (.invokevirtual 28, 3) := by decide +kernel
theorem d_lw_create_12 : decode m_lw_create.2.1 12 = .ok (.i2l, 1) := by decide +kernel
theorem d_lw_create_13 : decode m_lw_create.2.1 13 = .ok (.lastore, 1) := by decide +kernel
theorem d_lw_create_14 : decode m_lw_create.2.1 14 = .ok (.goto 23, 3) := by decide +kernel
theorem d_lw_create_17 : decode m_lw_create.2.1 17 = .ok (.astore 6, 2) := by decide +kernel
theorem d_lw_create_19 : decode m_lw_create.2.1 19 = .ok (.iconst 1, 1) := by decide +kernel
theorem d_lw_create_20 : decode m_lw_create.2.1 20 = .ok (.ireturn, 1) := by decide +kernel
theorem d_lw_create_21 : decode m_lw_create.2.1 21 = .ok (.astore 6, 2) := by decide +kernel
theorem d_lw_create_23 : decode m_lw_create.2.1 23 = .ok (.iconst 2, 1) := by decide +kernel
theorem d_lw_create_24 : decode m_lw_create.2.1 24 = .ok (.ireturn, 1) := by decide +kernel
theorem d_lw_create_25 : decode m_lw_create.2.1 25 = .ok (.astore 6, 2) := by decide +kernel
theorem d_lw_create_27 : decode m_lw_create.2.1 27 = .ok (.iconst 3, 1) := by decide +kernel
theorem d_lw_create_28 : decode m_lw_create.2.1 28 = .ok (.ireturn, 1) := by decide +kernel
theorem d_lw_create_29 : decode m_lw_create.2.1 29 = .ok (.astore 6, 2) := by decide +kernel
theorem d_lw_create_31 : decode m_lw_create.2.1 31 = .ok (.iconst 4, 1) := by decide +kernel
theorem d_lw_create_32 : decode m_lw_create.2.1 32 = .ok (.ireturn, 1) := by decide +kernel
theorem d_lw_create_33 : decode m_lw_create.2.1 33 = .ok (.astore 6, 2) := by decide +kernel
theorem d_lw_create_35 : decode m_lw_create.2.1 35 = .ok (.iconst 5, 1) := by decide +kernel
theorem d_lw_create_36 : decode m_lw_create.2.1 36 = .ok (.ireturn, 1) := by decide +kernel
theorem d_lw_create_37 : decode m_lw_create.2.1 37 = .ok (.iconst 0, 1) := by decide +kernel
theorem d_lw_create_38 : decode m_lw_create.2.1 38 = .ok (.ireturn, 1) := by decide +kernel
theorem d_lw_set_0 : decode m_lw_set.2.1 0 = .ok (.aload 5, 2) := by decide +kernel
theorem d_lw_set_2 : decode m_lw_set.2.1 2 = .ok (.iconst 0, 1) := by decide +kernel
theorem d_lw_set_3 : decode m_lw_set.2.1 3 = .ok (.aload_n 0, 1) := by decide +kernel
theorem d_lw_set_4 : decode m_lw_set.2.1 4 = .ok (.iload_n 1, 1) := by decide +kernel
theorem d_lw_set_5 : decode m_lw_set.2.1 5 = .ok (.iload_n 2, 1) := by decide +kernel
theorem d_lw_set_6 : decode m_lw_set.2.1 6 = .ok (.iload_n 3, 1) := by decide +kernel
theorem d_lw_set_7 : decode m_lw_set.2.1 7 = .ok (.iload 4, 2) := by decide +kernel
theorem d_lw_set_9 : decode m_lw_set.2.1 9 = .ok (.invokevirtual 38, 3) := by decide +kernel
theorem d_lw_set_12 : decode m_lw_set.2.1 12 = .ok (.i2l, 1) := by decide +kernel
theorem d_lw_set_13 : decode m_lw_set.2.1 13 = .ok (.lastore, 1) := by decide +kernel
theorem d_lw_set_14 : decode m_lw_set.2.1 14 = .ok (.goto 15, 3) := by decide +kernel
theorem d_lw_set_17 : decode m_lw_set.2.1 17 = .ok (.astore 6, 2) := by decide +kernel
theorem d_lw_set_19 : decode m_lw_set.2.1 19 = .ok (.iconst 1, 1) := by decide +kernel
theorem d_lw_set_20 : decode m_lw_set.2.1 20 = .ok (.ireturn, 1) := by decide +kernel
theorem d_lw_set_21 : decode m_lw_set.2.1 21 = .ok (.astore 6, 2) := by decide +kernel
theorem d_lw_set_23 : decode m_lw_set.2.1 23 = .ok (.iconst 2, 1) := by decide +kernel
theorem d_lw_set_24 : decode m_lw_set.2.1 24 = .ok (.ireturn, 1) := by decide +kernel
theorem d_lw_set_25 : decode m_lw_set.2.1 25 = .ok (.astore 6, 2) := by decide +kernel
theorem d_lw_set_27 : decode m_lw_set.2.1 27 = .ok (.iconst 3, 1) := by decide +kernel
theorem d_lw_set_28 : decode m_lw_set.2.1 28 = .ok (.ireturn, 1) := by decide +kernel
theorem d_lw_set_29 : decode m_lw_set.2.1 29 = .ok (.iconst 0, 1) := by decide +kernel
theorem d_lw_set_30 : decode m_lw_set.2.1 30 = .ok (.ireturn, 1) := by decide +kernel
theorem d_lw_delete_0 : decode m_lw_delete.2.1 0 = .ok (.aload 4, 2) := by decide +kernel
theorem d_lw_delete_2 : decode m_lw_delete.2.1 2 = .ok (.iconst 0, 1) := by decide +kernel
theorem d_lw_delete_3 : decode m_lw_delete.2.1 3 = .ok (.aload_n 0, 1) := by decide +kernel
theorem d_lw_delete_4 : decode m_lw_delete.2.1 4 = .ok (.iload_n 1, 1) := by decide +kernel
theorem d_lw_delete_5 : decode m_lw_delete.2.1 5 = .ok (.iload_n 2, 1) := by decide +kernel
theorem d_lw_delete_6 : decode m_lw_delete.2.1 6 = .ok (.iload_n 3, 1) := by decide +kernel
theorem d_lw_delete_7 : decode m_lw_delete.2.1 7 = .ok (.invokevirtual 41, 3) := by decide +kernel
theorem d_lw_delete_10 : decode m_lw_delete.2.1 10 = .ok (.i2l, 1) := by decide +kernel
theorem d_lw_delete_11 : decode m_lw_delete.2.1 11 = .ok (.lastore, 1) := by decide +kernel
theorem d_lw_delete_12 : decode m_lw_delete.2.1 12 = .ok (.goto 19, 3) := by decide +kernel
theorem d_lw_delete_15 : decode m_lw_delete.2.1 15 = .ok (.astore 5, 2) := by decide +kernel
theorem d_lw_delete_17 : decode m_lw_delete.2.1 17 = .ok (.iconst 1, 1) := by decide +kernel
theorem d_lw_delete_18 : decode m_lw_delete.2.1 18 = .ok (.ireturn, 1) := by decide +kernel
theorem d_lw_delete_19 : decode m_lw_delete.2.1 19 = .ok (.astore 5, 2) := by decide +kernel
theorem d_lw_delete_21 : decode m_lw_delete.2.1 21 = .ok (.iconst 2, 1) := by decide +kernel
theorem d_lw_delete_22 : decode m_lw_delete.2.1 22 = .ok (.ireturn, 1) := by decide +kernel
theorem d_lw_delete_23 : decode m_lw_delete.2.1 23 = .ok (.astore 5, 2) := by decide +kernel
theorem d_lw_delete_25 : decode m_lw_delete.2.1 25 = .ok (.iconst 3, 1) := by decide +kernel
theorem d_lw_delete_26 : decode m_lw_delete.2.1 26 = .ok (.ireturn, 1) := by decide +kernel
theorem d_lw_delete_27 : decode m_lw_delete.2.1 27 = .ok (.astore 5, 2) := by decide +kernel
theorem d_lw_delete_29 : decode m_lw_delete.2.1 29 = .ok (.iconst 4, 1) := by decide +kernel
theorem d_lw_delete_30 : decode m_lw_delete.2.1 30 = .ok (.ireturn, 1) := by decide +kernel
theorem d_lw_delete_31 : decode m_lw_delete.2.1 31 = .ok (.iconst 0, 1) := by decide +kernel
theorem d_lw_delete_32 : decode m_lw_delete.2.1 32 = .ok (.ireturn, 1) := by decide +kernel
theorem d_lw_get_0 : decode m_lw_get.2.1 0 = .ok (.aload 4, 2) := by decide +kernel
theorem d_lw_get_2 : decode m_lw_get.2.1 2 = .ok (.iconst 0, 1) := by decide +kernel
theorem d_lw_get_3 : decode m_lw_get.2.1 3 = .ok (.aload_n 0, 1) := by decide +kernel
theorem d_lw_get_4 : decode m_lw_get.2.1 4 = .ok (.iload_n 1, 1) := by decide +kernel
theorem d_lw_get_5 : decode m_lw_get.2.1 5 = .ok (.iload_n 2, 1) := by decide +kernel
theorem d_lw_get_6 : decode m_lw_get.2.1 6 = .ok (.iload_n 3, 1) := by decide +kernel
theorem d_lw_get_7 : decode m_lw_get.2.1 7 = .ok (.invokevirtual 44, 3) := by decide +kernel
theorem d_lw_get_10 : decode m_lw_get.2.1 10 = .ok (.i2l, 1) := by decide +kernel
theorem d_lw_get_11 : decode m_lw_get.2.1 11 = .ok (.lastore, 1) := by decide +kernel
theorem d_lw_get_12 : decode m_lw_get.2.1 12 = .ok (.goto 15, 3) := by decide +kernel
theorem d_lw_get_15 : decode m_lw_get.2.1 15 = .ok (.astore 5, 2) := by decide +kernel
theorem d_lw_get_17 : decode m_lw_get.2.1 17 = .ok (.iconst 1, 1) := by decide +kernel
theorem d_lw_get_18 : decode m_lw_get.2.1 18 = .ok (.ireturn, 1) := by decide +kernel
theorem d_lw_get_19 : decode m_lw_get.2.1 19 = .ok (.astore 5, 2) := by decide +kernel
theorem d_lw_get_21 : decode m_lw_get.2.1 21 = .ok (.iconst 2, 1) := by decide +kernel
theorem d_lw_get_22 : decode m_lw_get.2.1 22 = .ok (.ireturn, 1) := by decide +kernel
theorem d_lw_get_23 : decode m_lw_get.2.1 23 = .ok (.astore 5, 2) := by decide +kernel
theorem d_lw_get_25 : decode m_lw_get.2.1 25 = .ok (.iconst 3, 1) := by decide +kernel
theorem d_lw_get_26 : decode m_lw_get.2.1 26 = .ok (.ireturn, 1) := by decide +kernel
theorem d_lw_get_27 : decode m_lw_get.2.1 27 = .ok (.iconst 0, 1) := by decide +kernel
theorem d_lw_get_28 : decode m_lw_get.2.1 28 = .ok (.ireturn, 1) := by decide +kernel
theorem d_lw_exists_0 : decode m_lw_exists.2.1 0 = .ok (.aload 4, 2) := by decide +kernel
theorem d_lw_exists_2 : decode m_lw_exists.2.1 2 = .ok (.iconst 0, 1) := by decide +kernel
theorem d_lw_exists_3 : decode m_lw_exists.2.1 3 = .ok (.aload_n 0, 1) := by decide +kernel
theorem d_lw_exists_4 : decode m_lw_exists.2.1 4 = .ok (.iload_n 1, 1) := by decide +kernel
theorem d_lw_exists_5 : decode m_lw_exists.2.1 5 = .ok (.iload_n 2, 1) := by decide +kernel
theorem d_lw_exists_6 : decode m_lw_exists.2.1 6 = .ok (.iload_n 3, 1) := by decide +kernel
theorem d_lw_exists_7 : decode m_lw_exists.2.1 7 = .ok (.invokevirtual 48, 3) := by decide +kernel
theorem d_lw_exists_10 : decode m_lw_exists.2.1 10 = .ok (.ifCond .eq (7), 3) := by decide +kernel
theorem d_lw_exists_13 : decode m_lw_exists.2.1 13 = .ok (.lconst 1, 1) := by decide +kernel
theorem d_lw_exists_14 : decode m_lw_exists.2.1 14 = .ok (.goto 4, 3) := by decide +kernel
theorem d_lw_exists_17 : decode m_lw_exists.2.1 17 = .ok (.lconst 0, 1) := by decide +kernel
theorem d_lw_exists_18 : decode m_lw_exists.2.1 18 = .ok (.lastore, 1) := by decide +kernel
theorem d_lw_exists_19 : decode m_lw_exists.2.1 19 = .ok (.goto 11, 3) := by decide +kernel
theorem d_lw_exists_22 : decode m_lw_exists.2.1 22 = .ok (.astore 5, 2) := by decide +kernel
theorem d_lw_exists_24 : decode m_lw_exists.2.1 24 = .ok (.iconst 1, 1) := by decide +kernel
theorem d_lw_exists_25 : decode m_lw_exists.2.1 25 = .ok (.ireturn, 1) := by decide +kernel
theorem d_lw_exists_26 : decode m_lw_exists.2.1 26 = .ok (.astore 5, 2) := by decide +kernel
theorem d_lw_exists_28 : decode m_lw_exists.2.1 28 = .ok (.iconst 2, 1) := by decide +kernel
theorem d_lw_exists_29 : decode m_lw_exists.2.1 29 = .ok (.ireturn, 1) := by decide +kernel
theorem d_lw_exists_30 : decode m_lw_exists.2.1 30 = .ok (.iconst 0, 1) := by decide +kernel
theorem d_lw_exists_31 : decode m_lw_exists.2.1 31 = .ok (.ireturn, 1) := by decide +kernel
theorem d_lw_children_0 : decode m_lw_children.2.1 0 = .ok (.aload 4, 2) := by decide +kernel
theorem d_lw_children_2 : decode m_lw_children.2.1 2 = .ok (.iconst 0, 1) := by decide +kernel
theorem d_lw_children_3 : decode m_lw_children.2.1 3 = .ok (.aload_n 0, 1) := by decide +kernel
theorem d_lw_children_4 : decode m_lw_children.2.1 4 = .ok (.iload_n 1, 1) := by decide +kernel
theorem d_lw_children_5 : decode m_lw_children.2.1 5 = .ok (.iload_n 2, 1) := by decide +kernel
theorem d_lw_children_6 : decode m_lw_children.2.1 6 = .ok (.iload_n 3, 1) := by decide +kernel
theorem d_lw_children_7 : decode m_lw_children.2.1 7 = .ok (.invokevirtual 52, 3) := by decide +kernel
theorem d_lw_children_10 : decode m_lw_children.2.1 10 = .ok (.i2l, 1) := by decide +kernel
theorem d_lw_children_11 : decode m_lw_children.2.1 11 = .ok (.lastore, 1) := by decide +kernel
theorem d_lw_children_12 : decode m_lw_children.2.1 12 = .ok (.goto 15, 3) := by decide +kernel
theorem d_lw_children_15 : decode m_lw_children.2.1 15 = .ok (.astore 5, 2) := by decide +kernel
theorem d_lw_children_17 : decode m_lw_children.2.1 17 = .ok (.iconst 1, 1) := by decide +kernel
theorem d_lw_children_18 : decode m_lw_children.2.1 18 = .ok (.ireturn, 1) := by decide +kernel
theorem d_lw_children_19 : decode m_lw_children.2.1 19 = .ok (.astore 5, 2) := by decide +kernel
theorem d_lw_children_21 : decode m_lw_children.2.1 21 = .ok (.iconst 2, 1) := by decide +kernel
theorem d_lw_children_22 : decode m_lw_children.2.1 22 = .ok (.ireturn, 1) := by decide +kernel
theorem d_lw_children_23 : decode m_lw_children.2.1 23 = .ok (.astore 5, 2) := by decide +kernel
theorem d_lw_children_25 : decode m_lw_children.2.1 25 = .ok (.iconst 3, 1) := by decide +kernel
theorem d_lw_children_26 : decode m_lw_children.2.1 26 = .ok (.ireturn, 1) := by decide +kernel
theorem d_lw_children_27 : decode m_lw_children.2.1 27 = .ok (.iconst 0, 1) := by decide +kernel
theorem d_lw_children_28 : decode m_lw_children.2.1 28 = .ok (.ireturn, 1) := by decide +kernel
theorem d_lw_fact_0 : decode m_lw_fact.2.1 0 = .ok (.aload 4, 2) := by decide +kernel
theorem d_lw_fact_2 : decode m_lw_fact.2.1 2 = .ok (.iconst 0, 1) := by decide +kernel
theorem d_lw_fact_3 : decode m_lw_fact.2.1 3 = .ok (.aload_n 0, 1) := by decide +kernel
theorem d_lw_fact_4 : decode m_lw_fact.2.1 4 = .ok (.iload_n 1, 1) := by decide +kernel
theorem d_lw_fact_5 : decode m_lw_fact.2.1 5 = .ok (.iload_n 2, 1) := by decide +kernel
theorem d_lw_fact_6 : decode m_lw_fact.2.1 6 = .ok (.iload_n 3, 1) := by decide +kernel
theorem d_lw_fact_7 : decode m_lw_fact.2.1 7 = .ok (.invokevirtual 55, 3) := by decide +kernel
theorem d_lw_fact_10 : decode m_lw_fact.2.1 10 = .ok (.i2l, 1) := by decide +kernel
theorem d_lw_fact_11 : decode m_lw_fact.2.1 11 = .ok (.lastore, 1) := by decide +kernel
theorem d_lw_fact_12 : decode m_lw_fact.2.1 12 = .ok (.goto 15, 3) := by decide +kernel
theorem d_lw_fact_15 : decode m_lw_fact.2.1 15 = .ok (.astore 5, 2) := by decide +kernel
theorem d_lw_fact_17 : decode m_lw_fact.2.1 17 = .ok (.iconst 1, 1) := by decide +kernel
theorem d_lw_fact_18 : decode m_lw_fact.2.1 18 = .ok (.ireturn, 1) := by decide +kernel
theorem d_lw_fact_19 : decode m_lw_fact.2.1 19 = .ok (.astore 5, 2) := by decide +kernel
theorem d_lw_fact_21 : decode m_lw_fact.2.1 21 = .ok (.iconst 2, 1) := by decide +kernel
theorem d_lw_fact_22 : decode m_lw_fact.2.1 22 = .ok (.ireturn, 1) := by decide +kernel
theorem d_lw_fact_23 : decode m_lw_fact.2.1 23 = .ok (.astore 5, 2) := by decide +kernel
theorem d_lw_fact_25 : decode m_lw_fact.2.1 25 = .ok (.iconst 3, 1) := by decide +kernel
theorem d_lw_fact_26 : decode m_lw_fact.2.1 26 = .ok (.ireturn, 1) := by decide +kernel
theorem d_lw_fact_27 : decode m_lw_fact.2.1 27 = .ok (.iconst 0, 1) := by decide +kernel
theorem d_lw_fact_28 : decode m_lw_fact.2.1 28 = .ok (.ireturn, 1) := by decide +kernel
theorem d_lw_event_0 : decode m_lw_event.2.1 0 = .ok (.aload_n 2, 1) := by decide +kernel
theorem d_lw_event_1 : decode m_lw_event.2.1 1 = .ok (.iconst 0, 1) := by decide +kernel
theorem d_lw_event_2 : decode m_lw_event.2.1 2 = .ok (.aload_n 0, 1) := by decide +kernel
theorem d_lw_event_3 : decode m_lw_event.2.1 3 = .ok (.iload_n 1, 1) := by decide +kernel
theorem d_lw_event_4 : decode m_lw_event.2.1 4 = .ok (.invokevirtual 58, 3) := by decide +kernel
theorem d_lw_event_7 : decode m_lw_event.2.1 7 = .ok (.i2l, 1) := by decide +kernel
theorem d_lw_event_8 : decode m_lw_event.2.1 8 = .ok (.lastore, 1) := by decide +kernel
theorem d_lw_event_9 : decode m_lw_event.2.1 9 = .ok (.goto 12, 3) := by decide +kernel
theorem d_lw_event_12 : decode m_lw_event.2.1 12 = .ok (.astore_n 3, 1) := by decide +kernel
theorem d_lw_event_13 : decode m_lw_event.2.1 13 = .ok (.iconst 1, 1) := by decide +kernel
theorem d_lw_event_14 : decode m_lw_event.2.1 14 = .ok (.ireturn, 1) := by decide +kernel
theorem d_lw_event_15 : decode m_lw_event.2.1 15 = .ok (.astore_n 3, 1) := by decide +kernel
theorem d_lw_event_16 : decode m_lw_event.2.1 16 = .ok (.iconst 2, 1) := by decide +kernel
theorem d_lw_event_17 : decode m_lw_event.2.1 17 = .ok (.ireturn, 1) := by decide +kernel
theorem d_lw_event_18 : decode m_lw_event.2.1 18 = .ok (.astore_n 3, 1) := by decide +kernel
theorem d_lw_event_19 : decode m_lw_event.2.1 19 = .ok (.iconst 3, 1) := by decide +kernel
theorem d_lw_event_20 : decode m_lw_event.2.1 20 = .ok (.ireturn, 1) := by decide +kernel
theorem d_lw_event_21 : decode m_lw_event.2.1 21 = .ok (.iconst 0, 1) := by decide +kernel
theorem d_lw_event_22 : decode m_lw_event.2.1 22 = .ok (.ireturn, 1) := by decide +kernel
theorem d_lw_crash_0 : decode m_lw_crash.2.1 0 = .ok (.aload_n 2, 1) := by decide +kernel
theorem d_lw_crash_1 : decode m_lw_crash.2.1 1 = .ok (.iconst 0, 1) := by decide +kernel
theorem d_lw_crash_2 : decode m_lw_crash.2.1 2 = .ok (.aload_n 0, 1) := by decide +kernel
theorem d_lw_crash_3 : decode m_lw_crash.2.1 3 = .ok (.iload_n 1, 1) := by decide +kernel
theorem d_lw_crash_4 : decode m_lw_crash.2.1 4 = .ok (.invokevirtual 61, 3) := by decide +kernel
theorem d_lw_crash_7 : decode m_lw_crash.2.1 7 = .ok (.i2l, 1) := by decide +kernel
theorem d_lw_crash_8 : decode m_lw_crash.2.1 8 = .ok (.lastore, 1) := by decide +kernel
theorem d_lw_crash_9 : decode m_lw_crash.2.1 9 = .ok (.goto 9, 3) := by decide +kernel
theorem d_lw_crash_12 : decode m_lw_crash.2.1 12 = .ok (.astore_n 3, 1) := by decide +kernel
theorem d_lw_crash_13 : decode m_lw_crash.2.1 13 = .ok (.iconst 1, 1) := by decide +kernel
theorem d_lw_crash_14 : decode m_lw_crash.2.1 14 = .ok (.ireturn, 1) := by decide +kernel
theorem d_lw_crash_15 : decode m_lw_crash.2.1 15 = .ok (.astore_n 3, 1) := by decide +kernel
theorem d_lw_crash_16 : decode m_lw_crash.2.1 16 = .ok (.iconst 2, 1) := by decide +kernel
theorem d_lw_crash_17 : decode m_lw_crash.2.1 17 = .ok (.ireturn, 1) := by decide +kernel
theorem d_lw_crash_18 : decode m_lw_crash.2.1 18 = .ok (.iconst 0, 1) := by decide +kernel
theorem d_lw_crash_19 : decode m_lw_crash.2.1 19 = .ok (.ireturn, 1) := by decide +kernel
theorem d_lw_restart_0 : decode m_lw_restart.2.1 0 = .ok (.aload_n 2, 1) := by decide +kernel
theorem d_lw_restart_1 : decode m_lw_restart.2.1 1 = .ok (.iconst 0, 1) := by decide +kernel
theorem d_lw_restart_2 : decode m_lw_restart.2.1 2 = .ok (.aload_n 0, 1) := by decide +kernel
theorem d_lw_restart_3 : decode m_lw_restart.2.1 3 = .ok (.iload_n 1, 1) := by decide +kernel
theorem d_lw_restart_4 : decode m_lw_restart.2.1 4 = .ok (.invokevirtual 64, 3) := by decide +kernel
theorem d_lw_restart_7 : decode m_lw_restart.2.1 7 = .ok (.i2l, 1) := by decide +kernel
theorem d_lw_restart_8 : decode m_lw_restart.2.1 8 = .ok (.lastore, 1) := by decide +kernel
theorem d_lw_restart_9 : decode m_lw_restart.2.1 9 = .ok (.goto 9, 3) := by decide +kernel
theorem d_lw_restart_12 : decode m_lw_restart.2.1 12 = .ok (.astore_n 3, 1) := by decide +kernel
theorem d_lw_restart_13 : decode m_lw_restart.2.1 13 = .ok (.iconst 1, 1) := by decide +kernel
theorem d_lw_restart_14 : decode m_lw_restart.2.1 14 = .ok (.ireturn, 1) := by decide +kernel
theorem d_lw_restart_15 : decode m_lw_restart.2.1 15 = .ok (.astore_n 3, 1) := by decide +kernel
theorem d_lw_restart_16 : decode m_lw_restart.2.1 16 = .ok (.iconst 2, 1) := by decide +kernel
theorem d_lw_restart_17 : decode m_lw_restart.2.1 17 = .ok (.ireturn, 1) := by decide +kernel
theorem d_lw_restart_18 : decode m_lw_restart.2.1 18 = .ok (.iconst 0, 1) := by decide +kernel
theorem d_lw_restart_19 : decode m_lw_restart.2.1 19 = .ok (.ireturn, 1) := by decide +kernel
theorem d_lw_alone_0 : decode m_lw_alone.2.1 0 = .ok (.aload_n 3, 1) := by decide +kernel
theorem d_lw_alone_1 : decode m_lw_alone.2.1 1 = .ok (.iconst 0, 1) := by decide +kernel
theorem d_lw_alone_2 : decode m_lw_alone.2.1 2 = .ok (.aload_n 0, 1) := by decide +kernel
theorem d_lw_alone_3 : decode m_lw_alone.2.1 3 = .ok (.iload_n 1, 1) := by decide +kernel
theorem d_lw_alone_4 : decode m_lw_alone.2.1 4 = .ok (.iload_n 2, 1) := by decide +kernel
theorem d_lw_alone_5 : decode m_lw_alone.2.1 5 = .ok (.invokevirtual 67, 3) := by decide +kernel
theorem d_lw_alone_8 : decode m_lw_alone.2.1 8 = .ok (.i2l, 1) := by decide +kernel
theorem d_lw_alone_9 : decode m_lw_alone.2.1 9 = .ok (.lastore, 1) := by decide +kernel
theorem d_lw_alone_10 : decode m_lw_alone.2.1 10 = .ok (.goto 7, 3) := by decide +kernel
theorem d_lw_alone_13 : decode m_lw_alone.2.1 13 = .ok (.astore 4, 2) := by decide +kernel
theorem d_lw_alone_15 : decode m_lw_alone.2.1 15 = .ok (.iconst 1, 1) := by decide +kernel
theorem d_lw_alone_16 : decode m_lw_alone.2.1 16 = .ok (.ireturn, 1) := by decide +kernel
theorem d_lw_alone_17 : decode m_lw_alone.2.1 17 = .ok (.iconst 0, 1) := by decide +kernel
theorem d_lw_alone_18 : decode m_lw_alone.2.1 18 = .ok (.ireturn, 1) := by decide +kernel
theorem d_lw_elect_0 : decode m_lw_elect.2.1 0 = .ok (.aload_n 1, 1) := by decide +kernel
theorem d_lw_elect_1 : decode m_lw_elect.2.1 1 = .ok (.iconst 0, 1) := by decide +kernel
theorem d_lw_elect_2 : decode m_lw_elect.2.1 2 = .ok (.aload_n 0, 1) := by decide +kernel
theorem d_lw_elect_3 : decode m_lw_elect.2.1 3 = .ok (.invokevirtual 71, 3) := by decide +kernel
theorem d_lw_elect_6 : decode m_lw_elect.2.1 6 = .ok (.i2l, 1) := by decide +kernel
theorem d_lw_elect_7 : decode m_lw_elect.2.1 7 = .ok (.lastore, 1) := by decide +kernel
theorem d_lw_elect_8 : decode m_lw_elect.2.1 8 = .ok (.goto 6, 3) := by decide +kernel
theorem d_lw_elect_11 : decode m_lw_elect.2.1 11 = .ok (.astore_n 2, 1) := by decide +kernel
theorem d_lw_elect_12 : decode m_lw_elect.2.1 12 = .ok (.iconst 1, 1) := by decide +kernel
theorem d_lw_elect_13 : decode m_lw_elect.2.1 13 = .ok (.ireturn, 1) := by decide +kernel
theorem d_lw_elect_14 : decode m_lw_elect.2.1 14 = .ok (.iconst 0, 1) := by decide +kernel
theorem d_lw_elect_15 : decode m_lw_elect.2.1 15 = .ok (.ireturn, 1) := by decide +kernel
theorem d_lw_tick_0 : decode m_lw_tick.2.1 0 = .ok (.aload_n 2, 1) := by decide +kernel
theorem d_lw_tick_1 : decode m_lw_tick.2.1 1 = .ok (.iconst 0, 1) := by decide +kernel
theorem d_lw_tick_2 : decode m_lw_tick.2.1 2 = .ok (.aload_n 0, 1) := by decide +kernel
theorem d_lw_tick_3 : decode m_lw_tick.2.1 3 = .ok (.iload_n 1, 1) := by decide +kernel
theorem d_lw_tick_4 : decode m_lw_tick.2.1 4 = .ok (.invokevirtual 75, 3) := by decide +kernel
theorem d_lw_tick_7 : decode m_lw_tick.2.1 7 = .ok (.i2l, 1) := by decide +kernel
theorem d_lw_tick_8 : decode m_lw_tick.2.1 8 = .ok (.lastore, 1) := by decide +kernel
theorem d_lw_tick_9 : decode m_lw_tick.2.1 9 = .ok (.goto 6, 3) := by decide +kernel
theorem d_lw_tick_12 : decode m_lw_tick.2.1 12 = .ok (.astore_n 3, 1) := by decide +kernel
theorem d_lw_tick_13 : decode m_lw_tick.2.1 13 = .ok (.iconst 1, 1) := by decide +kernel
theorem d_lw_tick_14 : decode m_lw_tick.2.1 14 = .ok (.ireturn, 1) := by decide +kernel
theorem d_lw_tick_15 : decode m_lw_tick.2.1 15 = .ok (.iconst 0, 1) := by decide +kernel
theorem d_lw_tick_16 : decode m_lw_tick.2.1 16 = .ok (.ireturn, 1) := by decide +kernel
theorem d_lw_state_0 : decode m_lw_state.2.1 0 = .ok (.aload_n 3, 1) := by decide +kernel
theorem d_lw_state_1 : decode m_lw_state.2.1 1 = .ok (.iconst 0, 1) := by decide +kernel
theorem d_lw_state_2 : decode m_lw_state.2.1 2 = .ok (.aload_n 0, 1) := by decide +kernel
theorem d_lw_state_3 : decode m_lw_state.2.1 3 = .ok (.iload_n 1, 1) := by decide +kernel
theorem d_lw_state_4 : decode m_lw_state.2.1 4 = .ok (.iload_n 2, 1) := by decide +kernel
theorem d_lw_state_5 : decode m_lw_state.2.1 5 = .ok (.invokevirtual 78, 3) := by decide +kernel
theorem d_lw_state_8 : decode m_lw_state.2.1 8 = .ok (.i2l, 1) := by decide +kernel
theorem d_lw_state_9 : decode m_lw_state.2.1 9 = .ok (.lastore, 1) := by decide +kernel
theorem d_lw_state_10 : decode m_lw_state.2.1 10 = .ok (.goto 7, 3) := by decide +kernel
theorem d_lw_state_13 : decode m_lw_state.2.1 13 = .ok (.astore 4, 2) := by decide +kernel
theorem d_lw_state_15 : decode m_lw_state.2.1 15 = .ok (.iconst 1, 1) := by decide +kernel
theorem d_lw_state_16 : decode m_lw_state.2.1 16 = .ok (.ireturn, 1) := by decide +kernel
theorem d_lw_state_17 : decode m_lw_state.2.1 17 = .ok (.iconst 0, 1) := by decide +kernel
theorem d_lw_state_18 : decode m_lw_state.2.1 18 = .ok (.ireturn, 1) := by decide +kernel
theorem d_lw_count_0 : decode m_lw_count.2.1 0 = .ok (.aload_n 2, 1) := by decide +kernel
theorem d_lw_count_1 : decode m_lw_count.2.1 1 = .ok (.iconst 0, 1) := by decide +kernel
theorem d_lw_count_2 : decode m_lw_count.2.1 2 = .ok (.aload_n 0, 1) := by decide +kernel
theorem d_lw_count_3 : decode m_lw_count.2.1 3 = .ok (.iload_n 1, 1) := by decide +kernel
theorem d_lw_count_4 : decode m_lw_count.2.1 4 = .ok (.invokevirtual 81, 3) := by decide +kernel
theorem d_lw_count_7 : decode m_lw_count.2.1 7 = .ok (.i2l, 1) := by decide +kernel
theorem d_lw_count_8 : decode m_lw_count.2.1 8 = .ok (.lastore, 1) := by decide +kernel
theorem d_lw_count_9 : decode m_lw_count.2.1 9 = .ok (.goto 6, 3) := by decide +kernel
theorem d_lw_count_12 : decode m_lw_count.2.1 12 = .ok (.astore_n 3, 1) := by decide +kernel
theorem d_lw_count_13 : decode m_lw_count.2.1 13 = .ok (.iconst 1, 1) := by decide +kernel
theorem d_lw_count_14 : decode m_lw_count.2.1 14 = .ok (.ireturn, 1) := by decide +kernel
theorem d_lw_count_15 : decode m_lw_count.2.1 15 = .ok (.iconst 0, 1) := by decide +kernel
theorem d_lw_count_16 : decode m_lw_count.2.1 16 = .ok (.ireturn, 1) := by decide +kernel
end
section
/-! Rows over naturals and booleans: an int that is nI k, bI b -/
def bI (b : Bool) : Int32 := if b then 1 else 0
theorem bI_nar (b : Bool) : narrow .boolean (.int (bI b)) = .int (bI b) := by cases b <;> rfl
theorem bI_eq0 {b : Bool} : bI b = 0 ↔ b = false := by cases b <;> decide
theorem q_up_s (h : q_H) (k : Nat) (e : q_E) : q_up h k e k = some e := if_pos rfl
theorem q_up_n {h : q_H} {k j : Nat} (e : q_E) (hj : j ≠ k) : q_up h k e j = h j := if_neg hj
theorem nI_ltz {a b : Nat} (ha : a < 2 ^ 31) (hb : b < 2 ^ 31) : ¬ nI a < nI b ↔ b ≤ a := by rw [nI_ltI ha hb]; omega
theorem nI_lez {a b : Nat} (ha : a < 2 ^ 31) (hb : b < 2 ^ 31) : ¬ nI a ≤ nI b ↔ b < a := by rw [nI_leI ha hb]; omega
theorem nI_ge0 {a : Nat} (ha : a < 2 ^ 31) : (0 : Int32) ≤ nI a := nI_pos' ha
theorem nI_eq0 {a : Nat} (ha : a < 2 ^ 31) : nI a = 0 ↔ a = 0 := by
  have := nI_eq (a := a) (b := 0) ha (by decide)
  exact this
theorem nI_le0 {a : Nat} (ha : a < 2 ^ 31) : nI a ≤ 0 ↔ a = 0 := by
  have := nI_leI (a := a) (b := 0) ha (by decide)
  exact this.trans (by omega)
section QB
variable {l : Launch} {G : q_G} {μ : q_M} {fr lo cc ss pc N : Nat} {lv : List (Option Value)} {st : List Value} {h : q_H} {Q : q_Q}
theorem e_iaddN {a b : Nat} (d : decode μ.2.1 pc = .ok (.iadd, 1)) (k : q_Ev l G μ fr lo cc ss (pc + 1) lv (.int (nI (a + b)) :: st) h N Q) : q_Ev l G μ fr lo cc ss pc lv (.int (nI b) :: .int (nI a) :: st) h N Q := e_iadd d (by rw [nI_add]; exact k)
theorem e_isubN {a b : Nat} (d : decode μ.2.1 pc = .ok (.isub, 1)) (hb : b ≤ a) (k : q_Ev l G μ fr lo cc ss (pc + 1) lv (.int (nI (a - b)) :: st) h N Q) : q_Ev l G μ fr lo cc ss pc lv (.int (nI b) :: .int (nI a) :: st) h N Q := e_isub d (by rw [pk_sub hb]; exact k)
theorem e_imulN {a b : Nat} (d : decode μ.2.1 pc = .ok (.imul, 1)) (k : q_Ev l G μ fr lo cc ss (pc + 1) lv (.int (nI (a * b)) :: st) h N Q) : q_Ev l G μ fr lo cc ss pc lv (.int (nI b) :: .int (nI a) :: st) h N Q := e_imul d (by rw [pk_mul]; exact k)
theorem e_idivN {a b : Nat} (d : decode μ.2.1 pc = .ok (.idiv, 1)) (ha : a < 2 ^ 31) (h0 : 0 < b) (hb : b < 2 ^ 31) (k : q_Ev l G μ fr lo cc ss (pc + 1) lv (.int (nI (a / b)) :: st) h N Q) : q_Ev l G μ fr lo cc ss pc lv (.int (nI b) :: .int (nI a) :: st) h N Q := e_idiv d (nI_ne0 h0 hb) (by rw [pk_div ha h0 hb]; exact k)
theorem e_iremN {a b : Nat} (d : decode μ.2.1 pc = .ok (.irem, 1)) (ha : a < 2 ^ 31) (h0 : 0 < b) (hb : b < 2 ^ 31) (k : q_Ev l G μ fr lo cc ss (pc + 1) lv (.int (nI (a % b)) :: st) h N Q) : q_Ev l G μ fr lo cc ss pc lv (.int (nI b) :: .int (nI a) :: st) h N Q := e_irem d (nI_ne0 h0 hb) (by rw [pk_rem ha h0 hb]; exact k)
theorem e_iincN {i : Nat} {n : Int} {a b : Nat} (d : decode μ.2.1 pc = .ok (.iinc i n, 3)) (hx : lv[i]? = some (some (.int (nI a)))) (hv : Int32.ofInt n = nI b) (hi : i < μ.2.2.1) (k : q_Ev l G μ fr lo cc ss (pc + 3) (lv.set i (some (.int (nI (a + b))))) st h N Q) : q_Ev l G μ fr lo cc ss pc lv st h N Q := e_iinc d hx (by rw [hv, nI_add]) hi k
theorem vp_inN {k n : Nat} (hk : k < n) (hn : n < 2 ^ 31) : vp_in (nI k) n := vp_in_nI hk hn
theorem e_ialdN {a n j : Nat} {f : Nat → Int32} (d : decode μ.2.1 pc = .ok (.iaload, 1)) (ha : h a = some (q_ai n f)) (hj : j < n) (hn : n < 2 ^ 31) (kk : q_Ev l G μ fr lo cc ss (pc + 1) lv (.int (f j) :: st) h N Q) : q_Ev l G μ fr lo cc ss pc lv (.int (nI j) :: .ref a :: st) h N Q := e_iald d ha (vp_inN hj hn) (by rw [nI_clamp (Nat.lt_trans hj hn)]; exact kk)
theorem e_zaldN {a n j : Nat} {f : Nat → Bool} (d : decode μ.2.1 pc = .ok (.baload, 1)) (ha : h a = some (q_az n (fun i => bI (f i)))) (hj : j < n) (hn : n < 2 ^ 31) (kk : q_Ev l G μ fr lo cc ss (pc + 1) lv (.int (bI (f j)) :: st) h N Q) : q_Ev l G μ fr lo cc ss pc lv (.int (nI j) :: .ref a :: st) h N Q := e_zald d ha (vp_inN hj hn) (by rw [nI_clamp (Nat.lt_trans hj hn)]; exact kk)
theorem e_aaldN {a t n j x : Nat} {C0 : String} {f : Nat → Option Nat} (d : decode μ.2.1 pc = .ok (.aaload, 1)) (ha : h a = some (q_ar t n f)) (ht : ∀ G : q_G, (q_ty G)[t]? = some (G.2.1 t, .object C0)) (hj : j < n) (hn : n < 2 ^ 31) (hx : f j = some x) (kk : q_Ev l G μ fr lo cc ss (pc + 1) lv (.ref x :: st) h N Q) : q_Ev l G μ fr lo cc ss pc lv (.int (nI j) :: .ref a :: st) h N Q := e_aald d ha ht (vp_inN hj hn) (by rw [nI_clamp (Nat.lt_trans hj hn)]; exact hx) kk
theorem e_iastN {a n j : Nat} {f : Nat → Int32} {x : Int32} (d : decode μ.2.1 pc = .ok (.iastore, 1)) (ha : h a = some (q_ai n f)) (hj : j < n) (hn : n < 2 ^ 31) (kk : q_Ev l G μ fr lo cc ss (pc + 1) lv st (q_up h a (q_ai n (upd f j x))) N Q) : q_Ev l G μ fr lo cc ss pc lv (.int x :: .int (nI j) :: .ref a :: st) h N Q := e_iast d ha (vp_inN hj hn) (by rw [nI_clamp (Nat.lt_trans hj hn)]; exact kk)
theorem bI_upd (f : Nat → Bool) (j : Nat) (b : Bool) : upd (fun i => bI (f i)) j (bI b) = fun i => bI (va_up f j b i) := by
  funext i
  by_cases c : i = j
  · subst c; simp [upd, va_up]
  · simp [upd, va_up, c]
theorem e_zastN {a n j : Nat} {f : Nat → Bool} {b : Bool} (d : decode μ.2.1 pc = .ok (.bastore, 1)) (ha : h a = some (q_az n (fun i => bI (f i)))) (hj : j < n) (hn : n < 2 ^ 31) (kk : q_Ev l G μ fr lo cc ss (pc + 1) lv st (q_up h a (q_az n (fun i => bI (va_up f j b i)))) N Q) : q_Ev l G μ fr lo cc ss pc lv (.int (bI b) :: .int (nI j) :: .ref a :: st) h N Q := e_zast d ha (vp_inN hj hn) (bI_nar b) (by rw [nI_clamp (Nat.lt_trans hj hn), bI_upd]; exact kk)
theorem e_aastN {a t n j v ci : Nat} {vs : List Value} {r : vw_C} {f : Nat → Option Nat} (d : decode μ.2.1 pc = .ok (.aastore, 1)) (ha : h a = some (q_ar t n f)) (hv : h v = some (.inr (ci, vs))) (hc : q_cl[ci]? = some r) (ht : ∀ G : q_G, (q_ty G)[t]? = some (G.2.1 t, .object r.1)) (hj : j < n) (hn : n < 2 ^ 31) (kk : q_Ev l G μ fr lo cc ss (pc + 1) lv st (q_up h a (q_ar t n (va_up f j (some v)))) N Q) : q_Ev l G μ fr lo cc ss pc lv (.ref v :: .int (nI j) :: .ref a :: st) h N Q := e_aast d ha hv hc ht (vp_inN hj hn) (by rw [nI_clamp (Nat.lt_trans hj hn)]; exact kk)
theorem e_icmp_eqN {a b : Nat} {off : Int} {tgt : Nat} (d : decode μ.2.1 pc = .ok (.if_icmp .eq off, 3)) (ht : (pc : Int) + off = (tgt : Int)) (ha : a < 2 ^ 31) (hb : b < 2 ^ 31) (kt : a = b → q_Ev l G μ fr lo cc ss tgt lv st h N Q) (kf : ¬ a = b → q_Ev l G μ fr lo cc ss (pc + 3) lv st h N Q) : q_Ev l G μ fr lo cc ss pc lv (.int (nI b) :: .int (nI a) :: st) h N Q := e_icmp_eq d ht (fun z => kt ((nI_eq ha hb).mp z)) (fun z => kf (fun q => z ((nI_eq ha hb).mpr q)))
theorem e_icmp_neN {a b : Nat} {off : Int} {tgt : Nat} (d : decode μ.2.1 pc = .ok (.if_icmp .ne off, 3)) (ht : (pc : Int) + off = (tgt : Int)) (ha : a < 2 ^ 31) (hb : b < 2 ^ 31) (kt : ¬ a = b → q_Ev l G μ fr lo cc ss tgt lv st h N Q) (kf : a = b → q_Ev l G μ fr lo cc ss (pc + 3) lv st h N Q) : q_Ev l G μ fr lo cc ss pc lv (.int (nI b) :: .int (nI a) :: st) h N Q := e_icmp_ne d ht (fun z => kt (fun q => z ((nI_eq ha hb).mpr q))) (fun z => kf ((nI_eq ha hb).mp z))
theorem e_icmp_ltN {a b : Nat} {off : Int} {tgt : Nat} (d : decode μ.2.1 pc = .ok (.if_icmp .lt off, 3)) (ht : (pc : Int) + off = (tgt : Int)) (ha : a < 2 ^ 31) (hb : b < 2 ^ 31) (kt : a < b → q_Ev l G μ fr lo cc ss tgt lv st h N Q) (kf : b ≤ a → q_Ev l G μ fr lo cc ss (pc + 3) lv st h N Q) : q_Ev l G μ fr lo cc ss pc lv (.int (nI b) :: .int (nI a) :: st) h N Q := e_icmp_lt d ht (fun z => kt ((nI_ltI ha hb).mp z)) (fun z => kf ((nI_ltz ha hb).mp z))
theorem e_icmp_geN {a b : Nat} {off : Int} {tgt : Nat} (d : decode μ.2.1 pc = .ok (.if_icmp .ge off, 3)) (ht : (pc : Int) + off = (tgt : Int)) (ha : a < 2 ^ 31) (hb : b < 2 ^ 31) (kt : b ≤ a → q_Ev l G μ fr lo cc ss tgt lv st h N Q) (kf : a < b → q_Ev l G μ fr lo cc ss (pc + 3) lv st h N Q) : q_Ev l G μ fr lo cc ss pc lv (.int (nI b) :: .int (nI a) :: st) h N Q := e_icmp_ge d ht (fun z => kt ((nI_leI hb ha).mp z)) (fun z => kf ((nI_lez hb ha).mp z))
theorem e_icmp_gtN {a b : Nat} {off : Int} {tgt : Nat} (d : decode μ.2.1 pc = .ok (.if_icmp .gt off, 3)) (ht : (pc : Int) + off = (tgt : Int)) (ha : a < 2 ^ 31) (hb : b < 2 ^ 31) (kt : b < a → q_Ev l G μ fr lo cc ss tgt lv st h N Q) (kf : a ≤ b → q_Ev l G μ fr lo cc ss (pc + 3) lv st h N Q) : q_Ev l G μ fr lo cc ss pc lv (.int (nI b) :: .int (nI a) :: st) h N Q := e_icmp_gt d ht (fun z => kt ((nI_ltI hb ha).mp z)) (fun z => kf ((nI_ltz hb ha).mp z))
theorem e_icmp_leN {a b : Nat} {off : Int} {tgt : Nat} (d : decode μ.2.1 pc = .ok (.if_icmp .le off, 3)) (ht : (pc : Int) + off = (tgt : Int)) (ha : a < 2 ^ 31) (hb : b < 2 ^ 31) (kt : a ≤ b → q_Ev l G μ fr lo cc ss tgt lv st h N Q) (kf : b < a → q_Ev l G μ fr lo cc ss (pc + 3) lv st h N Q) : q_Ev l G μ fr lo cc ss pc lv (.int (nI b) :: .int (nI a) :: st) h N Q := e_icmp_le d ht (fun z => kt ((nI_leI ha hb).mp z)) (fun z => kf ((nI_lez ha hb).mp z))
theorem e_if_eqN {a : Nat} {off : Int} {tgt : Nat} (d : decode μ.2.1 pc = .ok (.ifCond .eq off, 3)) (ht : (pc : Int) + off = (tgt : Int)) (ha : a < 2 ^ 31) (kt : a = 0 → q_Ev l G μ fr lo cc ss tgt lv st h N Q) (kf : ¬ a = 0 → q_Ev l G μ fr lo cc ss (pc + 3) lv st h N Q) : q_Ev l G μ fr lo cc ss pc lv (.int (nI a) :: st) h N Q := e_if_eq d ht (fun z => kt ((nI_eq0 ha).mp z)) (fun z => kf (fun q => z ((nI_eq0 ha).mpr q)))
theorem e_if_neN {a : Nat} {off : Int} {tgt : Nat} (d : decode μ.2.1 pc = .ok (.ifCond .ne off, 3)) (ht : (pc : Int) + off = (tgt : Int)) (ha : a < 2 ^ 31) (kt : ¬ a = 0 → q_Ev l G μ fr lo cc ss tgt lv st h N Q) (kf : a = 0 → q_Ev l G μ fr lo cc ss (pc + 3) lv st h N Q) : q_Ev l G μ fr lo cc ss pc lv (.int (nI a) :: st) h N Q := e_if_ne d ht (fun z => kt (fun q => z ((nI_eq0 ha).mpr q))) (fun z => kf ((nI_eq0 ha).mp z))
theorem e_if_leN {a : Nat} {off : Int} {tgt : Nat} (d : decode μ.2.1 pc = .ok (.ifCond .le off, 3)) (ht : (pc : Int) + off = (tgt : Int)) (ha : a < 2 ^ 31) (kt : a = 0 → q_Ev l G μ fr lo cc ss tgt lv st h N Q) (kf : ¬ a = 0 → q_Ev l G μ fr lo cc ss (pc + 3) lv st h N Q) : q_Ev l G μ fr lo cc ss pc lv (.int (nI a) :: st) h N Q := e_if_le d ht (fun z => kt ((nI_le0 ha).mp z)) (fun z => kf (fun q => z ((nI_le0 ha).mpr q)))
theorem e_if_ltN {a : Nat} {off : Int} (d : decode μ.2.1 pc = .ok (.ifCond .lt off, 3)) {tgt : Nat} (ht : (pc : Int) + off = (tgt : Int)) (ha : a < 2 ^ 31) (kf : q_Ev l G μ fr lo cc ss (pc + 3) lv st h N Q) : q_Ev l G μ fr lo cc ss pc lv (.int (nI a) :: st) h N Q := e_if_lt d ht (fun z => absurd z (nI_pos ha)) (fun _ => kf)
theorem e_ifB_eq {b : Bool} {off : Int} {tgt : Nat} (d : decode μ.2.1 pc = .ok (.ifCond .eq off, 3)) (ht : (pc : Int) + off = (tgt : Int)) (kt : b = false → q_Ev l G μ fr lo cc ss tgt lv st h N Q) (kf : b = true → q_Ev l G μ fr lo cc ss (pc + 3) lv st h N Q) : q_Ev l G μ fr lo cc ss pc lv (.int (bI b) :: st) h N Q := e_if_eq d ht (fun z => kt (bI_eq0.mp z)) (fun z => kf (by cases b <;> first | rfl | exact absurd rfl z))
theorem e_ifB_ne {b : Bool} {off : Int} {tgt : Nat} (d : decode μ.2.1 pc = .ok (.ifCond .ne off, 3)) (ht : (pc : Int) + off = (tgt : Int)) (kt : b = true → q_Ev l G μ fr lo cc ss tgt lv st h N Q) (kf : b = false → q_Ev l G μ fr lo cc ss (pc + 3) lv st h N Q) : q_Ev l G μ fr lo cc ss pc lv (.int (bI b) :: st) h N Q := e_if_ne d ht (fun z => kt (by cases b <;> first | rfl | exact absurd rfl z)) (fun z => kf (bI_eq0.mp z))
theorem e_retB {b : Bool} (d : decode μ.2.1 pc = .ok (.ireturn, 1)) (hr : μ.2.2.2.1 = some .boolean) (hq : Q (.inl (some (.int (bI b)))) h N) : q_Ev l G μ fr lo cc ss pc lv [.int (bI b)] h N Q := e_zret d hr (bI_nar b) hq
end QB
end
section
/-! LEAVES: what small methods answer and do -/
/-- nothing changes, this is the answer -/
def q_Id (v : Option Value) (h : q_H) (N : Nat) : q_Q := fun o h' N' => o = .inl v ∧ h' = h ∧ N' = N
/-- the heap becomes this one -/
def q_To (v : Option Value) (h2 : q_H) (N : Nat) : q_Q := fun o h' N' => o = .inl v ∧ h' = h2 ∧ N' = N
/-- a tree at t: its arrays lie behind it -/
def tr_At (h : q_H) (t : Nat) (dt vr ow nx : Nat → Int32) : Prop := h t = some (.inr (3, [.ref (t + 1), .ref (t + 2), .ref (t + 3), .ref (t + 4)])) ∧ h (t + 1) = some (q_ai 259 dt) ∧ h (t + 2) = some (q_ai 259 vr) ∧ h (t + 3) = some (q_ai 259 ow) ∧ h (t + 4) = some (q_ai 43 nx)
theorem q_up_up (h : q_H) (k : Nat) (e e' : q_E) : q_up (q_up h k e) k e' = q_up h k e' := by
  funext j
  by_cases c : j = k
  · simp [q_up, c]
  · simp [q_up, c]
theorem q_up_id {h : q_H} {k : Nat} {e : q_E} (hk : h k = some e) : q_up h k e = h := by
  funext j
  by_cases c : j = k
  · subst c; simp [q_up, hk]
  · simp [q_up, c]
def fillN (f : Nat → Int32) (k : Nat) (v : Int32) : Nat → Int32 := fun i => if i < k then v else f i
theorem fillN_s (f : Nat → Int32) (k : Nat) (v : Int32) : upd (fillN f k v) k v = fillN f (k + 1) v := by
  funext i
  by_cases c : i = k
  · subst c; simp [upd, fillN]
  · have : i < k + 1 ↔ i < k := by omega
    simp [upd, fillN, c, this]
theorem fillN_0 (f : Nat → Int32) (v : Int32) : fillN f 0 v = f := by funext i; simp [fillN]
set_option maxHeartbeats 4000000 in
set_option maxRecDepth 100000 in
theorem lp_ar_fill {l : Launch} {G : q_G} {h : q_H} {N a n : Nat} {f : Nat → Int32} {v : Int32} (hn : n < 2 ^ 31) : ∀ (g k : Nat), n < k + g → k ≤ n → q_Ev l G m_ar_fill 0 0 0 0 5 [some (.ref a), some (.int v), some (.int (nI k)), some (.int (nI n))] [] (q_up h a (q_ai n (fillN f k v))) N (q_To none (q_up h a (q_ai n (fillN f n v))) N) := by
  intro g
  induction g with
  | zero => intro k hg hk; omega
  | succ g ih =>
    intro k hg hk
    refine e_iload_n (pc := 5) d_ar_fill_5 rfl ?_
    refine e_iload_n (pc := 6) d_ar_fill_6 rfl ?_
    refine e_icmp_geN (pc := 7) (tgt := 20) d_ar_fill_7 (by decide) (by omega) (by omega) (fun c => ?_) (fun c => ?_)
    · have hkn : k = n := by omega
      subst hkn
      exact e_vret (pc := 20) d_ar_fill_20 rfl (⟨rfl, rfl, rfl⟩)
    · refine e_aload_n (pc := 10) d_ar_fill_10 rfl ?_
      refine e_iload_n (pc := 11) d_ar_fill_11 rfl ?_
      refine e_iload_n (pc := 12) d_ar_fill_12 rfl ?_
      refine e_iastN (pc := 13) d_ar_fill_13 (q_up_s _ _ _) c hn ?_
      rw [fillN_s, q_up_up]
      refine e_iincN (pc := 14) d_ar_fill_14 (a := k) (b := 1) rfl rfl (by decide) ?_
      refine e_goto (pc := 17) (tgt := 5) d_ar_fill_17 (by decide) ?_
      exact ih (k + 1) (by omega) (by omega)
set_option maxHeartbeats 4000000 in
set_option maxRecDepth 100000 in
theorem c_ar_fill {l : Launch} {G : q_G} (htr : l.stackTraces = false) {h : q_H} {N : Nat} {a n : Nat} {f : Nat → Int32} {v : Int32} (hn : n < 2 ^ 31) (ha : h a = some (q_ai n f)) : q_Met l G m_ar_fill 0 0 0 0 [.ref (a), .int (v)] h N (q_To none (q_up h a (q_ai n (fillN f n v))) N) := by
  refine q_Met.mk htr (by decide +kernel) rfl (List.forall_mem_cons.mpr ⟨rfl, List.forall_mem_cons.mpr ⟨rfl, fun _ h => nomatch h⟩⟩) (Nat.le_of_ble_eq_true rfl) ?_
  refine e_iconst (pc := 0) d_ar_fill_0 (v := (nI (0))) rfl ?_
  refine e_istore_n (pc := 1) d_ar_fill_1 (by decide) ?_
  refine e_aload_n (pc := 2) d_ar_fill_2 rfl ?_
  refine e_alen (pc := 3) d_ar_fill_3 ha (fun _ => rfl) ?_
  refine e_istore_n (pc := 4) d_ar_fill_4 (by decide) ?_
  have := lp_ar_fill (l := l) (G := G) (h := h) (N := N) (a := a) (f := f) (v := v) hn (n + 1) 0 (by omega) (by omega)
  rw [fillN_0, q_up_id ha] at this
  exact this
set_option maxHeartbeats 4000000 in
set_option maxRecDepth 100000 in
theorem c_zs_parentOf {l : Launch} {G : q_G} (htr : l.stackTraces = false) {h : q_H} {N : Nat} {p : Nat} (h1 : 1 ≤ p) (h2 : p < 2 ^ 31) : q_Met l G m_zs_parentOf 0 0 0 0 [.int (nI (p))] h N (q_Id (some (.int (nI ((p - 1) / 6)))) h N) := by
  refine q_Met.mk htr (by decide +kernel) rfl (List.forall_mem_cons.mpr ⟨rfl, fun _ h => nomatch h⟩) (Nat.le_of_ble_eq_true rfl) ?_
  refine e_iload_n (pc := 0) d_zs_parentOf_0 rfl ?_
  refine e_iconst (pc := 1) d_zs_parentOf_1 (v := (nI (1))) rfl ?_
  refine e_isubN (pc := 2) d_zs_parentOf_2 (by omega) ?_
  refine e_bipush (pc := 3) d_zs_parentOf_3 (v := (nI (6))) rfl ?_
  refine e_idivN (pc := 5) d_zs_parentOf_5 (by omega) (by decide) (by decide) ?_
  exact e_iret (pc := 6) d_zs_parentOf_6 rfl (⟨rfl, rfl, rfl⟩)
set_option maxHeartbeats 4000000 in
set_option maxRecDepth 100000 in
theorem c_zs_childOf {l : Launch} {G : q_G} (htr : l.stackTraces = false) {h : q_H} {N : Nat} {p k : Nat} : q_Met l G m_zs_childOf 0 0 0 0 [.int (nI (p)), .int (nI (k))] h N (q_Id (some (.int (nI (6 * p + k + 1)))) h N) := by
  refine q_Met.mk htr (by decide +kernel) rfl (List.forall_mem_cons.mpr ⟨rfl, List.forall_mem_cons.mpr ⟨rfl, fun _ h => nomatch h⟩⟩) (Nat.le_of_ble_eq_true rfl) ?_
  refine e_bipush (pc := 0) d_zs_childOf_0 (v := (nI (6))) rfl ?_
  refine e_iload_n (pc := 2) d_zs_childOf_2 rfl ?_
  refine e_imulN (pc := 3) d_zs_childOf_3  ?_
  refine e_iload_n (pc := 4) d_zs_childOf_4 rfl ?_
  refine e_iaddN (pc := 5) d_zs_childOf_5  ?_
  refine e_iconst (pc := 6) d_zs_childOf_6 (v := (nI (1))) rfl ?_
  refine e_iaddN (pc := 7) d_zs_childOf_7  ?_
  exact e_iret (pc := 8) d_zs_childOf_8 rfl (⟨rfl, rfl, rfl⟩)
set_option maxHeartbeats 4000000 in
set_option maxRecDepth 100000 in
theorem c_tr_has {l : Launch} {G : q_G} (htr : l.stackTraces = false) {h : q_H} {N : Nat} {t : Nat} {dt vr ow nx : Nat → Int32} (hT : tr_At h t dt vr ow nx) {p : Nat} (hp : p < 259) : q_Met l G m_tr_has 0 0 0 0 [.ref (t), .int (nI (p))] h N (q_Id (some (.int (bI (decide (vr p ≠ -1))))) h N) := by
  refine q_Met.mk htr (by decide +kernel) rfl (List.forall_mem_cons.mpr ⟨rfl, List.forall_mem_cons.mpr ⟨rfl, fun _ h => nomatch h⟩⟩) (Nat.le_of_ble_eq_true rfl) ?_
  refine e_aload_n (pc := 0) d_tr_has_0 rfl ?_
  refine e_get (pc := 1) d_tr_has_1 fl_tr_15 hT.1 rfl ?_
  refine e_iload_n (pc := 4) d_tr_has_4 rfl ?_
  refine e_ialdN (pc := 5) d_tr_has_5 hT.2.2.1 (by omega) (by decide) ?_
  refine e_iconst (pc := 6) d_tr_has_6 (v := (-1)) rfl ?_
  refine e_icmp_eq (pc := 7) (tgt := 14) d_tr_has_7 (by decide) (fun c => ?_) (fun c => ?_)
  · refine e_iconst (pc := 14) d_tr_has_14 (v := (bI (false))) rfl ?_
    exact e_retB (pc := 15) d_tr_has_15 rfl (⟨by rw [c]; rfl, rfl, rfl⟩)
  · refine e_iconst (pc := 10) d_tr_has_10 (v := (bI (true))) rfl ?_
    refine e_goto (pc := 11) (tgt := 15) d_tr_has_11 (by decide) ?_
    exact e_retB (pc := 15) d_tr_has_15 rfl (⟨by rw [decide_eq_true c], rfl, rfl⟩)
set_option maxHeartbeats 4000000 in
set_option maxRecDepth 100000 in
theorem c_tr_dropNode {l : Launch} {G : q_G} (htr : l.stackTraces = false) {h : q_H} {N : Nat} {t : Nat} {dt vr ow nx : Nat → Int32} (hT : tr_At h t dt vr ow nx) {p : Nat} (hp : p < 259) : q_Met l G m_tr_dropNode 0 0 0 0 [.ref (t), .int (nI (p))] h N (q_To none (q_up (q_up h (t + 2) (q_ai 259 (upd vr p (-1)))) (t + 3) (q_ai 259 (upd ow p (-1)))) N) := by
  refine q_Met.mk htr (by decide +kernel) rfl (List.forall_mem_cons.mpr ⟨rfl, List.forall_mem_cons.mpr ⟨rfl, fun _ h => nomatch h⟩⟩) (Nat.le_of_ble_eq_true rfl) ?_
  refine e_aload_n (pc := 0) d_tr_dropNode_0 rfl ?_
  refine e_get (pc := 1) d_tr_dropNode_1 fl_tr_15 hT.1 rfl ?_
  refine e_iload_n (pc := 4) d_tr_dropNode_4 rfl ?_
  refine e_iconst (pc := 5) d_tr_dropNode_5 (v := (-1)) rfl ?_
  refine e_iastN (pc := 6) d_tr_dropNode_6 hT.2.2.1 (by omega) (by decide) ?_
  obtain ⟨h1, eh2⟩ : ∃ x, x = q_up h (t + 2) (q_ai 259 (upd (vr) (p) ((-1)))) := ⟨_, rfl⟩
  rw [← eh2]
  have hc3 : h1 (t) = some (.inr (3, [.ref (t + 1), .ref (t + 2), .ref (t + 3), .ref (t + 4)])) := by rw [eh2, q_up_n _ (show (t : Nat) ≠ t + 2 by omega)]; exact hT.1
  have hc4 : h1 (t + 1) = some (q_ai 259 (dt)) := by rw [eh2, q_up_n _ (show (t + 1 : Nat) ≠ t + 2 by omega)]; exact hT.2.1
  have hc5 : h1 (t + 2) = some (q_ai 259 (upd (vr) (p) ((-1)))) := by rw [eh2]; exact q_up_s _ _ _
  have hc6 : h1 (t + 3) = some (q_ai 259 (ow)) := by rw [eh2, q_up_n _ (show (t + 3 : Nat) ≠ t + 2 by omega)]; exact hT.2.2.2.1
  have hc7 : h1 (t + 4) = some (q_ai 43 (nx)) := by rw [eh2, q_up_n _ (show (t + 4 : Nat) ≠ t + 2 by omega)]; exact hT.2.2.2.2
  refine e_aload_n (pc := 7) d_tr_dropNode_7 rfl ?_
  refine e_get (pc := 8) d_tr_dropNode_8 fl_tr_18 hc3 rfl ?_
  refine e_iload_n (pc := 11) d_tr_dropNode_11 rfl ?_
  refine e_iconst (pc := 12) d_tr_dropNode_12 (v := (-1)) rfl ?_
  refine e_iastN (pc := 13) d_tr_dropNode_13 hc6 (by omega) (by decide) ?_
  obtain ⟨h8, eh9⟩ : ∃ x, x = q_up h1 (t + 3) (q_ai 259 (upd (ow) (p) ((-1)))) := ⟨_, rfl⟩
  rw [← eh9]
  have hc10 : h8 (t) = some (.inr (3, [.ref (t + 1), .ref (t + 2), .ref (t + 3), .ref (t + 4)])) := by rw [eh9, q_up_n _ (show (t : Nat) ≠ t + 3 by omega)]; exact hc3
  have hc11 : h8 (t + 1) = some (q_ai 259 (dt)) := by rw [eh9, q_up_n _ (show (t + 1 : Nat) ≠ t + 3 by omega)]; exact hc4
  have hc12 : h8 (t + 2) = some (q_ai 259 (upd (vr) (p) ((-1)))) := by rw [eh9, q_up_n _ (show (t + 2 : Nat) ≠ t + 3 by omega)]; exact hc5
  have hc13 : h8 (t + 3) = some (q_ai 259 (upd (ow) (p) ((-1)))) := by rw [eh9]; exact q_up_s _ _ _
  have hc14 : h8 (t + 4) = some (q_ai 43 (nx)) := by rw [eh9, q_up_n _ (show (t + 4 : Nat) ≠ t + 3 by omega)]; exact hc7
  exact e_vret (pc := 14) d_tr_dropNode_14 rfl (⟨rfl, by subst_vars; rfl, rfl⟩)
end
section
/-! TREE: its methods, exactly, over its four arrays -/
abbrev tr_ob (t : Nat) : q_E := .inr (3, [.ref (t + 1), .ref (t + 2), .ref (t + 3), .ref (t + 4)])
/-- the heap with these arrays at t's places -/
def tr_put (h : q_H) (t : Nat) (dt vr ow nx : Nat → Int32) : q_H := fun j => if j = t + 1 then some (q_ai 259 dt) else if j = t + 2 then some (q_ai 259 vr) else if j = t + 3 then some (q_ai 259 ow) else if j = t + 4 then some (q_ai 43 nx) else h j
theorem tr_put_id {h : q_H} {t : Nat} {dt vr ow nx : Nat → Int32} (hT : tr_At h t dt vr ow nx) : tr_put h t dt vr ow nx = h := by
  funext j
  unfold tr_put
  split
  · next c => subst c; exact hT.2.1.symm
  · split
    · next c => subst c; exact hT.2.2.1.symm
    · split
      · next c => subst c; exact hT.2.2.2.1.symm
      · split
        · next c => subst c; exact hT.2.2.2.2.symm
        · rfl
section TP
variable {h : q_H} {t : Nat} {dt vr ow nx dt' vr' ow' nx' : Nat → Int32}
theorem tr_g1 : tr_put h t dt vr ow nx (t + 1) = some (q_ai 259 dt) := if_pos rfl
theorem tr_g2 : tr_put h t dt vr ow nx (t + 2) = some (q_ai 259 vr) := by unfold tr_put; rw [if_neg (by omega), if_pos rfl]
theorem tr_g3 : tr_put h t dt vr ow nx (t + 3) = some (q_ai 259 ow) := by unfold tr_put; rw [if_neg (by omega), if_neg (by omega), if_pos rfl]
theorem tr_g4 : tr_put h t dt vr ow nx (t + 4) = some (q_ai 43 nx) := by unfold tr_put; rw [if_neg (by omega), if_neg (by omega), if_neg (by omega), if_pos rfl]
theorem tr_gx {x : Nat} (hx : x < t + 1 ∨ t + 4 < x) : tr_put h t dt vr ow nx x = h x := by unfold tr_put; rw [if_neg (by omega), if_neg (by omega), if_neg (by omega), if_neg (by omega)]
theorem tr_put_at (ho : h t = some (tr_ob t)) : tr_At (tr_put h t dt vr ow nx) t dt vr ow nx := ⟨by rw [tr_gx (by omega)]; exact ho, tr_g1, tr_g2, tr_g3, tr_g4⟩
theorem tr_u1 : q_up (tr_put h t dt vr ow nx) (t + 1) (q_ai 259 dt') = tr_put h t dt' vr ow nx := by
  funext j
  simp only [tr_put, q_up]
  (repeat' split) <;> first | rfl | (exfalso; omega)
theorem tr_u2 : q_up (tr_put h t dt vr ow nx) (t + 2) (q_ai 259 vr') = tr_put h t dt vr' ow nx := by
  funext j
  simp only [tr_put, q_up]
  (repeat' split) <;> first | rfl | (exfalso; omega)
theorem tr_u3 : q_up (tr_put h t dt vr ow nx) (t + 3) (q_ai 259 ow') = tr_put h t dt vr ow' nx := by
  funext j
  simp only [tr_put, q_up]
  (repeat' split) <;> first | rfl | (exfalso; omega)
theorem tr_u4 : q_up (tr_put h t dt vr ow nx) (t + 4) (q_ai 43 nx') = tr_put h t dt vr ow nx' := by
  funext j
  simp only [tr_put, q_up]
  (repeat' split) <;> first | rfl | (exfalso; omega)
theorem tr_put_put : tr_put (tr_put h t dt vr ow nx) t dt' vr' ow' nx' = tr_put h t dt' vr' ow' nx' := by
  funext j
  simp only [tr_put]
  (repeat' split) <;> first | rfl | (exfalso; omega)
end TP
/-- how many of the first k hold -/
def cntB (f : Nat → Bool) : Nat → Nat
  | 0 => 0
  | k + 1 => cntB f k + if f k then 1 else 0
theorem cntB_le (f : Nat → Bool) : ∀ k, cntB f k ≤ k := by
  intro k
  induction k with
  | zero => exact Nat.le_refl _
  | succ k ih => simp only [cntB]; split <;> omega
/-- the children's bits, of the first k names -/
def kidB (f : Nat → Bool) (p : Nat) : Nat → Int32
  | 0 => 0
  | k + 1 => if f (6 * p + k + 1) then kidB f p k ||| ((1 : Int32) <<< (nI k &&& 31)) else kidB f p k
/-- those of the paths 1 .. k - 1 that s owns get v -/
def owdK (f ow : Nat → Int32) (s : Int32) (k : Nat) : Nat → Int32 := fun q => if 1 ≤ q ∧ q < k ∧ ow q = s then -1 else f q
theorem owdK_1 (f ow : Nat → Int32) (s : Int32) : owdK f ow s 1 = f := by
  funext q
  unfold owdK
  rw [if_neg (by omega)]
theorem owdK_y {f ow : Nat → Int32} {s : Int32} {k : Nat} (hk : 1 ≤ k) (hs : ow k = s) : upd (owdK f ow s k) k (-1) = owdK f ow s (k + 1) := by
  funext q
  by_cases c : q = k
  · subst c
    have : 1 ≤ q ∧ q < q + 1 ∧ ow q = s := ⟨hk, by omega, hs⟩
    simp [upd, owdK, this]
  · have : (1 ≤ q ∧ q < k + 1 ∧ ow q = s) ↔ (1 ≤ q ∧ q < k ∧ ow q = s) := ⟨fun z => ⟨z.1, by omega, z.2.2⟩, fun z => ⟨z.1, by omega, z.2.2⟩⟩
    simp [upd, owdK, c, this]
theorem owdK_n {f ow : Nat → Int32} {s : Int32} {k : Nat} (hs : ¬ ow k = s) : owdK f ow s k = owdK f ow s (k + 1) := by
  funext q
  by_cases c : q = k
  · subst c
    simp [owdK, hs]
  · have : (1 ≤ q ∧ q < k + 1 ∧ ow q = s) ↔ (1 ≤ q ∧ q < k ∧ ow q = s) := ⟨fun z => ⟨z.1, by omega, z.2.2⟩, fun z => ⟨z.1, by omega, z.2.2⟩⟩
    simp [owdK, this]
theorem owdK_at (f ow : Nat → Int32) (s : Int32) (k : Nat) : owdK f ow s k k = f k := by
  unfold owdK
  rw [if_neg (by omega)]
set_option maxHeartbeats 4000000 in
set_option maxRecDepth 100000 in
theorem lp_tr_countNodes {l : Launch} {G : q_G} (htr : l.stackTraces = false) {h : q_H} {N : Nat} {t : Nat} {dt vr ow nx : Nat → Int32} (hT : tr_At h t dt vr ow nx) : ∀ (g k : Nat), 259 < k + g → k ≤ 259 → q_Ev l G m_tr_countNodes 1 21 0 0 4 [some (.ref (t)), some (.int (nI (cntB (fun q => decide (vr q ≠ -1)) k))), some (.int (nI (k)))] [] h N (q_Id (some (.int (nI (cntB (fun q => decide (vr q ≠ -1)) 259)))) h N) := by
  intro g
  induction g with
  | zero => intro k hg hk; omega
  | succ g ih =>
    intro k hg hk
    have hle := cntB_le (fun q => decide (vr q ≠ -1)) k
    refine e_iload_n (pc := 4) d_tr_countNodes_4 rfl ?_
    refine e_sipush (pc := 5) d_tr_countNodes_5 (v := (nI (259))) rfl ?_
    refine e_icmp_geN (pc := 8) (tgt := 28) d_tr_countNodes_8 (by decide) (by omega) (by omega) (fun c => ?_) (fun c => ?_)
    · have hkn : k = 259 := by omega
      subst hkn
      refine e_iload_n (pc := 28) d_tr_countNodes_28 rfl ?_
      exact e_iret (pc := 29) d_tr_countNodes_29 rfl (⟨rfl, rfl, rfl⟩)
    · refine e_aload_n (pc := 11) d_tr_countNodes_11 rfl ?_
      refine e_iload_n (pc := 12) d_tr_countNodes_12 rfl ?_
      refine e_callV (As := [.int (nI (k))]) (st := []) (cc2 := 0) (ss2 := 0) (pc := 13) d_tr_countNodes_13 rfl cv_tr_66 hT.1 rfl (c_tr_has htr hT c) rfl (by decide) (by decide) (by omega) (by omega) (Nat.le_of_ble_eq_true rfl) (fun _ _ _ hq => nomatch hq.1) (fun r h2 N2 hq => ?_)
      obtain ⟨hr, e1, e2⟩ := hq
      cases hr
      rw [e1, e2]
      clear e1 e2
      show q_Ev l G m_tr_countNodes 1 21 0 0 16 [some (.ref (t)), some (.int (nI (cntB (fun q => decide (vr q ≠ -1)) k))), some (.int (nI (k)))] [.int (bI (decide (vr k ≠ -1)))] h N _
      refine e_ifB_eq (pc := 16) (tgt := 22) d_tr_countNodes_16 (by decide) (fun c2 => ?_) (fun c2 => ?_)
      · refine e_iincN (pc := 22) d_tr_countNodes_22 (a := k) (b := 1) rfl rfl (by decide) ?_
        refine e_goto (pc := 25) (tgt := 4) d_tr_countNodes_25 (by decide) ?_
        have e : cntB (fun q => decide (vr q ≠ -1)) (k + 1) = cntB (fun q => decide (vr q ≠ -1)) k := by simp only [cntB, c2]; rfl
        have := ih (k + 1) (by omega) (by omega)
        rw [e] at this
        exact this
      · refine e_iincN (pc := 19) d_tr_countNodes_19 (a := cntB (fun q => decide (vr q ≠ -1)) k) (b := 1) rfl rfl (by decide) ?_
        refine e_iincN (pc := 22) d_tr_countNodes_22 (a := k) (b := 1) rfl rfl (by decide) ?_
        refine e_goto (pc := 25) (tgt := 4) d_tr_countNodes_25 (by decide) ?_
        have e : cntB (fun q => decide (vr q ≠ -1)) (k + 1) = cntB (fun q => decide (vr q ≠ -1)) k + 1 := by simp only [cntB, c2]; rfl
        have := ih (k + 1) (by omega) (by omega)
        rw [e] at this
        exact this
set_option maxHeartbeats 4000000 in
set_option maxRecDepth 100000 in
theorem c_tr_countNodes {l : Launch} {G : q_G} (htr : l.stackTraces = false) {h : q_H} {N : Nat} {t : Nat} {dt vr ow nx : Nat → Int32} (hT : tr_At h t dt vr ow nx) : q_Met l G m_tr_countNodes 1 21 0 0 [.ref (t)] h N (q_Id (some (.int (nI (cntB (fun q => decide (vr q ≠ -1)) 259)))) h N) := by
  refine q_Met.mk htr (by decide +kernel) rfl (List.forall_mem_cons.mpr ⟨rfl, fun _ h => nomatch h⟩) (Nat.le_of_ble_eq_true rfl) ?_
  refine e_iconst (pc := 0) d_tr_countNodes_0 (v := (nI (0))) rfl ?_
  refine e_istore_n (pc := 1) d_tr_countNodes_1 (by decide) ?_
  refine e_iconst (pc := 2) d_tr_countNodes_2 (v := (nI (0))) rfl ?_
  refine e_istore_n (pc := 3) d_tr_countNodes_3 (by decide) ?_
  exact lp_tr_countNodes htr hT 260 0 (by omega) (by omega)
set_option maxHeartbeats 4000000 in
set_option maxRecDepth 100000 in
theorem lp_tr_countOwned {l : Launch} {G : q_G} {h : q_H} {N : Nat} {t : Nat} {dt vr ow nx : Nat → Int32} (hT : tr_At h t dt vr ow nx) {s : Int32} : ∀ (g k : Nat), 259 < k + g → 1 ≤ k ∧ k ≤ 259 → q_Ev l G m_tr_countOwned 0 0 0 0 4 [some (.ref (t)), some (.int (s)), some (.int (nI (cntB (fun q => decide (1 ≤ q ∧ ow q = s)) k))), some (.int (nI (k)))] [] h N (q_Id (some (.int (nI (cntB (fun q => decide (1 ≤ q ∧ ow q = s)) 259)))) h N) := by
  intro g
  induction g with
  | zero => intro k hg hk; omega
  | succ g ih =>
    intro k hg hk
    have hle := cntB_le (fun q => decide (1 ≤ q ∧ ow q = s)) k
    refine e_iload_n (pc := 4) d_tr_countOwned_4 rfl ?_
    refine e_sipush (pc := 5) d_tr_countOwned_5 (v := (nI (259))) rfl ?_
    refine e_icmp_geN (pc := 8) (tgt := 30) d_tr_countOwned_8 (by decide) (by omega) (by omega) (fun c => ?_) (fun c => ?_)
    · have hkn : k = 259 := by omega
      subst hkn
      refine e_iload_n (pc := 30) d_tr_countOwned_30 rfl ?_
      exact e_iret (pc := 31) d_tr_countOwned_31 rfl (⟨rfl, rfl, rfl⟩)
    · refine e_aload_n (pc := 11) d_tr_countOwned_11 rfl ?_
      refine e_get (pc := 12) d_tr_countOwned_12 fl_tr_18 hT.1 rfl ?_
      refine e_iload_n (pc := 15) d_tr_countOwned_15 rfl ?_
      refine e_ialdN (pc := 16) d_tr_countOwned_16 hT.2.2.2.1 (by omega) (by decide) ?_
      refine e_iload_n (pc := 17) d_tr_countOwned_17 rfl ?_
      refine e_icmp_ne (pc := 18) (tgt := 24) d_tr_countOwned_18 (by decide) (fun c2 => ?_) (fun c2 => ?_)
      · refine e_iincN (pc := 24) d_tr_countOwned_24 (a := k) (b := 1) rfl rfl (by decide) ?_
        refine e_goto (pc := 27) (tgt := 4) d_tr_countOwned_27 (by decide) ?_
        have e : cntB (fun q => decide (1 ≤ q ∧ ow q = s)) (k + 1) = cntB (fun q => decide (1 ≤ q ∧ ow q = s)) k := by simp [cntB, c2]
        have := ih (k + 1) (by omega) (by omega)
        rw [e] at this
        exact this
      · refine e_iincN (pc := 21) d_tr_countOwned_21 (a := cntB (fun q => decide (1 ≤ q ∧ ow q = s)) k) (b := 1) rfl rfl (by decide) ?_
        refine e_iincN (pc := 24) d_tr_countOwned_24 (a := k) (b := 1) rfl rfl (by decide) ?_
        refine e_goto (pc := 27) (tgt := 4) d_tr_countOwned_27 (by decide) ?_
        have e : cntB (fun q => decide (1 ≤ q ∧ ow q = s)) (k + 1) = cntB (fun q => decide (1 ≤ q ∧ ow q = s)) k + 1 := by simp [cntB, c2, hk.1]
        have := ih (k + 1) (by omega) (by omega)
        rw [e] at this
        exact this
set_option maxHeartbeats 4000000 in
set_option maxRecDepth 100000 in
theorem c_tr_countOwned {l : Launch} {G : q_G} (htr : l.stackTraces = false) {h : q_H} {N : Nat} {t : Nat} {dt vr ow nx : Nat → Int32} (hT : tr_At h t dt vr ow nx) {s : Int32} : q_Met l G m_tr_countOwned 0 0 0 0 [.ref (t), .int (s)] h N (q_Id (some (.int (nI (cntB (fun q => decide (1 ≤ q ∧ ow q = s)) 259)))) h N) := by
  refine q_Met.mk htr (by decide +kernel) rfl (List.forall_mem_cons.mpr ⟨rfl, List.forall_mem_cons.mpr ⟨rfl, fun _ h => nomatch h⟩⟩) (Nat.le_of_ble_eq_true rfl) ?_
  refine e_iconst (pc := 0) d_tr_countOwned_0 (v := (nI (0))) rfl ?_
  refine e_istore_n (pc := 1) d_tr_countOwned_1 (by decide) ?_
  refine e_iconst (pc := 2) d_tr_countOwned_2 (v := (nI (1))) rfl ?_
  refine e_istore_n (pc := 3) d_tr_countOwned_3 (by decide) ?_
  have := lp_tr_countOwned (l := l) (G := G) (N := N) (s := s) hT 260 1 (by omega) (by omega)
  have e : cntB (fun q => decide (1 ≤ q ∧ ow q = s)) 1 = 0 := by simp [cntB]
  rw [e] at this
  exact this
set_option maxHeartbeats 4000000 in
set_option maxRecDepth 100000 in
theorem lp_tr_childrenOf {l : Launch} {G : q_G} (htr : l.stackTraces = false) {h : q_H} {N : Nat} {t : Nat} {dt vr ow nx : Nat → Int32} (hT : tr_At h t dt vr ow nx) {p : Nat} (hp : p < 43) : ∀ (g k : Nat), 6 < k + g → k ≤ 6 → q_Ev l G m_tr_childrenOf 1 21 0 0 12 [some (.ref (t)), some (.int (nI (p))), some (.int (kidB (fun q => decide (vr q ≠ -1)) p k)), some (.int (nI (k)))] [] h N (q_Id (some (.int (kidB (fun q => decide (vr q ≠ -1)) p 6))) h N) := by
  intro g
  induction g with
  | zero => intro k hg hk; omega
  | succ g ih =>
    intro k hg hk
    refine e_iload_n (pc := 12) d_tr_childrenOf_12 rfl ?_
    refine e_bipush (pc := 13) d_tr_childrenOf_13 (v := (nI (6))) rfl ?_
    refine e_icmp_geN (pc := 15) (tgt := 42) d_tr_childrenOf_15 (by decide) (by omega) (by omega) (fun c => ?_) (fun c => ?_)
    · have hkn : k = 6 := by omega
      subst hkn
      refine e_iload_n (pc := 42) d_tr_childrenOf_42 rfl ?_
      exact e_iret (pc := 43) d_tr_childrenOf_43 rfl (⟨rfl, rfl, rfl⟩)
    · refine e_aload_n (pc := 18) d_tr_childrenOf_18 rfl ?_
      refine e_iload_n (pc := 19) d_tr_childrenOf_19 rfl ?_
      refine e_iload_n (pc := 20) d_tr_childrenOf_20 rfl ?_
      refine e_callSN (As := [.int (nI (p)), .int (nI (k))]) (st := [.ref (t)]) (cc2 := 0) (ss2 := 0) (pc := 21) d_tr_childrenOf_21 cn_tr_62 (c_zs_childOf htr (p := p) (k := k)) rfl (by decide) (by decide) (by omega) (by omega) (Nat.le_of_ble_eq_true rfl) (fun _ _ _ hq => nomatch hq.1) (fun r h2 N2 hq => ?_)
      obtain ⟨hr, e1, e2⟩ := hq
      cases hr
      rw [e1, e2]
      clear e1 e2
      show q_Ev l G m_tr_childrenOf 1 21 0 0 24 [some (.ref (t)), some (.int (nI (p))), some (.int (kidB (fun q => decide (vr q ≠ -1)) p k)), some (.int (nI (k)))] [.int (nI (6 * p + k + 1)), .ref (t)] h N _
      refine e_callV (As := [.int (nI (6 * p + k + 1))]) (st := []) (cc2 := 0) (ss2 := 0) (pc := 24) d_tr_childrenOf_24 rfl cv_tr_66 hT.1 rfl (c_tr_has htr hT (p := 6 * p + k + 1) (by omega)) rfl (by decide) (by decide) (by omega) (by omega) (Nat.le_of_ble_eq_true rfl) (fun _ _ _ hq => nomatch hq.1) (fun r h2 N2 hq => ?_)
      obtain ⟨hr, e1, e2⟩ := hq
      cases hr
      rw [e1, e2]
      clear e1 e2
      show q_Ev l G m_tr_childrenOf 1 21 0 0 27 [some (.ref (t)), some (.int (nI (p))), some (.int (kidB (fun q => decide (vr q ≠ -1)) p k)), some (.int (nI (k)))] [.int (bI (decide (vr (6 * p + k + 1) ≠ -1)))] h N _
      refine e_ifB_eq (pc := 27) (tgt := 36) d_tr_childrenOf_27 (by decide) (fun c2 => ?_) (fun c2 => ?_)
      · refine e_iincN (pc := 36) d_tr_childrenOf_36 (a := k) (b := 1) rfl rfl (by decide) ?_
        refine e_goto (pc := 39) (tgt := 12) d_tr_childrenOf_39 (by decide) ?_
        have e : kidB (fun q => decide (vr q ≠ -1)) p (k + 1) = kidB (fun q => decide (vr q ≠ -1)) p k := by simp only [kidB, c2]; rfl
        have := ih (k + 1) (by omega) (by omega)
        rw [e] at this
        exact this
      · refine e_iload_n (pc := 30) d_tr_childrenOf_30 rfl ?_
        refine e_iconst (pc := 31) d_tr_childrenOf_31 (v := (nI (1))) rfl ?_
        refine e_iload_n (pc := 32) d_tr_childrenOf_32 rfl ?_
        refine e_ishl (pc := 33) d_tr_childrenOf_33  ?_
        refine e_ior (pc := 34) d_tr_childrenOf_34  ?_
        refine e_istore_n (pc := 35) d_tr_childrenOf_35 (by decide) ?_
        refine e_iincN (pc := 36) d_tr_childrenOf_36 (a := k) (b := 1) rfl rfl (by decide) ?_
        refine e_goto (pc := 39) (tgt := 12) d_tr_childrenOf_39 (by decide) ?_
        have e : kidB (fun q => decide (vr q ≠ -1)) p (k + 1) = kidB (fun q => decide (vr q ≠ -1)) p k ||| ((1 : Int32) <<< (nI k &&& 31)) := by simp only [kidB, c2]; rfl
        have := ih (k + 1) (by omega) (by omega)
        rw [e] at this
        exact this
set_option maxHeartbeats 4000000 in
set_option maxRecDepth 100000 in
theorem c_tr_childrenOf {l : Launch} {G : q_G} (htr : l.stackTraces = false) {h : q_H} {N : Nat} {t : Nat} {dt vr ow nx : Nat → Int32} (hT : tr_At h t dt vr ow nx) {p : Nat} (hp : p < 2 ^ 31) : q_Met l G m_tr_childrenOf 1 21 0 0 [.ref (t), .int (nI (p))] h N (q_Id (some (.int (if p < 43 then kidB (fun q => decide (vr q ≠ -1)) p 6 else 0))) h N) := by
  refine q_Met.mk htr (by decide +kernel) rfl (List.forall_mem_cons.mpr ⟨rfl, List.forall_mem_cons.mpr ⟨rfl, fun _ h => nomatch h⟩⟩) (Nat.le_of_ble_eq_true rfl) ?_
  refine e_iload_n (pc := 0) d_tr_childrenOf_0 rfl ?_
  refine e_bipush (pc := 1) d_tr_childrenOf_1 (v := (nI (43))) rfl ?_
  refine e_icmp_ltN (pc := 3) (tgt := 8) d_tr_childrenOf_3 (by decide) (by omega) (by omega) (fun c => ?_) (fun c => ?_)
  · refine e_iconst (pc := 8) d_tr_childrenOf_8 (v := (nI (0))) rfl ?_
    refine e_istore_n (pc := 9) d_tr_childrenOf_9 (by decide) ?_
    refine e_iconst (pc := 10) d_tr_childrenOf_10 (v := (nI (0))) rfl ?_
    refine e_istore_n (pc := 11) d_tr_childrenOf_11 (by decide) ?_
    rw [if_pos c]
    exact lp_tr_childrenOf htr hT c 7 0 (by omega) (by omega)
  · refine e_iconst (pc := 6) d_tr_childrenOf_6 (v := (nI (0))) rfl ?_
    exact e_iret (pc := 7) d_tr_childrenOf_7 rfl (⟨by rw [if_neg (by omega)]; rfl, rfl, rfl⟩)
set_option maxHeartbeats 4000000 in
set_option maxRecDepth 100000 in
theorem lp_tr_dropOwned {l : Launch} {G : q_G} (htr : l.stackTraces = false) {h : q_H} {N t : Nat} {dt vr ow nx : Nat → Int32} {s : Int32} (ho : h t = some (tr_ob t)) : ∀ (g k : Nat), 259 < k + g → 1 ≤ k ∧ k ≤ 259 → q_Ev l G m_tr_dropOwned 1 21 0 0 2 [some (.ref (t)), some (.int (s)), some (.int (nI (k)))] [] (tr_put h t dt (owdK vr ow s k) (owdK ow ow s k) nx) N (q_To none (tr_put h t dt (owdK vr ow s 259) (owdK ow ow s 259) nx) N) := by
  intro g
  induction g with
  | zero => intro k hg hk; omega
  | succ g ih =>
    intro k hg hk
    have hT : tr_At (tr_put h t dt (owdK vr ow s k) (owdK ow ow s k) nx) t dt (owdK vr ow s k) (owdK ow ow s k) nx := tr_put_at ho
    refine e_iload_n (pc := 2) d_tr_dropOwned_2 rfl ?_
    refine e_sipush (pc := 3) d_tr_dropOwned_3 (v := (nI (259))) rfl ?_
    refine e_icmp_geN (pc := 6) (tgt := 30) d_tr_dropOwned_6 (by decide) (by omega) (by omega) (fun c => ?_) (fun c => ?_)
    · have hkn : k = 259 := by omega
      subst hkn
      exact e_vret (pc := 30) d_tr_dropOwned_30 rfl (⟨rfl, rfl, rfl⟩)
    · refine e_aload_n (pc := 9) d_tr_dropOwned_9 rfl ?_
      refine e_get (pc := 10) d_tr_dropOwned_10 fl_tr_18 hT.1 rfl ?_
      refine e_iload_n (pc := 13) d_tr_dropOwned_13 rfl ?_
      refine e_ialdN (pc := 14) d_tr_dropOwned_14 hT.2.2.2.1 (by omega) (by decide) ?_
      refine e_iload_n (pc := 15) d_tr_dropOwned_15 rfl ?_
      rw [owdK_at]
      refine e_icmp_ne (pc := 16) (tgt := 24) d_tr_dropOwned_16 (by decide) (fun c2 => ?_) (fun c2 => ?_)
      · refine e_iincN (pc := 24) d_tr_dropOwned_24 (a := k) (b := 1) rfl rfl (by decide) ?_
        refine e_goto (pc := 27) (tgt := 2) d_tr_dropOwned_27 (by decide) ?_
        have := ih (k + 1) (by omega) (by omega)
        rw [← owdK_n c2, ← owdK_n c2] at this
        exact this
      · refine e_aload_n (pc := 19) d_tr_dropOwned_19 rfl ?_
        refine e_iload_n (pc := 20) d_tr_dropOwned_20 rfl ?_
        refine e_callV (As := [.int (nI (k))]) (st := []) (cc2 := 0) (ss2 := 0) (pc := 21) d_tr_dropOwned_21 rfl cv_tr_45 hT.1 rfl (c_tr_dropNode htr hT c) rfl (by decide) (by decide) (by omega) (by omega) (Nat.le_of_ble_eq_true rfl) (fun _ _ _ hq => nomatch hq.1) (fun r h2 N2 hq => ?_)
        obtain ⟨hr, e1, e2⟩ := hq
        cases hr
        rw [e1, e2]
        clear e1 e2
        show q_Ev l G m_tr_dropOwned 1 21 0 0 24 [some (.ref (t)), some (.int (s)), some (.int (nI (k)))] [] _ N _
        rw [tr_u2, tr_u3, owdK_y hk.1 c2, owdK_y hk.1 c2]
        refine e_iincN (pc := 24) d_tr_dropOwned_24 (a := k) (b := 1) rfl rfl (by decide) ?_
        refine e_goto (pc := 27) (tgt := 2) d_tr_dropOwned_27 (by decide) ?_
        exact ih (k + 1) (by omega) (by omega)
set_option maxHeartbeats 4000000 in
set_option maxRecDepth 100000 in
theorem c_tr_dropOwned {l : Launch} {G : q_G} (htr : l.stackTraces = false) {h : q_H} {N : Nat} {t : Nat} {dt vr ow nx : Nat → Int32} (hT : tr_At h t dt vr ow nx) {s : Int32} : q_Met l G m_tr_dropOwned 1 21 0 0 [.ref (t), .int (s)] h N (q_To none (tr_put h t dt (owdK vr ow s 259) (owdK ow ow s 259) nx) N) := by
  refine q_Met.mk htr (by decide +kernel) rfl (List.forall_mem_cons.mpr ⟨rfl, List.forall_mem_cons.mpr ⟨rfl, fun _ h => nomatch h⟩⟩) (Nat.le_of_ble_eq_true rfl) ?_
  refine e_iconst (pc := 0) d_tr_dropOwned_0 (v := (nI (1))) rfl ?_
  refine e_istore_n (pc := 1) d_tr_dropOwned_1 (by decide) ?_
  have := lp_tr_dropOwned (l := l) (G := G) htr (N := N) (dt := dt) (vr := vr) (ow := ow) (nx := nx) (s := s) hT.1 260 1 (by omega) (by omega)
  rw [owdK_1, owdK_1, tr_put_id hT] at this
  exact this
end
section
/-! TREE: makeNode, play, clear, its constructor -/
theorem q_Ev.hp {l : Launch} {G : q_G} {μ : q_M} {fr lo cc ss pc N : Nat} {lv : List (Option Value)} {st : List Value} {h h1 : q_H} {Q : q_Q} (e : h1 = h) (k : q_Ev l G μ fr lo cc ss pc lv st h1 N Q) : q_Ev l G μ fr lo cc ss pc lv st h N Q := e ▸ k
def en_At (h : q_H) (a kd p : Nat) (d o : Int32) (sq : Bool) : Prop := h a = some (.inr (0, [.int (nI kd), .int (nI p), .int d, .int o, .int (bI sq)]))
/-- the NEXTs behind a CREATE of p -/
def mkN (nx : Nat → Int32) (p : Nat) (sq : Bool) : Nat → Int32 := if sq then upd (if p < 43 then upd nx p (nI 0) else nx) ((p - 1) / 6) (nI (p - (6 * ((p - 1) / 6) + 0 + 1) + 1)) else if p < 43 then upd nx p (nI 0) else nx
set_option maxHeartbeats 4000000 in
set_option maxRecDepth 100000 in
theorem c_tr_makeNode {l : Launch} {G : q_G} (htr : l.stackTraces = false) {h : q_H} {N : Nat} {t : Nat} {dt vr ow nx : Nat → Int32} (hT : tr_At h t dt vr ow nx) {a kd p : Nat} {d o : Int32} {sq : Bool} (he : en_At h a kd p d o sq) (hat : a < t + 1 ∨ t + 4 < a) (h1 : 1 ≤ p) (h2 : p < 259) : q_Met l G m_tr_makeNode 1 21 0 0 [.ref (t), .ref (a)] h N (q_To none (tr_put h t (upd dt p d) (upd vr p (nI 0)) (upd ow p o) (mkN nx p sq)) N) := by
  refine q_Met.mk htr (by decide +kernel) rfl (List.forall_mem_cons.mpr ⟨rfl, List.forall_mem_cons.mpr ⟨rfl, fun _ h => nomatch h⟩⟩) (Nat.le_of_ble_eq_true rfl) ?_
  refine q_Ev.hp (tr_put_id hT) ?_
  refine e_aload_n (pc := 0) d_tr_makeNode_0 rfl ?_
  refine e_get (pc := 1) d_tr_makeNode_1 fl_tr_40 ((tr_gx hat).trans he) rfl ?_
  refine e_istore_n (pc := 4) d_tr_makeNode_4 (by decide) ?_
  refine e_aload_n (pc := 5) d_tr_makeNode_5 rfl ?_
  refine e_get (pc := 6) d_tr_makeNode_6 fl_tr_9 ((tr_gx (by omega)).trans hT.1) rfl ?_
  refine e_iload_n (pc := 9) d_tr_makeNode_9 rfl ?_
  refine e_aload_n (pc := 10) d_tr_makeNode_10 rfl ?_
  refine e_get (pc := 11) d_tr_makeNode_11 fl_tr_43 ((tr_gx hat).trans he) rfl ?_
  refine e_iastN (pc := 14) d_tr_makeNode_14 tr_g1 (by omega) (by decide) ?_
  rw [tr_u1]
  refine e_aload_n (pc := 15) d_tr_makeNode_15 rfl ?_
  refine e_get (pc := 16) d_tr_makeNode_16 fl_tr_15 ((tr_gx (by omega)).trans hT.1) rfl ?_
  refine e_iload_n (pc := 19) d_tr_makeNode_19 rfl ?_
  refine e_iconst (pc := 20) d_tr_makeNode_20 (v := (nI (0))) rfl ?_
  refine e_iastN (pc := 21) d_tr_makeNode_21 tr_g2 (by omega) (by decide) ?_
  rw [tr_u2]
  refine e_aload_n (pc := 22) d_tr_makeNode_22 rfl ?_
  refine e_get (pc := 23) d_tr_makeNode_23 fl_tr_18 ((tr_gx (by omega)).trans hT.1) rfl ?_
  refine e_iload_n (pc := 26) d_tr_makeNode_26 rfl ?_
  refine e_aload_n (pc := 27) d_tr_makeNode_27 rfl ?_
  refine e_get (pc := 28) d_tr_makeNode_28 fl_tr_49 ((tr_gx hat).trans he) rfl ?_
  refine e_iastN (pc := 31) d_tr_makeNode_31 tr_g3 (by omega) (by decide) ?_
  rw [tr_u3]
  refine e_iload_n (pc := 32) d_tr_makeNode_32 rfl ?_
  refine e_bipush (pc := 33) d_tr_makeNode_33 (v := (nI (43))) rfl ?_
  refine e_icmp_geN (pc := 35) (tgt := 45) d_tr_makeNode_35 (by decide) (by omega) (by omega) (fun c => ?_) (fun c => ?_)
  · refine e_aload_n (pc := 45) d_tr_makeNode_45 rfl ?_
    refine e_get (pc := 46) d_tr_makeNode_46 fl_tr_54 ((tr_gx hat).trans he) rfl ?_
    refine e_ifB_eq (pc := 49) (tgt := 72) d_tr_makeNode_49 (by decide) (fun c2 => ?_) (fun c2 => ?_)
    · exact e_vret (pc := 72) d_tr_makeNode_72 rfl (⟨rfl, by simp [mkN, c2, show ¬ p < 43 by omega], rfl⟩)
    · refine e_iload_n (pc := 52) d_tr_makeNode_52 rfl ?_
      refine e_callSN (As := [.int (nI (p))]) (st := []) (cc2 := 0) (ss2 := 0) (pc := 53) d_tr_makeNode_53 cn_tr_58 (c_zs_parentOf htr h1 (by omega)) rfl (by decide) (by decide) (by omega) (by omega) (Nat.le_of_ble_eq_true rfl) (fun _ _ _ hq => nomatch hq.1) (fun r h2 N2 hq => ?_)
      obtain ⟨hr, e1, e2⟩ := hq
      cases hr
      rw [e1, e2]
      clear e1 e2
      show q_Ev l G m_tr_makeNode 1 21 0 0 56 [some (.ref (t)), some (.ref (a)), some (.int (nI (p))), none] [.int (nI ((p - 1) / 6))] (tr_put h (t) (upd (dt) (p) ((d))) (upd (vr) (p) ((nI (0)))) (upd (ow) (p) ((o))) (nx)) N _
      refine e_istore_n (pc := 56) d_tr_makeNode_56 (by decide) ?_
      refine e_aload_n (pc := 57) d_tr_makeNode_57 rfl ?_
      refine e_get (pc := 58) d_tr_makeNode_58 fl_tr_21 ((tr_gx (by omega)).trans hT.1) rfl ?_
      refine e_iload_n (pc := 61) d_tr_makeNode_61 rfl ?_
      refine e_iload_n (pc := 62) d_tr_makeNode_62 rfl ?_
      refine e_iload_n (pc := 63) d_tr_makeNode_63 rfl ?_
      refine e_iconst (pc := 64) d_tr_makeNode_64 (v := (nI (0))) rfl ?_
      refine e_callSN (As := [.int (nI ((p - 1) / 6)), .int (nI (0))]) (st := [.int (nI (p)), .int (nI ((p - 1) / 6)), .ref (t + 4)]) (cc2 := 0) (ss2 := 0) (pc := 65) d_tr_makeNode_65 cn_tr_62 (c_zs_childOf htr (p := (p - 1) / 6) (k := 0)) rfl (by decide) (by decide) (by omega) (by omega) (Nat.le_of_ble_eq_true rfl) (fun _ _ _ hq => nomatch hq.1) (fun r h2 N2 hq => ?_)
      obtain ⟨hr, e1, e2⟩ := hq
      cases hr
      rw [e1, e2]
      clear e1 e2
      show q_Ev l G m_tr_makeNode 1 21 0 0 68 [some (.ref (t)), some (.ref (a)), some (.int (nI (p))), some (.int (nI ((p - 1) / 6)))] [.int (nI (6 * ((p - 1) / 6) + 0 + 1)), .int (nI (p)), .int (nI ((p - 1) / 6)), .ref (t + 4)] (tr_put h (t) (upd (dt) (p) ((d))) (upd (vr) (p) ((nI (0)))) (upd (ow) (p) ((o))) (nx)) N _
      refine e_isubN (pc := 68) d_tr_makeNode_68 (by omega) ?_
      refine e_iconst (pc := 69) d_tr_makeNode_69 (v := (nI (1))) rfl ?_
      refine e_iaddN (pc := 70) d_tr_makeNode_70  ?_
      refine e_iastN (pc := 71) d_tr_makeNode_71 tr_g4 (by omega) (by decide) ?_
      rw [tr_u4]
      exact e_vret (pc := 72) d_tr_makeNode_72 rfl (⟨rfl, by simp [mkN, c2, show ¬ p < 43 by omega], rfl⟩)
  · refine e_aload_n (pc := 38) d_tr_makeNode_38 rfl ?_
    refine e_get (pc := 39) d_tr_makeNode_39 fl_tr_21 ((tr_gx (by omega)).trans hT.1) rfl ?_
    refine e_iload_n (pc := 42) d_tr_makeNode_42 rfl ?_
    refine e_iconst (pc := 43) d_tr_makeNode_43 (v := (nI (0))) rfl ?_
    refine e_iastN (pc := 44) d_tr_makeNode_44 tr_g4 (by omega) (by decide) ?_
    rw [tr_u4]
    refine e_aload_n (pc := 45) d_tr_makeNode_45 rfl ?_
    refine e_get (pc := 46) d_tr_makeNode_46 fl_tr_54 ((tr_gx hat).trans he) rfl ?_
    refine e_ifB_eq (pc := 49) (tgt := 72) d_tr_makeNode_49 (by decide) (fun c2 => ?_) (fun c2 => ?_)
    · exact e_vret (pc := 72) d_tr_makeNode_72 rfl (⟨rfl, by simp [mkN, c2, c], rfl⟩)
    · refine e_iload_n (pc := 52) d_tr_makeNode_52 rfl ?_
      refine e_callSN (As := [.int (nI (p))]) (st := []) (cc2 := 0) (ss2 := 0) (pc := 53) d_tr_makeNode_53 cn_tr_58 (c_zs_parentOf htr h1 (by omega)) rfl (by decide) (by decide) (by omega) (by omega) (Nat.le_of_ble_eq_true rfl) (fun _ _ _ hq => nomatch hq.1) (fun r h2 N2 hq => ?_)
      obtain ⟨hr, e1, e2⟩ := hq
      cases hr
      rw [e1, e2]
      clear e1 e2
      show q_Ev l G m_tr_makeNode 1 21 0 0 56 [some (.ref (t)), some (.ref (a)), some (.int (nI (p))), none] [.int (nI ((p - 1) / 6))] (tr_put h (t) (upd (dt) (p) ((d))) (upd (vr) (p) ((nI (0)))) (upd (ow) (p) ((o))) (upd (nx) (p) ((nI (0))))) N _
      refine e_istore_n (pc := 56) d_tr_makeNode_56 (by decide) ?_
      refine e_aload_n (pc := 57) d_tr_makeNode_57 rfl ?_
      refine e_get (pc := 58) d_tr_makeNode_58 fl_tr_21 ((tr_gx (by omega)).trans hT.1) rfl ?_
      refine e_iload_n (pc := 61) d_tr_makeNode_61 rfl ?_
      refine e_iload_n (pc := 62) d_tr_makeNode_62 rfl ?_
      refine e_iload_n (pc := 63) d_tr_makeNode_63 rfl ?_
      refine e_iconst (pc := 64) d_tr_makeNode_64 (v := (nI (0))) rfl ?_
      refine e_callSN (As := [.int (nI ((p - 1) / 6)), .int (nI (0))]) (st := [.int (nI (p)), .int (nI ((p - 1) / 6)), .ref (t + 4)]) (cc2 := 0) (ss2 := 0) (pc := 65) d_tr_makeNode_65 cn_tr_62 (c_zs_childOf htr (p := (p - 1) / 6) (k := 0)) rfl (by decide) (by decide) (by omega) (by omega) (Nat.le_of_ble_eq_true rfl) (fun _ _ _ hq => nomatch hq.1) (fun r h2 N2 hq => ?_)
      obtain ⟨hr, e1, e2⟩ := hq
      cases hr
      rw [e1, e2]
      clear e1 e2
      show q_Ev l G m_tr_makeNode 1 21 0 0 68 [some (.ref (t)), some (.ref (a)), some (.int (nI (p))), some (.int (nI ((p - 1) / 6)))] [.int (nI (6 * ((p - 1) / 6) + 0 + 1)), .int (nI (p)), .int (nI ((p - 1) / 6)), .ref (t + 4)] (tr_put h (t) (upd (dt) (p) ((d))) (upd (vr) (p) ((nI (0)))) (upd (ow) (p) ((o))) (upd (nx) (p) ((nI (0))))) N _
      refine e_isubN (pc := 68) d_tr_makeNode_68 (by omega) ?_
      refine e_iconst (pc := 69) d_tr_makeNode_69 (v := (nI (1))) rfl ?_
      refine e_iaddN (pc := 70) d_tr_makeNode_70  ?_
      refine e_iastN (pc := 71) d_tr_makeNode_71 tr_g4 (by omega) (by decide) ?_
      rw [tr_u4]
      exact e_vret (pc := 72) d_tr_makeNode_72 rfl (⟨rfl, by simp [mkN, c2, c], rfl⟩)
set_option maxHeartbeats 4000000 in
set_option maxRecDepth 100000 in
theorem c_tr_play_create {l : Launch} {G : q_G} (htr : l.stackTraces = false) {h : q_H} {N : Nat} {t : Nat} {dt vr ow nx : Nat → Int32} (hT : tr_At h t dt vr ow nx) {a p : Nat} {d o : Int32} {sq : Bool} (he : en_At h a 0 p d o sq) (hat : a < t + 1 ∨ t + 4 < a) (h1 : 1 ≤ p) (h2 : p < 259) : q_Met l G m_tr_play 2 44 0 0 [.ref (t), .ref (a)] h N (q_To none (tr_put h t (upd dt p d) (upd vr p (nI 0)) (upd ow p o) (mkN nx p sq)) N) := by
  refine q_Met.mk htr (by decide +kernel) rfl (List.forall_mem_cons.mpr ⟨rfl, List.forall_mem_cons.mpr ⟨rfl, fun _ h => nomatch h⟩⟩) (Nat.le_of_ble_eq_true rfl) ?_
  refine e_aload_n (pc := 0) d_tr_play_0 rfl ?_
  refine e_get (pc := 1) d_tr_play_1 fl_tr_30 he rfl ?_
  refine e_tableIn (pc := 4) (off := 28) (tgt := 32) d_tr_play_4 (by decide) (by decide) (by decide) (by decide) ?_
  refine e_aload_n (pc := 32) d_tr_play_32 rfl ?_
  refine e_aload_n (pc := 33) d_tr_play_33 rfl ?_
  refine e_callV (As := [.ref (a)]) (st := []) (cc2 := 0) (ss2 := 0) (pc := 34) d_tr_play_34 rfl cv_tr_36 hT.1 rfl (c_tr_makeNode htr hT he hat h1 h2) rfl (by decide) (by decide) (by omega) (by omega) (Nat.le_of_ble_eq_true rfl) (fun _ _ _ hq => nomatch hq.1) (fun r h2 N2 hq => ?_)
  obtain ⟨hr, e1, e2⟩ := hq
  cases hr
  rw [e1, e2]
  clear e1 e2
  show q_Ev l G m_tr_play 2 44 0 0 37 [some (.ref (t)), some (.ref (a))] [] _ N _
  refine e_goto (pc := 37) (tgt := 88) d_tr_play_37 (by decide) ?_
  exact e_vret (pc := 88) d_tr_play_88 rfl (⟨rfl, rfl, rfl⟩)
set_option maxHeartbeats 4000000 in
set_option maxRecDepth 100000 in
theorem c_tr_play_set {l : Launch} {G : q_G} (htr : l.stackTraces = false) {h : q_H} {N : Nat} {t : Nat} {dt vr ow nx : Nat → Int32} (hT : tr_At h t dt vr ow nx) {a p : Nat} {d o : Int32} {sq : Bool} (he : en_At h a 1 p d o sq) (hat : a < t + 1 ∨ t + 4 < a) (h2 : p < 259) : q_Met l G m_tr_play 2 44 0 0 [.ref (t), .ref (a)] h N (q_To none (tr_put h t (upd dt p d) (upd vr p (vr p + nI 1)) ow nx) N) := by
  refine q_Met.mk htr (by decide +kernel) rfl (List.forall_mem_cons.mpr ⟨rfl, List.forall_mem_cons.mpr ⟨rfl, fun _ h => nomatch h⟩⟩) (Nat.le_of_ble_eq_true rfl) ?_
  refine e_aload_n (pc := 0) d_tr_play_0 rfl ?_
  refine e_get (pc := 1) d_tr_play_1 fl_tr_30 he rfl ?_
  refine e_tableIn (pc := 4) (off := 36) (tgt := 40) d_tr_play_4 (by decide) (by decide) (by decide) (by decide) ?_
  refine q_Ev.hp (tr_put_id hT) ?_
  refine e_aload_n (pc := 40) d_tr_play_40 rfl ?_
  refine e_get (pc := 41) d_tr_play_41 fl_tr_9 ((tr_gx (by omega)).trans hT.1) rfl ?_
  refine e_aload_n (pc := 44) d_tr_play_44 rfl ?_
  refine e_get (pc := 45) d_tr_play_45 fl_tr_40 ((tr_gx hat).trans he) rfl ?_
  refine e_aload_n (pc := 48) d_tr_play_48 rfl ?_
  refine e_get (pc := 49) d_tr_play_49 fl_tr_43 ((tr_gx hat).trans he) rfl ?_
  refine e_iastN (pc := 52) d_tr_play_52 tr_g1 (by omega) (by decide) ?_
  rw [tr_u1]
  refine e_aload_n (pc := 53) d_tr_play_53 rfl ?_
  refine e_get (pc := 54) d_tr_play_54 fl_tr_15 ((tr_gx (by omega)).trans hT.1) rfl ?_
  refine e_aload_n (pc := 57) d_tr_play_57 rfl ?_
  refine e_get (pc := 58) d_tr_play_58 fl_tr_40 ((tr_gx hat).trans he) rfl ?_
  refine e_dup2 (pc := 61) d_tr_play_61 rfl rfl ?_
  refine e_ialdN (pc := 62) d_tr_play_62 tr_g2 (by omega) (by decide) ?_
  refine e_iconst (pc := 63) d_tr_play_63 (v := (nI (1))) rfl ?_
  refine e_iadd (pc := 64) d_tr_play_64  ?_
  refine e_iastN (pc := 65) d_tr_play_65 tr_g2 (by omega) (by decide) ?_
  rw [tr_u2]
  refine e_goto (pc := 66) (tgt := 88) d_tr_play_66 (by decide) ?_
  exact e_vret (pc := 88) d_tr_play_88 rfl (⟨rfl, rfl, rfl⟩)
set_option maxHeartbeats 4000000 in
set_option maxRecDepth 100000 in
theorem c_tr_play_delete {l : Launch} {G : q_G} (htr : l.stackTraces = false) {h : q_H} {N : Nat} {t : Nat} {dt vr ow nx : Nat → Int32} (hT : tr_At h t dt vr ow nx) {a p : Nat} {d o : Int32} {sq : Bool} (he : en_At h a 2 p d o sq) (hat : a < t + 1 ∨ t + 4 < a) (h2 : p < 259) : q_Met l G m_tr_play 2 44 0 0 [.ref (t), .ref (a)] h N (q_To none (tr_put h t dt (upd vr p (-1)) (upd ow p (-1)) nx) N) := by
  refine q_Met.mk htr (by decide +kernel) rfl (List.forall_mem_cons.mpr ⟨rfl, List.forall_mem_cons.mpr ⟨rfl, fun _ h => nomatch h⟩⟩) (Nat.le_of_ble_eq_true rfl) ?_
  refine e_aload_n (pc := 0) d_tr_play_0 rfl ?_
  refine e_get (pc := 1) d_tr_play_1 fl_tr_30 he rfl ?_
  refine e_tableIn (pc := 4) (off := 65) (tgt := 69) d_tr_play_4 (by decide) (by decide) (by decide) (by decide) ?_
  refine e_aload_n (pc := 69) d_tr_play_69 rfl ?_
  refine e_aload_n (pc := 70) d_tr_play_70 rfl ?_
  refine e_get (pc := 71) d_tr_play_71 fl_tr_40 he rfl ?_
  refine e_callV (As := [.int (nI (p))]) (st := []) (cc2 := 0) (ss2 := 0) (pc := 74) d_tr_play_74 rfl cv_tr_45 hT.1 rfl (c_tr_dropNode htr hT h2) rfl (by decide) (by decide) (by omega) (by omega) (Nat.le_of_ble_eq_true rfl) (fun _ _ _ hq => nomatch hq.1) (fun r h2 N2 hq => ?_)
  obtain ⟨hr, e1, e2⟩ := hq
  cases hr
  rw [e1, e2]
  clear e1 e2
  show q_Ev l G m_tr_play 2 44 0 0 77 [some (.ref (t)), some (.ref (a))] [] _ N _
  refine e_goto (pc := 77) (tgt := 88) d_tr_play_77 (by decide) ?_
  exact e_vret (pc := 88) d_tr_play_88 rfl (⟨rfl, by rw [← tr_u3, ← tr_u2, tr_put_id hT], rfl⟩)
set_option maxHeartbeats 4000000 in
set_option maxRecDepth 100000 in
theorem c_tr_play_close {l : Launch} {G : q_G} (htr : l.stackTraces = false) {h : q_H} {N : Nat} {t : Nat} {dt vr ow nx : Nat → Int32} (hT : tr_At h t dt vr ow nx) {a p : Nat} {d o : Int32} {sq : Bool} (he : en_At h a 3 p d o sq) (hat : a < t + 1 ∨ t + 4 < a) : q_Met l G m_tr_play 2 44 0 0 [.ref (t), .ref (a)] h N (q_To none (tr_put h t dt (owdK vr ow o 259) (owdK ow ow o 259) nx) N) := by
  refine q_Met.mk htr (by decide +kernel) rfl (List.forall_mem_cons.mpr ⟨rfl, List.forall_mem_cons.mpr ⟨rfl, fun _ h => nomatch h⟩⟩) (Nat.le_of_ble_eq_true rfl) ?_
  refine e_aload_n (pc := 0) d_tr_play_0 rfl ?_
  refine e_get (pc := 1) d_tr_play_1 fl_tr_30 he rfl ?_
  refine e_tableOut (pc := 4) (tgt := 80) d_tr_play_4 (Or.inr (by decide)) (by decide) ?_
  refine e_aload_n (pc := 80) d_tr_play_80 rfl ?_
  refine e_aload_n (pc := 81) d_tr_play_81 rfl ?_
  refine e_get (pc := 82) d_tr_play_82 fl_tr_49 he rfl ?_
  refine e_callV (As := [.int (o)]) (st := []) (cc2 := 0) (ss2 := 0) (pc := 85) d_tr_play_85 rfl cv_tr_51 hT.1 rfl (c_tr_dropOwned htr hT) rfl (by decide) (by decide) (by omega) (by omega) (Nat.le_of_ble_eq_true rfl) (fun _ _ _ hq => nomatch hq.1) (fun r h2 N2 hq => ?_)
  obtain ⟨hr, e1, e2⟩ := hq
  cases hr
  rw [e1, e2]
  clear e1 e2
  show q_Ev l G m_tr_play 2 44 0 0 88 [some (.ref (t)), some (.ref (a))] [] _ N _
  exact e_vret (pc := 88) d_tr_play_88 rfl (⟨rfl, rfl, rfl⟩)
set_option maxHeartbeats 4000000 in
set_option maxRecDepth 100000 in
theorem c_tr_clear {l : Launch} {G : q_G} (htr : l.stackTraces = false) {h : q_H} {N : Nat} {t : Nat} {dt vr ow nx : Nat → Int32} (hT : tr_At h t dt vr ow nx) : q_Met l G m_tr_clear 1 23 0 0 [.ref (t)] h N (q_To none (tr_put h t (fillN dt 259 (nI 0)) (upd (fillN vr 259 (-1)) 0 (nI 0)) (fillN ow 259 (-1)) (fillN nx 43 (nI 0))) N) := by
  refine q_Met.mk htr (by decide +kernel) rfl (List.forall_mem_cons.mpr ⟨rfl, fun _ h => nomatch h⟩) (Nat.le_of_ble_eq_true rfl) ?_
  refine q_Ev.hp (tr_put_id hT) ?_
  refine e_aload_n (pc := 0) d_tr_clear_0 rfl ?_
  refine e_get (pc := 1) d_tr_clear_1 fl_tr_9 ((tr_gx (by omega)).trans hT.1) rfl ?_
  refine e_iconst (pc := 4) d_tr_clear_4 (v := (nI (0))) rfl ?_
  refine e_callS (As := [.ref (t + 1), .int (nI (0))]) (st := []) (cc2 := 0) (ss2 := 0) (pc := 5) d_tr_clear_5 rfl cs_tr_24 (c_ar_fill htr (v := nI 0) (by decide) tr_g1) rfl (by decide) (by decide) (by omega) (by omega) (Nat.le_of_ble_eq_true rfl) (fun _ _ _ hq => nomatch hq.1) (fun r h2 N2 hq => ?_)
  obtain ⟨hr, e1, e2⟩ := hq
  cases hr
  rw [e1, e2]
  clear e1 e2
  show q_Ev l G m_tr_clear 1 23 0 0 8 [some (.ref (t))] [] _ N _
  rw [tr_u1]
  refine e_aload_n (pc := 8) d_tr_clear_8 rfl ?_
  refine e_get (pc := 9) d_tr_clear_9 fl_tr_15 ((tr_gx (by omega)).trans hT.1) rfl ?_
  refine e_iconst (pc := 12) d_tr_clear_12 (v := (-1)) rfl ?_
  refine e_callS (As := [.ref (t + 2), .int (-1)]) (st := []) (cc2 := 0) (ss2 := 0) (pc := 13) d_tr_clear_13 rfl cs_tr_24 (c_ar_fill htr (v := -1) (by decide) tr_g2) rfl (by decide) (by decide) (by omega) (by omega) (Nat.le_of_ble_eq_true rfl) (fun _ _ _ hq => nomatch hq.1) (fun r h2 N2 hq => ?_)
  obtain ⟨hr, e1, e2⟩ := hq
  cases hr
  rw [e1, e2]
  clear e1 e2
  show q_Ev l G m_tr_clear 1 23 0 0 16 [some (.ref (t))] [] _ N _
  rw [tr_u2]
  refine e_aload_n (pc := 16) d_tr_clear_16 rfl ?_
  refine e_get (pc := 17) d_tr_clear_17 fl_tr_18 ((tr_gx (by omega)).trans hT.1) rfl ?_
  refine e_iconst (pc := 20) d_tr_clear_20 (v := (-1)) rfl ?_
  refine e_callS (As := [.ref (t + 3), .int (-1)]) (st := []) (cc2 := 0) (ss2 := 0) (pc := 21) d_tr_clear_21 rfl cs_tr_24 (c_ar_fill htr (v := -1) (by decide) tr_g3) rfl (by decide) (by decide) (by omega) (by omega) (Nat.le_of_ble_eq_true rfl) (fun _ _ _ hq => nomatch hq.1) (fun r h2 N2 hq => ?_)
  obtain ⟨hr, e1, e2⟩ := hq
  cases hr
  rw [e1, e2]
  clear e1 e2
  show q_Ev l G m_tr_clear 1 23 0 0 24 [some (.ref (t))] [] _ N _
  rw [tr_u3]
  refine e_aload_n (pc := 24) d_tr_clear_24 rfl ?_
  refine e_get (pc := 25) d_tr_clear_25 fl_tr_21 ((tr_gx (by omega)).trans hT.1) rfl ?_
  refine e_iconst (pc := 28) d_tr_clear_28 (v := (nI (0))) rfl ?_
  refine e_callS (As := [.ref (t + 4), .int (nI (0))]) (st := []) (cc2 := 0) (ss2 := 0) (pc := 29) d_tr_clear_29 rfl cs_tr_24 (c_ar_fill htr (v := nI 0) (by decide) tr_g4) rfl (by decide) (by decide) (by omega) (by omega) (Nat.le_of_ble_eq_true rfl) (fun _ _ _ hq => nomatch hq.1) (fun r h2 N2 hq => ?_)
  obtain ⟨hr, e1, e2⟩ := hq
  cases hr
  rw [e1, e2]
  clear e1 e2
  show q_Ev l G m_tr_clear 1 23 0 0 32 [some (.ref (t))] [] _ N _
  rw [tr_u4]
  refine e_aload_n (pc := 32) d_tr_clear_32 rfl ?_
  refine e_get (pc := 33) d_tr_clear_33 fl_tr_15 ((tr_gx (by omega)).trans hT.1) rfl ?_
  refine e_iconst (pc := 36) d_tr_clear_36 (v := (nI (0))) rfl ?_
  refine e_iconst (pc := 37) d_tr_clear_37 (v := (nI (0))) rfl ?_
  refine e_iastN (pc := 38) d_tr_clear_38 tr_g2 (by omega) (by decide) ?_
  rw [tr_u2]
  exact e_vret (pc := 39) d_tr_clear_39 rfl (⟨rfl, rfl, rfl⟩)
end
section
/-! SERVER and SESSION: clusters, and their small methods -/
section PE
variable {l : Launch} {G : q_G} {μ : q_M} {fr lo cc ss pc N : Nat} {lv : List (Option Value)} {st : List Value} {h : q_H} {Q : q_Q}
theorem e_putE {a ci k idx : Nat} {fs fs2 : List Value} {ty : FieldType} {v : Value} (d : decode μ.2.1 pc = .ok (.putfield idx, 3)) (hf : q_F μ.1.cls idx ci k ty false) (ha : h a = some (.inr (ci, fs))) (hl0 : k < fs.length) (hn : ∀ G : q_G, narrow ty (q_v G v) = q_v G v) (hft : ∀ G : q_G, fits ty (q_v G v) = true) (hs : fs.set k v = fs2) (kk : q_Ev l G μ fr lo cc ss (pc + 3) lv st (q_up h a (.inr (ci, fs2))) N Q) : q_Ev l G μ fr lo cc ss pc lv (v :: .ref a :: st) h N Q := e_put d hf ha hl0 hn hft (hs ▸ kk)
theorem e_putFE {a ci k idx : Nat} {fs fs2 : List Value} {ty : FieldType} {v : Value} (d : decode μ.2.1 pc = .ok (.putfield idx, 3)) (hf : q_F μ.1.cls idx ci k ty true) (hin : μ.1.name = "<init>") (hcl : (q_cl[ci]?).map (fun r => r.1) = some μ.1.cls) (ha : h a = some (.inr (ci, fs))) (hl0 : k < fs.length) (hn : ∀ G : q_G, narrow ty (q_v G v) = q_v G v) (hft : ∀ G : q_G, fits ty (q_v G v) = true) (hs : fs.set k v = fs2) (kk : q_Ev l G μ fr lo cc ss (pc + 3) lv st (q_up h a (.inr (ci, fs2))) N Q) : q_Ev l G μ fr lo cc ss pc lv (v :: .ref a :: st) h N Q := e_putF d hf hin hcl ha hl0 hn hft (hs ▸ kk)
end PE
abbrev ss_ob (s cn : Nat) (op du : Bool) (sv : Nat) (to he : Int32) : q_E := .inr (2, [.ref (s + 1), .ref (s + 2), .int (nI cn), .int (bI op), .int (bI du), .int (nI sv), .int to, .int he])
def ss_At (h : q_H) (s : Nat) (w ev : Nat → Int32) (cn : Nat) (op du : Bool) (sv : Nat) (to he : Int32) : Prop := h s = some (ss_ob s cn op du sv to he) ∧ h (s + 1) = some (q_ai 259 w) ∧ h (s + 2) = some (q_ai 8 ev)
def ss_put (h : q_H) (s : Nat) (w ev : Nat → Int32) (cn : Nat) (op du : Bool) (sv : Nat) (to he : Int32) : q_H := fun j => if j = s then some (ss_ob s cn op du sv to he) else if j = s + 1 then some (q_ai 259 w) else if j = s + 2 then some (q_ai 8 ev) else h j
section SP
variable {h : q_H} {s : Nat} {w ev w' ev' : Nat → Int32} {cn cn' sv sv' : Nat} {op du op' du' : Bool} {to he to' he' : Int32}
theorem ss_put_id (hT : ss_At h s w ev cn op du sv to he) : ss_put h s w ev cn op du sv to he = h := by
  funext j
  unfold ss_put
  split
  · next c => subst c; exact hT.1.symm
  · split
    · next c => subst c; exact hT.2.1.symm
    · split
      · next c => subst c; exact hT.2.2.symm
      · rfl
theorem ss_g0 : ss_put h s w ev cn op du sv to he s = some (ss_ob s cn op du sv to he) := if_pos rfl
theorem ss_g1 : ss_put h s w ev cn op du sv to he (s + 1) = some (q_ai 259 w) := by unfold ss_put; rw [if_neg (by omega), if_pos rfl]
theorem ss_g2 : ss_put h s w ev cn op du sv to he (s + 2) = some (q_ai 8 ev) := by unfold ss_put; rw [if_neg (by omega), if_neg (by omega), if_pos rfl]
theorem ss_gx {x : Nat} (hx : x < s ∨ s + 2 < x) : ss_put h s w ev cn op du sv to he x = h x := by unfold ss_put; rw [if_neg (by omega), if_neg (by omega), if_neg (by omega)]
theorem ss_put_at : ss_At (ss_put h s w ev cn op du sv to he) s w ev cn op du sv to he := ⟨ss_g0, ss_g1, ss_g2⟩
theorem ss_u0 : q_up (ss_put h s w ev cn op du sv to he) s (ss_ob s cn' op' du' sv' to' he') = ss_put h s w ev cn' op' du' sv' to' he' := by
  funext j
  simp only [ss_put, q_up]
  (repeat' split) <;> first | rfl | (exfalso; omega)
theorem ss_u1 : q_up (ss_put h s w ev cn op du sv to he) (s + 1) (q_ai 259 w') = ss_put h s w' ev cn op du sv to he := by
  funext j
  simp only [ss_put, q_up]
  (repeat' split) <;> first | rfl | (exfalso; omega)
theorem ss_u2 : q_up (ss_put h s w ev cn op du sv to he) (s + 2) (q_ai 8 ev') = ss_put h s w ev' cn op du sv to he := by
  funext j
  simp only [ss_put, q_up]
  (repeat' split) <;> first | rfl | (exfalso; omega)
theorem ss_put_put : ss_put (ss_put h s w ev cn op du sv to he) s w' ev' cn' op' du' sv' to' he' = ss_put h s w' ev' cn' op' du' sv' to' he' := by
  funext j
  simp only [ss_put]
  (repeat' split) <;> first | rfl | (exfalso; omega)
end SP
abbrev sv_ob (s ln ap ag : Nat) (up al : Bool) : q_E := .inr (1, [.ref (s + 1), .ref (s + 2), .int (nI ln), .int (nI ap), .int (nI ag), .int (bI up), .int (bI al)])
def sv_At (h : q_H) (s : Nat) (lf : Nat → Option Nat) (ln ap ag : Nat) (up al : Bool) : Prop := h s = some (sv_ob s ln ap ag up al) ∧ h (s + 1) = some (q_ar 5 64 lf)
def sv_put (h : q_H) (s : Nat) (lf : Nat → Option Nat) (ln ap ag : Nat) (up al : Bool) : q_H := fun j => if j = s then some (sv_ob s ln ap ag up al) else if j = s + 1 then some (q_ar 5 64 lf) else h j
section VP
variable {h : q_H} {s : Nat} {lf lf' : Nat → Option Nat} {ln ap ag ln' ap' ag' : Nat} {up al up' al' : Bool}
theorem sv_put_id (hT : sv_At h s lf ln ap ag up al) : sv_put h s lf ln ap ag up al = h := by
  funext j
  unfold sv_put
  split
  · next c => subst c; exact hT.1.symm
  · split
    · next c => subst c; exact hT.2.symm
    · rfl
theorem sv_g0 : sv_put h s lf ln ap ag up al s = some (sv_ob s ln ap ag up al) := if_pos rfl
theorem sv_g1 : sv_put h s lf ln ap ag up al (s + 1) = some (q_ar 5 64 lf) := by unfold sv_put; rw [if_neg (by omega), if_pos rfl]
theorem sv_gx {x : Nat} (hx : x < s ∨ s + 1 < x) : sv_put h s lf ln ap ag up al x = h x := by unfold sv_put; rw [if_neg (by omega), if_neg (by omega)]
theorem sv_put_at : sv_At (sv_put h s lf ln ap ag up al) s lf ln ap ag up al := ⟨sv_g0, sv_g1⟩
theorem sv_u0 : q_up (sv_put h s lf ln ap ag up al) s (sv_ob s ln' ap' ag' up' al') = sv_put h s lf ln' ap' ag' up' al' := by
  funext j
  simp only [sv_put, q_up]
  (repeat' split) <;> first | rfl | (exfalso; omega)
theorem sv_u1 : q_up (sv_put h s lf ln ap ag up al) (s + 1) (q_ar 5 64 lf') = sv_put h s lf' ln ap ag up al := by
  funext j
  simp only [sv_put, q_up]
  (repeat' split) <;> first | rfl | (exfalso; omega)
theorem sv_put_put : sv_put (sv_put h s lf ln ap ag up al) s lf' ln' ap' ag' up' al' = sv_put h s lf' ln' ap' ag' up' al' := by
  funext j
  simp only [sv_put]
  (repeat' split) <;> first | rfl | (exfalso; omega)
end VP
set_option maxHeartbeats 4000000 in
set_option maxRecDepth 100000 in
theorem c_sv_isOnline {l : Launch} {G : q_G} (htr : l.stackTraces = false) {h : q_H} {N : Nat} {s : Nat} {lf : Nat → Option Nat} {ln ap ag : Nat} {up al : Bool} (hV : sv_At h s lf ln ap ag up al) : q_Met l G m_sv_isOnline 0 0 0 0 [.ref (s)] h N (q_Id (some (.int (bI (up && !al)))) h N) := by
  refine q_Met.mk htr (by decide +kernel) rfl (List.forall_mem_cons.mpr ⟨rfl, fun _ h => nomatch h⟩) (Nat.le_of_ble_eq_true rfl) ?_
  refine e_aload_n (pc := 0) d_sv_isOnline_0 rfl ?_
  refine e_get (pc := 1) d_sv_isOnline_1 fl_sv_34 hV.1 rfl ?_
  refine e_ifB_eq (pc := 4) (tgt := 18) d_sv_isOnline_4 (by decide) (fun c => ?_) (fun c => ?_)
  · refine e_iconst (pc := 18) d_sv_isOnline_18 (v := (bI (false))) rfl ?_
    exact e_retB (pc := 19) d_sv_isOnline_19 rfl (⟨by rw [c]; rfl, rfl, rfl⟩)
  · refine e_aload_n (pc := 7) d_sv_isOnline_7 rfl ?_
    refine e_get (pc := 8) d_sv_isOnline_8 fl_sv_38 hV.1 rfl ?_
    refine e_ifB_ne (pc := 11) (tgt := 18) d_sv_isOnline_11 (by decide) (fun c2 => ?_) (fun c2 => ?_)
    · refine e_iconst (pc := 18) d_sv_isOnline_18 (v := (bI (false))) rfl ?_
      exact e_retB (pc := 19) d_sv_isOnline_19 rfl (⟨by rw [c, c2]; rfl, rfl, rfl⟩)
    · refine e_iconst (pc := 14) d_sv_isOnline_14 (v := (bI (true))) rfl ?_
      refine e_goto (pc := 15) (tgt := 19) d_sv_isOnline_15 (by decide) ?_
      exact e_retB (pc := 19) d_sv_isOnline_19 rfl (⟨by rw [c, c2]; rfl, rfl, rfl⟩)
set_option maxHeartbeats 4000000 in
set_option maxRecDepth 100000 in
theorem c_sv_leadsBefore {l : Launch} {G : q_G} (htr : l.stackTraces = false) {h : q_H} {N : Nat} {s : Nat} {lf : Nat → Option Nat} {ln ap ag : Nat} {up al : Bool} (hV : sv_At h s lf ln ap ag up al) {s2 : Nat} {lf2 : Nat → Option Nat} {ln2 ap2 ag2 : Nat} {up2 al2 : Bool} (hV2 : sv_At h s2 lf2 ln2 ap2 ag2 up2 al2) (b1 : ag < 2 ^ 31) (b2 : ag2 < 2 ^ 31) (b3 : ln < 2 ^ 31) (b4 : ln2 < 2 ^ 31) : q_Met l G m_sv_leadsBefore 0 0 0 0 [.ref (s), .ref (s2)] h N (q_Id (some (.int (bI (decide (ag2 < ag ∨ ag = ag2 ∧ ln2 < ln))))) h N) := by
  refine q_Met.mk htr (by decide +kernel) rfl (List.forall_mem_cons.mpr ⟨rfl, List.forall_mem_cons.mpr ⟨rfl, fun _ h => nomatch h⟩⟩) (Nat.le_of_ble_eq_true rfl) ?_
  refine e_aload_n (pc := 0) d_sv_leadsBefore_0 rfl ?_
  refine e_get (pc := 1) d_sv_leadsBefore_1 fl_sv_31 hV.1 rfl ?_
  refine e_aload_n (pc := 4) d_sv_leadsBefore_4 rfl ?_
  refine e_get (pc := 5) d_sv_leadsBefore_5 fl_sv_31 hV2.1 rfl ?_
  refine e_icmp_gtN (pc := 8) (tgt := 33) d_sv_leadsBefore_8 (by decide) (by omega) (by omega) (fun c => ?_) (fun c => ?_)
  · refine e_iconst (pc := 33) d_sv_leadsBefore_33 (v := (bI (true))) rfl ?_
    refine e_goto (pc := 34) (tgt := 38) d_sv_leadsBefore_34 (by decide) ?_
    exact e_retB (pc := 38) d_sv_leadsBefore_38 rfl (⟨by rw [decide_eq_true (Or.inl c)], rfl, rfl⟩)
  · refine e_aload_n (pc := 11) d_sv_leadsBefore_11 rfl ?_
    refine e_get (pc := 12) d_sv_leadsBefore_12 fl_sv_31 hV.1 rfl ?_
    refine e_aload_n (pc := 15) d_sv_leadsBefore_15 rfl ?_
    refine e_get (pc := 16) d_sv_leadsBefore_16 fl_sv_31 hV2.1 rfl ?_
    refine e_icmp_neN (pc := 19) (tgt := 37) d_sv_leadsBefore_19 (by decide) (by omega) (by omega) (fun c2 => ?_) (fun c2 => ?_)
    · refine e_iconst (pc := 37) d_sv_leadsBefore_37 (v := (bI (false))) rfl ?_
      exact e_retB (pc := 38) d_sv_leadsBefore_38 rfl (⟨by rw [decide_eq_false (by omega)], rfl, rfl⟩)
    · refine e_aload_n (pc := 22) d_sv_leadsBefore_22 rfl ?_
      refine e_get (pc := 23) d_sv_leadsBefore_23 fl_sv_24 hV.1 rfl ?_
      refine e_aload_n (pc := 26) d_sv_leadsBefore_26 rfl ?_
      refine e_get (pc := 27) d_sv_leadsBefore_27 fl_sv_24 hV2.1 rfl ?_
      refine e_icmp_leN (pc := 30) (tgt := 37) d_sv_leadsBefore_30 (by decide) (by omega) (by omega) (fun c3 => ?_) (fun c3 => ?_)
      · refine e_iconst (pc := 37) d_sv_leadsBefore_37 (v := (bI (false))) rfl ?_
        exact e_retB (pc := 38) d_sv_leadsBefore_38 rfl (⟨by rw [decide_eq_false (by omega)], rfl, rfl⟩)
      · refine e_iconst (pc := 33) d_sv_leadsBefore_33 (v := (bI (true))) rfl ?_
        refine e_goto (pc := 34) (tgt := 38) d_sv_leadsBefore_34 (by decide) ?_
        exact e_retB (pc := 38) d_sv_leadsBefore_38 rfl (⟨by rw [decide_eq_true (by omega)], rfl, rfl⟩)
set_option maxHeartbeats 4000000 in
set_option maxRecDepth 100000 in
theorem c_sv_append {l : Launch} {G : q_G} (htr : l.stackTraces = false) {h : q_H} {N : Nat} {s : Nat} {lf : Nat → Option Nat} {ln ap ag : Nat} {up al : Bool} (hV : sv_At h s lf ln ap ag up al) {a : Nat} {vs : List Value} (ha : h a = some (.inr (0, vs))) (hx : a < s ∨ s + 1 < a) (hl : ln < 64) : q_Met l G m_sv_append 0 0 0 0 [.ref (s), .ref (a)] h N (q_To none (sv_put h s (va_up lf ln (some a)) (ln + 1) ap ag up al) N) := by
  refine q_Met.mk htr (by decide +kernel) rfl (List.forall_mem_cons.mpr ⟨rfl, List.forall_mem_cons.mpr ⟨rfl, fun _ h => nomatch h⟩⟩) (Nat.le_of_ble_eq_true rfl) ?_
  refine q_Ev.hp (sv_put_id hV) ?_
  refine e_aload_n (pc := 0) d_sv_append_0 rfl ?_
  refine e_get (pc := 1) d_sv_append_1 fl_sv_24 sv_g0 rfl ?_
  refine e_bipush (pc := 4) d_sv_append_4 (v := (nI (64))) rfl ?_
  refine e_icmp_geN (pc := 6) (tgt := 29) d_sv_append_6 (by decide) (by omega) (by omega) (fun c => ?_) (fun c => ?_)
  · omega
  · refine e_aload_n (pc := 9) d_sv_append_9 rfl ?_
    refine e_get (pc := 10) d_sv_append_10 fl_sv_11 sv_g0 rfl ?_
    refine e_aload_n (pc := 13) d_sv_append_13 rfl ?_
    refine e_get (pc := 14) d_sv_append_14 fl_sv_24 sv_g0 rfl ?_
    refine e_aload_n (pc := 17) d_sv_append_17 rfl ?_
    refine e_aastN (pc := 18) d_sv_append_18 sv_g1 ((sv_gx hx).trans ha) rfl (fun _ => rfl) (by omega) (by decide) ?_
    rw [sv_u1]
    refine e_aload_n (pc := 19) d_sv_append_19 rfl ?_
    refine e_dup (pc := 20) d_sv_append_20 rfl ?_
    refine e_get (pc := 21) d_sv_append_21 fl_sv_24 sv_g0 rfl ?_
    refine e_iconst (pc := 24) d_sv_append_24 (v := (nI (1))) rfl ?_
    refine e_iaddN (pc := 25) d_sv_append_25  ?_
    refine e_putE (pc := 26) d_sv_append_26 (fs2 := [.ref (s + 1), .ref (s + 2), .int (nI ((ln) + (1))), .int (nI (ap)), .int (nI (ag)), .int (bI (up)), .int (bI (al))]) fl_sv_24 sv_g0 (Nat.le_of_ble_eq_true rfl) (fun _ => rfl) (fun _ => rfl) rfl ?_
    rw [sv_u0]
    exact e_vret (pc := 29) d_sv_append_29 rfl (⟨rfl, rfl, rfl⟩)
set_option maxHeartbeats 4000000 in
set_option maxRecDepth 100000 in
theorem c_ss_standing {l : Launch} {G : q_G} (htr : l.stackTraces = false) {h : q_H} {N : Nat} {s : Nat} {w ev : Nat → Int32} {cn : Nat} {op du : Bool} {sv : Nat} {to he : Int32} (hS : ss_At h s w ev cn op du sv to he) : q_Met l G m_ss_standing 0 0 0 0 [.ref (s)] h N (q_Id (some (.int (nI (if op then 1 else if du then 2 else 0)))) h N) := by
  refine q_Met.mk htr (by decide +kernel) rfl (List.forall_mem_cons.mpr ⟨rfl, fun _ h => nomatch h⟩) (Nat.le_of_ble_eq_true rfl) ?_
  refine e_aload_n (pc := 0) d_ss_standing_0 rfl ?_
  refine e_get (pc := 1) d_ss_standing_1 fl_ss_22 hS.1 rfl ?_
  refine e_ifB_eq (pc := 4) (tgt := 11) d_ss_standing_4 (by decide) (fun c => ?_) (fun c => ?_)
  · refine e_aload_n (pc := 11) d_ss_standing_11 rfl ?_
    refine e_get (pc := 12) d_ss_standing_12 fl_ss_26 hS.1 rfl ?_
    refine e_ifB_eq (pc := 15) (tgt := 22) d_ss_standing_15 (by decide) (fun c2 => ?_) (fun c2 => ?_)
    · refine e_iconst (pc := 22) d_ss_standing_22 (v := (nI (0))) rfl ?_
      exact e_iret (pc := 23) d_ss_standing_23 rfl (⟨by simp [c, c2], rfl, rfl⟩)
    · refine e_iconst (pc := 18) d_ss_standing_18 (v := (nI (2))) rfl ?_
      refine e_goto (pc := 19) (tgt := 23) d_ss_standing_19 (by decide) ?_
      exact e_iret (pc := 23) d_ss_standing_23 rfl (⟨by simp [c, c2], rfl, rfl⟩)
  · refine e_iconst (pc := 7) d_ss_standing_7 (v := (nI (1))) rfl ?_
    refine e_goto (pc := 8) (tgt := 23) d_ss_standing_8 (by decide) ?_
    exact e_iret (pc := 23) d_ss_standing_23 rfl (⟨by simp [c], rfl, rfl⟩)
set_option maxHeartbeats 4000000 in
set_option maxRecDepth 100000 in
theorem c_ss_start {l : Launch} {G : q_G} (htr : l.stackTraces = false) {h : q_H} {N : Nat} {s : Nat} {w ev : Nat → Int32} {cn : Nat} {op du : Bool} {sv : Nat} {to he : Int32} (hS : ss_At h s w ev cn op du sv to he) {sv2 : Nat} {to2 he2 : Int32} : q_Met l G m_ss_start 0 0 0 0 [.ref (s), .int (nI (sv2)), .int (to2), .int (he2)] h N (q_To none (ss_put h s w ev cn true du sv2 to2 he2) N) := by
  refine q_Met.mk htr (by decide +kernel) rfl (List.forall_mem_cons.mpr ⟨rfl, List.forall_mem_cons.mpr ⟨rfl, List.forall_mem_cons.mpr ⟨rfl, List.forall_mem_cons.mpr ⟨rfl, fun _ h => nomatch h⟩⟩⟩⟩) (Nat.le_of_ble_eq_true rfl) ?_
  refine q_Ev.hp (ss_put_id hS) ?_
  refine e_aload_n (pc := 0) d_ss_start_0 rfl ?_
  refine e_iconst (pc := 1) d_ss_start_1 (v := (bI (true))) rfl ?_
  refine e_putE (pc := 2) d_ss_start_2 (fs2 := [.ref (s + 1), .ref (s + 2), .int (nI (cn)), .int (bI (true)), .int (bI (du)), .int (nI (sv)), .int (to), .int (he)]) fl_ss_22 ss_g0 (Nat.le_of_ble_eq_true rfl) (fun _ => bI_nar _) (fun _ => by first | rfl | (cases (true : Bool) <;> rfl)) rfl ?_
  rw [ss_u0]
  refine e_aload_n (pc := 5) d_ss_start_5 rfl ?_
  refine e_iload_n (pc := 6) d_ss_start_6 rfl ?_
  refine e_putE (pc := 7) d_ss_start_7 (fs2 := [.ref (s + 1), .ref (s + 2), .int (nI (cn)), .int (bI (true)), .int (bI (du)), .int (nI (sv2)), .int (to), .int (he)]) fl_ss_29 ss_g0 (Nat.le_of_ble_eq_true rfl) (fun _ => rfl) (fun _ => rfl) rfl ?_
  rw [ss_u0]
  refine e_aload_n (pc := 10) d_ss_start_10 rfl ?_
  refine e_iload_n (pc := 11) d_ss_start_11 rfl ?_
  refine e_putE (pc := 12) d_ss_start_12 (fs2 := [.ref (s + 1), .ref (s + 2), .int (nI (cn)), .int (bI (true)), .int (bI (du)), .int (nI (sv2)), .int (to2), .int (he)]) fl_ss_32 ss_g0 (Nat.le_of_ble_eq_true rfl) (fun _ => rfl) (fun _ => rfl) rfl ?_
  rw [ss_u0]
  refine e_aload_n (pc := 15) d_ss_start_15 rfl ?_
  refine e_iload_n (pc := 16) d_ss_start_16 rfl ?_
  refine e_putE (pc := 17) d_ss_start_17 (fs2 := [.ref (s + 1), .ref (s + 2), .int (nI (cn)), .int (bI (true)), .int (bI (du)), .int (nI (sv2)), .int (to2), .int (he2)]) fl_ss_35 ss_g0 (Nat.le_of_ble_eq_true rfl) (fun _ => rfl) (fun _ => rfl) rfl ?_
  rw [ss_u0]
  exact e_vret (pc := 20) d_ss_start_20 rfl (⟨rfl, rfl, rfl⟩)
set_option maxHeartbeats 4000000 in
set_option maxRecDepth 100000 in
theorem c_ss_dropWatches {l : Launch} {G : q_G} (htr : l.stackTraces = false) {h : q_H} {N : Nat} {s : Nat} {w ev : Nat → Int32} {cn : Nat} {op du : Bool} {sv : Nat} {to he : Int32} (hS : ss_At h s w ev cn op du sv to he) : q_Met l G m_ss_dropWatches 1 23 0 0 [.ref (s)] h N (q_To none (ss_put h s (fillN w 259 (nI 0)) ev cn op du sv to he) N) := by
  refine q_Met.mk htr (by decide +kernel) rfl (List.forall_mem_cons.mpr ⟨rfl, fun _ h => nomatch h⟩) (Nat.le_of_ble_eq_true rfl) ?_
  refine e_aload_n (pc := 0) d_ss_dropWatches_0 rfl ?_
  refine e_get (pc := 1) d_ss_dropWatches_1 fl_ss_9 hS.1 rfl ?_
  refine e_iconst (pc := 4) d_ss_dropWatches_4 (v := (nI (0))) rfl ?_
  refine e_callS (As := [.ref (s + 1), .int (nI (0))]) (st := []) (cc2 := 0) (ss2 := 0) (pc := 5) d_ss_dropWatches_5 rfl cs_ss_41 (c_ar_fill htr (v := nI 0) (by decide) hS.2.1) rfl (by decide) (by decide) (by omega) (by omega) (Nat.le_of_ble_eq_true rfl) (fun _ _ _ hq => nomatch hq.1) (fun r h2 N2 hq => ?_)
  obtain ⟨hr, e1, e2⟩ := hq
  cases hr
  rw [e1, e2]
  clear e1 e2
  show q_Ev l G m_ss_dropWatches 1 23 0 0 8 [some (.ref (s))] [] _ N _
  exact e_vret (pc := 8) d_ss_dropWatches_8 rfl (⟨rfl, by rw [← ss_u1, ss_put_id hS], rfl⟩)
set_option maxHeartbeats 4000000 in
set_option maxRecDepth 100000 in
theorem c_ss_end {l : Launch} {G : q_G} (htr : l.stackTraces = false) {h : q_H} {N : Nat} {s : Nat} {w ev : Nat → Int32} {cn : Nat} {op du : Bool} {sv : Nat} {to he : Int32} (hS : ss_At h s w ev cn op du sv to he) : q_Met l G m_ss_end 2 43 0 0 [.ref (s)] h N (q_To none (ss_put h s (fillN w 259 (nI 0)) ev 0 false true sv to he) N) := by
  refine q_Met.mk htr (by decide +kernel) rfl (List.forall_mem_cons.mpr ⟨rfl, fun _ h => nomatch h⟩) (Nat.le_of_ble_eq_true rfl) ?_
  refine q_Ev.hp (ss_put_id hS) ?_
  refine e_aload_n (pc := 0) d_ss_end_0 rfl ?_
  refine e_iconst (pc := 1) d_ss_end_1 (v := (bI (false))) rfl ?_
  refine e_putE (pc := 2) d_ss_end_2 (fs2 := [.ref (s + 1), .ref (s + 2), .int (nI (cn)), .int (bI (false)), .int (bI (du)), .int (nI (sv)), .int (to), .int (he)]) fl_ss_22 ss_g0 (Nat.le_of_ble_eq_true rfl) (fun _ => bI_nar _) (fun _ => by first | rfl | (cases (false : Bool) <;> rfl)) rfl ?_
  rw [ss_u0]
  refine e_aload_n (pc := 5) d_ss_end_5 rfl ?_
  refine e_iconst (pc := 6) d_ss_end_6 (v := (bI (true))) rfl ?_
  refine e_putE (pc := 7) d_ss_end_7 (fs2 := [.ref (s + 1), .ref (s + 2), .int (nI (cn)), .int (bI (false)), .int (bI (true)), .int (nI (sv)), .int (to), .int (he)]) fl_ss_26 ss_g0 (Nat.le_of_ble_eq_true rfl) (fun _ => bI_nar _) (fun _ => by first | rfl | (cases (true : Bool) <;> rfl)) rfl ?_
  rw [ss_u0]
  refine e_aload_n (pc := 10) d_ss_end_10 rfl ?_
  refine e_iconst (pc := 11) d_ss_end_11 (v := (nI (0))) rfl ?_
  refine e_putE (pc := 12) d_ss_end_12 (fs2 := [.ref (s + 1), .ref (s + 2), .int (nI (0)), .int (bI (false)), .int (bI (true)), .int (nI (sv)), .int (to), .int (he)]) fl_ss_18 ss_g0 (Nat.le_of_ble_eq_true rfl) (fun _ => rfl) (fun _ => rfl) rfl ?_
  rw [ss_u0]
  refine e_aload_n (pc := 15) d_ss_end_15 rfl ?_
  refine e_callV (As := []) (st := []) (cc2 := 0) (ss2 := 0) (pc := 16) d_ss_end_16 rfl cv_ss_38 ss_g0 rfl (c_ss_dropWatches htr ss_put_at) rfl (by decide) (by decide) (by omega) (by omega) (Nat.le_of_ble_eq_true rfl) (fun _ _ _ hq => nomatch hq.1) (fun r h2 N2 hq => ?_)
  obtain ⟨hr, e1, e2⟩ := hq
  cases hr
  rw [e1, e2]
  clear e1 e2
  show q_Ev l G m_ss_end 2 43 0 0 19 [some (.ref (s))] [] _ N _
  exact e_vret (pc := 19) d_ss_end_19 rfl (⟨rfl, ss_put_put, rfl⟩)
set_option maxHeartbeats 4000000 in
set_option maxRecDepth 100000 in
theorem c_ss_watch {l : Launch} {G : q_G} (htr : l.stackTraces = false) {h : q_H} {N : Nat} {s : Nat} {w ev : Nat → Int32} {cn : Nat} {op du : Bool} {sv : Nat} {to he : Int32} (hS : ss_At h s w ev cn op du sv to he) {p : Nat} {k : Int32} (hp : p < 259) : q_Met l G m_ss_watch 0 0 0 0 [.ref (s), .int (nI (p)), .int (k)] h N (q_To none (ss_put h s (upd w p (w p ||| k)) ev cn op du sv to he) N) := by
  refine q_Met.mk htr (by decide +kernel) rfl (List.forall_mem_cons.mpr ⟨rfl, List.forall_mem_cons.mpr ⟨rfl, List.forall_mem_cons.mpr ⟨rfl, fun _ h => nomatch h⟩⟩⟩) (Nat.le_of_ble_eq_true rfl) ?_
  refine q_Ev.hp (ss_put_id hS) ?_
  refine e_aload_n (pc := 0) d_ss_watch_0 rfl ?_
  refine e_get (pc := 1) d_ss_watch_1 fl_ss_9 ss_g0 rfl ?_
  refine e_iload_n (pc := 4) d_ss_watch_4 rfl ?_
  refine e_dup2 (pc := 5) d_ss_watch_5 rfl rfl ?_
  refine e_ialdN (pc := 6) d_ss_watch_6 ss_g1 (by omega) (by decide) ?_
  refine e_iload_n (pc := 7) d_ss_watch_7 rfl ?_
  refine e_ior (pc := 8) d_ss_watch_8  ?_
  refine e_iastN (pc := 9) d_ss_watch_9 ss_g1 (by omega) (by decide) ?_
  rw [ss_u1]
  exact e_vret (pc := 10) d_ss_watch_10 rfl (⟨rfl, rfl, rfl⟩)
end
section
/-! SERVER.follow; SESSION: telling, hearing, taking events; ENTRY's constructor -/
def cpL (f g : Nat → Option Nat) (k : Nat) : Nat → Option Nat := fun i => if i < k then f i else g i
theorem cpL_0 (f g : Nat → Option Nat) : cpL f g 0 = g := by funext i; simp [cpL]
theorem cpL_s {f g : Nat → Option Nat} {k x : Nat} (hx : f k = some x) : va_up (cpL f g k) k (some x) = cpL f g (k + 1) := by
  funext i
  by_cases c : i = k
  · subst c; simp [va_up, cpL, hx]
  · have : i < k + 1 ↔ i < k := by omega
    simp [va_up, cpL, c, this]
theorem va_up_id {f : Nat → Option Nat} {k x : Nat} (hx : f k = some x) : va_up f k (some x) = f := by
  funext i
  by_cases c : i = k
  · subst c; simp [va_up, hx]
  · simp [va_up, c]
/-- a session's watches, events and their number -/
abbrev wS : Type := (Nat → Int32) × (Nat → Int32) × Nat
/-- tellWatches(p, tl, kd) -/
def tw1 (p : Nat) (tl : Int32) (kd : Nat) (X : wS) : wS := if (X.1 p &&& tl) = 0 then X else (upd X.1 p (X.1 p &&& (tl ^^^ (-1))), if X.2.2 < 8 then (upd X.2.1 X.2.2 (nI (kd * 300 + p)), X.2.2 + 1) else X.2)
/-- tellOf(p, kd) -/
def toS (kd p : Nat) (X : wS) : wS := if kd = 2 then tw1 p (nI 1) 2 X else tw1 ((p - 1) / 6) (nI 2) 4 (tw1 p (if kd = 3 then nI 3 else nI 1) kd X)
/-- hearing a CLOSE, of the paths below k -/
def hrK (ow : Nat → Int32) (o : Int32) : Nat → wS → wS
  | 0, X => X
  | k + 1, X => if 1 ≤ k ∧ ow k = o then toS 3 k (hrK ow o k X) else hrK ow o k X
theorem tw1_8 {p : Nat} {tl : Int32} {kd : Nat} {X : wS} (h : X.2.2 ≤ 8) : (tw1 p tl kd X).2.2 ≤ 8 := by
  unfold tw1
  split
  · exact h
  · dsimp only
    split
    · dsimp only; omega
    · exact h
theorem toS_8 {kd p : Nat} {X : wS} (h : X.2.2 ≤ 8) : (toS kd p X).2.2 ≤ 8 := by
  unfold toS
  split
  · exact tw1_8 h
  · exact tw1_8 (tw1_8 h)
theorem hrK_8 {ow : Nat → Int32} {o : Int32} {X : wS} (h : X.2.2 ≤ 8) : ∀ k, (hrK ow o k X).2.2 ≤ 8 := by
  intro k
  induction k with
  | zero => exact h
  | succ k ih =>
    unfold hrK
    split
    · exact toS_8 ih
    · exact ih
def shK (ev : Nat → Int32) (k : Nat) : Nat → Int32 := fun j => if j + 1 < k then ev (j + 1) else ev j
theorem shK_1 (ev : Nat → Int32) : shK ev 1 = ev := by funext j; simp [shK]
theorem shK_at (ev : Nat → Int32) (k : Nat) : shK ev k k = ev k := by unfold shK; rw [if_neg (by omega)]
theorem shK_s {ev : Nat → Int32} {k : Nat} (hk : 1 ≤ k) : upd (shK ev k) (k - 1) (ev k) = shK ev (k + 1) := by
  funext j
  by_cases c : j = k - 1
  · subst c
    have : k - 1 + 1 = k := by omega
    simp [upd, shK, this]
  · have : j + 1 < k + 1 ↔ j + 1 < k := by omega
    simp only [upd, shK, c, if_false, this]
set_option maxHeartbeats 4000000 in
set_option maxRecDepth 100000 in
theorem lp_sv_follow {l : Launch} {G : q_G} {h : q_H} {N : Nat} {s : Nat} {lf : Nat → Option Nat} {ln ap ag : Nat} {up al : Bool} {s2 : Nat} {lf2 : Nat → Option Nat} {ln2 ap2 ag2 : Nat} {up2 al2 : Bool} (hV2 : sv_At h s2 lf2 ln2 ap2 ag2 up2 al2) (hd : s2 + 1 < s ∨ s + 1 < s2) (hl : ln2 ≤ 64) (hent : ∀ i, i < ln2 → ∃ (a : Nat) (vs : List Value), lf2 i = some a ∧ h a = some (.inr (0, vs)) ∧ (a < s ∨ s + 1 < a)) {na : Nat} : ∀ (g k : Nat), ln2 < k + g → k ≤ ln2 → q_Ev l G m_sv_follow 0 0 0 0 2 [some (.ref (s)), some (.ref (s2)), some (.int (nI (na))), some (.int (nI (k)))] [] (sv_put h s (cpL lf2 lf k) ln ap ag up al) N (q_To none (sv_put h s (cpL lf2 lf ln2) ln2 ap na up al) N) := by
  intro g
  induction g with
  | zero => intro k hg hk; omega
  | succ g ih =>
    intro k hg hk
    refine e_iload_n (pc := 2) d_sv_follow_2 rfl ?_
    refine e_aload_n (pc := 3) d_sv_follow_3 rfl ?_
    refine e_get (pc := 4) d_sv_follow_4 fl_sv_24 ((sv_gx (show s2 < s ∨ s + 1 < s2 by omega)).trans hV2.1) rfl ?_
    refine e_icmp_geN (pc := 7) (tgt := 28) d_sv_follow_7 (by decide) (by omega) (by omega) (fun c => ?_) (fun c => ?_)
    · have hkn : ln2 = k := by omega
      subst hkn
      refine e_aload_n (pc := 28) d_sv_follow_28 rfl ?_
      refine e_aload_n (pc := 29) d_sv_follow_29 rfl ?_
      refine e_get (pc := 30) d_sv_follow_30 fl_sv_24 ((sv_gx (show s2 < s ∨ s + 1 < s2 by omega)).trans hV2.1) rfl ?_
      refine e_putE (pc := 33) d_sv_follow_33 (fs2 := [.ref (s + 1), .ref (s + 2), .int (nI (ln2)), .int (nI (ap)), .int (nI (ag)), .int (bI (up)), .int (bI (al))]) fl_sv_24 sv_g0 (Nat.le_of_ble_eq_true rfl) (fun _ => rfl) (fun _ => rfl) rfl ?_
      rw [sv_u0]
      refine e_aload_n (pc := 36) d_sv_follow_36 rfl ?_
      refine e_iload_n (pc := 37) d_sv_follow_37 rfl ?_
      refine e_putE (pc := 38) d_sv_follow_38 (fs2 := [.ref (s + 1), .ref (s + 2), .int (nI (ln2)), .int (nI (ap)), .int (nI (na)), .int (bI (up)), .int (bI (al))]) fl_sv_31 sv_g0 (Nat.le_of_ble_eq_true rfl) (fun _ => rfl) (fun _ => rfl) rfl ?_
      rw [sv_u0]
      exact e_vret (pc := 41) d_sv_follow_41 rfl (⟨rfl, rfl, rfl⟩)
    · obtain ⟨x, vs, hx, hxo, hxd⟩ := hent k c
      refine e_aload_n (pc := 10) d_sv_follow_10 rfl ?_
      refine e_get (pc := 11) d_sv_follow_11 fl_sv_11 sv_g0 rfl ?_
      refine e_iload_n (pc := 14) d_sv_follow_14 rfl ?_
      refine e_aload_n (pc := 15) d_sv_follow_15 rfl ?_
      refine e_get (pc := 16) d_sv_follow_16 fl_sv_11 ((sv_gx (show s2 < s ∨ s + 1 < s2 by omega)).trans hV2.1) rfl ?_
      refine e_iload_n (pc := 19) d_sv_follow_19 rfl ?_
      refine e_aaldN (pc := 20) d_sv_follow_20 ((sv_gx (show s2 + 1 < s ∨ s + 1 < s2 + 1 by omega)).trans hV2.2) (fun _ => rfl) (by omega) (by decide) hx ?_
      refine e_aastN (pc := 21) d_sv_follow_21 sv_g1 ((sv_gx hxd).trans hxo) rfl (fun _ => rfl) (by omega) (by decide) ?_
      rw [sv_u1, cpL_s hx]
      refine e_iincN (pc := 22) d_sv_follow_22 (a := k) (b := 1) rfl rfl (by decide) ?_
      refine e_goto (pc := 25) (tgt := 2) d_sv_follow_25 (by decide) ?_
      exact ih (k + 1) (by omega) (by omega)
set_option maxHeartbeats 4000000 in
set_option maxRecDepth 100000 in
theorem c_sv_follow {l : Launch} {G : q_G} (htr : l.stackTraces = false) {h : q_H} {N : Nat} {s : Nat} {lf : Nat → Option Nat} {ln ap ag : Nat} {up al : Bool} (hV : sv_At h s lf ln ap ag up al) {s2 : Nat} {lf2 : Nat → Option Nat} {ln2 ap2 ag2 : Nat} {up2 al2 : Bool} (hV2 : sv_At h s2 lf2 ln2 ap2 ag2 up2 al2) (hd : s2 + 1 < s ∨ s + 1 < s2) (hl : ln2 ≤ 64) (hent : ∀ i, i < ln2 → ∃ (a : Nat) (vs : List Value), lf2 i = some a ∧ h a = some (.inr (0, vs)) ∧ (a < s ∨ s + 1 < a)) {na : Nat} : q_Met l G m_sv_follow 0 0 0 0 [.ref (s), .ref (s2), .int (nI (na))] h N (q_To none (sv_put h s (cpL lf2 lf ln2) ln2 ap na up al) N) := by
  refine q_Met.mk htr (by decide +kernel) rfl (List.forall_mem_cons.mpr ⟨rfl, List.forall_mem_cons.mpr ⟨rfl, List.forall_mem_cons.mpr ⟨rfl, fun _ h => nomatch h⟩⟩⟩) (Nat.le_of_ble_eq_true rfl) ?_
  refine e_iconst (pc := 0) d_sv_follow_0 (v := (nI (0))) rfl ?_
  refine e_istore_n (pc := 1) d_sv_follow_1 (by decide) ?_
  have := lp_sv_follow (l := l) (G := G) (N := N) (lf := lf) (ln := ln) (ap := ap) (ag := ag) (up := up) (al := al) (na := na) hV2 hd hl hent (ln2 + 1) 0 (by omega) (by omega)
  rw [cpL_0, sv_put_id hV] at this
  exact this
set_option maxHeartbeats 4000000 in
set_option maxRecDepth 100000 in
theorem lp_sv_follow1 {l : Launch} {G : q_G} {h : q_H} {N : Nat} {s : Nat} {lf : Nat → Option Nat} {ln ap ag : Nat} {up al : Bool} (hV : sv_At h s lf ln ap ag up al) (hl : ln ≤ 64) (hent : ∀ i, i < ln → ∃ (a : Nat) (vs : List Value), lf i = some a ∧ h a = some (.inr (0, vs))) {na : Nat} : ∀ (g k : Nat), ln < k + g → k ≤ ln → q_Ev l G m_sv_follow 0 0 0 0 2 [some (.ref (s)), some (.ref (s)), some (.int (nI (na))), some (.int (nI (k)))] [] h N (q_To none (sv_put h s lf ln ap na up al) N) := by
  intro g
  induction g with
  | zero => intro k hg hk; omega
  | succ g ih =>
    intro k hg hk
    refine e_iload_n (pc := 2) d_sv_follow_2 rfl ?_
    refine e_aload_n (pc := 3) d_sv_follow_3 rfl ?_
    refine e_get (pc := 4) d_sv_follow_4 fl_sv_24 hV.1 rfl ?_
    refine e_icmp_geN (pc := 7) (tgt := 28) d_sv_follow_7 (by decide) (by omega) (by omega) (fun c => ?_) (fun c => ?_)
    · have hkn : ln = k := by omega
      subst hkn
      refine q_Ev.hp (sv_put_id hV) ?_
      refine e_aload_n (pc := 28) d_sv_follow_28 rfl ?_
      refine e_aload_n (pc := 29) d_sv_follow_29 rfl ?_
      refine e_get (pc := 30) d_sv_follow_30 fl_sv_24 sv_g0 rfl ?_
      refine e_putE (pc := 33) d_sv_follow_33 (fs2 := [.ref (s + 1), .ref (s + 2), .int (nI (ln)), .int (nI (ap)), .int (nI (ag)), .int (bI (up)), .int (bI (al))]) fl_sv_24 sv_g0 (Nat.le_of_ble_eq_true rfl) (fun _ => rfl) (fun _ => rfl) rfl ?_
      rw [sv_u0]
      refine e_aload_n (pc := 36) d_sv_follow_36 rfl ?_
      refine e_iload_n (pc := 37) d_sv_follow_37 rfl ?_
      refine e_putE (pc := 38) d_sv_follow_38 (fs2 := [.ref (s + 1), .ref (s + 2), .int (nI (ln)), .int (nI (ap)), .int (nI (na)), .int (bI (up)), .int (bI (al))]) fl_sv_31 sv_g0 (Nat.le_of_ble_eq_true rfl) (fun _ => rfl) (fun _ => rfl) rfl ?_
      rw [sv_u0]
      exact e_vret (pc := 41) d_sv_follow_41 rfl (⟨rfl, rfl, rfl⟩)
    · obtain ⟨x, vs, hx, hxo⟩ := hent k c
      refine e_aload_n (pc := 10) d_sv_follow_10 rfl ?_
      refine e_get (pc := 11) d_sv_follow_11 fl_sv_11 hV.1 rfl ?_
      refine e_iload_n (pc := 14) d_sv_follow_14 rfl ?_
      refine e_aload_n (pc := 15) d_sv_follow_15 rfl ?_
      refine e_get (pc := 16) d_sv_follow_16 fl_sv_11 hV.1 rfl ?_
      refine e_iload_n (pc := 19) d_sv_follow_19 rfl ?_
      refine e_aaldN (pc := 20) d_sv_follow_20 hV.2 (fun _ => rfl) (by omega) (by decide) hx ?_
      refine e_aastN (pc := 21) d_sv_follow_21 hV.2 hxo rfl (fun _ => rfl) (by omega) (by decide) ?_
      rw [va_up_id hx, q_up_id hV.2]
      refine e_iincN (pc := 22) d_sv_follow_22 (a := k) (b := 1) rfl rfl (by decide) ?_
      refine e_goto (pc := 25) (tgt := 2) d_sv_follow_25 (by decide) ?_
      exact ih (k + 1) (by omega) (by omega)
set_option maxHeartbeats 4000000 in
set_option maxRecDepth 100000 in
theorem c_sv_follow1 {l : Launch} {G : q_G} (htr : l.stackTraces = false) {h : q_H} {N : Nat} {s : Nat} {lf : Nat → Option Nat} {ln ap ag : Nat} {up al : Bool} (hV : sv_At h s lf ln ap ag up al) (hl : ln ≤ 64) (hent : ∀ i, i < ln → ∃ (a : Nat) (vs : List Value), lf i = some a ∧ h a = some (.inr (0, vs))) {na : Nat} : q_Met l G m_sv_follow 0 0 0 0 [.ref (s), .ref (s), .int (nI (na))] h N (q_To none (sv_put h s lf ln ap na up al) N) := by
  refine q_Met.mk htr (by decide +kernel) rfl (List.forall_mem_cons.mpr ⟨rfl, List.forall_mem_cons.mpr ⟨rfl, List.forall_mem_cons.mpr ⟨rfl, fun _ h => nomatch h⟩⟩⟩) (Nat.le_of_ble_eq_true rfl) ?_
  refine e_iconst (pc := 0) d_sv_follow_0 (v := (nI (0))) rfl ?_
  refine e_istore_n (pc := 1) d_sv_follow_1 (by decide) ?_
  exact lp_sv_follow1 hV hl hent (ln + 1) 0 (by omega) (by omega)
set_option maxHeartbeats 4000000 in
set_option maxRecDepth 100000 in
theorem c_ss_tellWatches {l : Launch} {G : q_G} (htr : l.stackTraces = false) {h : q_H} {N : Nat} {s : Nat} {X : wS} {op du : Bool} {sv : Nat} {to he : Int32} (hS : ss_At h s X.1 X.2.1 X.2.2 op du sv to he) (h8 : X.2.2 ≤ 8) {p kd : Nat} {tl : Int32} (hp : p < 259) : q_Met l G m_ss_tellWatches 0 0 0 0 [.ref (s), .int (nI (p)), .int (tl), .int (nI (kd))] h N (q_To none (ss_put h s (tw1 p tl kd X).1 (tw1 p tl kd X).2.1 (tw1 p tl kd X).2.2 op du sv to he) N) := by
  refine q_Met.mk htr (by decide +kernel) rfl (List.forall_mem_cons.mpr ⟨rfl, List.forall_mem_cons.mpr ⟨rfl, List.forall_mem_cons.mpr ⟨rfl, List.forall_mem_cons.mpr ⟨rfl, fun _ h => nomatch h⟩⟩⟩⟩) (Nat.le_of_ble_eq_true rfl) ?_
  refine q_Ev.hp (ss_put_id hS) ?_
  refine e_aload_n (pc := 0) d_ss_tellWatches_0 rfl ?_
  refine e_get (pc := 1) d_ss_tellWatches_1 fl_ss_9 ss_g0 rfl ?_
  refine e_iload_n (pc := 4) d_ss_tellWatches_4 rfl ?_
  refine e_ialdN (pc := 5) d_ss_tellWatches_5 ss_g1 (by omega) (by decide) ?_
  refine e_iload_n (pc := 6) d_ss_tellWatches_6 rfl ?_
  refine e_iand (pc := 7) d_ss_tellWatches_7  ?_
  refine e_if_ne (pc := 8) (tgt := 12) d_ss_tellWatches_8 (by decide) (fun c => ?_) (fun c => ?_)
  · refine e_aload_n (pc := 12) d_ss_tellWatches_12 rfl ?_
    refine e_get (pc := 13) d_ss_tellWatches_13 fl_ss_9 ss_g0 rfl ?_
    refine e_iload_n (pc := 16) d_ss_tellWatches_16 rfl ?_
    refine e_dup2 (pc := 17) d_ss_tellWatches_17 rfl rfl ?_
    refine e_ialdN (pc := 18) d_ss_tellWatches_18 ss_g1 (by omega) (by decide) ?_
    refine e_iload_n (pc := 19) d_ss_tellWatches_19 rfl ?_
    refine e_iconst (pc := 20) d_ss_tellWatches_20 (v := (-1)) rfl ?_
    refine e_ixor (pc := 21) d_ss_tellWatches_21  ?_
    refine e_iand (pc := 22) d_ss_tellWatches_22  ?_
    refine e_iastN (pc := 23) d_ss_tellWatches_23 ss_g1 (by omega) (by decide) ?_
    rw [ss_u1]
    refine e_aload_n (pc := 24) d_ss_tellWatches_24 rfl ?_
    refine e_get (pc := 25) d_ss_tellWatches_25 fl_ss_18 ss_g0 rfl ?_
    refine e_bipush (pc := 28) d_ss_tellWatches_28 (v := (nI (8))) rfl ?_
    refine e_icmp_geN (pc := 30) (tgt := 59) d_ss_tellWatches_30 (by decide) (by omega) (by omega) (fun c2 => ?_) (fun c2 => ?_)
    · exact e_vret (pc := 59) d_ss_tellWatches_59 rfl (⟨rfl, by simp only [tw1, if_neg c, if_neg (show ¬ X.2.2 < 8 by omega)], rfl⟩)
    · refine e_aload_n (pc := 33) d_ss_tellWatches_33 rfl ?_
      refine e_get (pc := 34) d_ss_tellWatches_34 fl_ss_15 ss_g0 rfl ?_
      refine e_aload_n (pc := 37) d_ss_tellWatches_37 rfl ?_
      refine e_get (pc := 38) d_ss_tellWatches_38 fl_ss_18 ss_g0 rfl ?_
      refine e_iload_n (pc := 41) d_ss_tellWatches_41 rfl ?_
      refine e_sipush (pc := 42) d_ss_tellWatches_42 (v := (nI (300))) rfl ?_
      refine e_imulN (pc := 45) d_ss_tellWatches_45  ?_
      refine e_iload_n (pc := 46) d_ss_tellWatches_46 rfl ?_
      refine e_iaddN (pc := 47) d_ss_tellWatches_47  ?_
      refine e_iastN (pc := 48) d_ss_tellWatches_48 ss_g2 (by omega) (by decide) ?_
      rw [ss_u2]
      refine e_aload_n (pc := 49) d_ss_tellWatches_49 rfl ?_
      refine e_dup (pc := 50) d_ss_tellWatches_50 rfl ?_
      refine e_get (pc := 51) d_ss_tellWatches_51 fl_ss_18 ss_g0 rfl ?_
      refine e_iconst (pc := 54) d_ss_tellWatches_54 (v := (nI (1))) rfl ?_
      refine e_iaddN (pc := 55) d_ss_tellWatches_55  ?_
      refine e_putE (pc := 56) d_ss_tellWatches_56 (fs2 := [.ref (s + 1), .ref (s + 2), .int (nI ((X.2.2) + (1))), .int (bI (op)), .int (bI (du)), .int (nI (sv)), .int (to), .int (he)]) fl_ss_18 ss_g0 (Nat.le_of_ble_eq_true rfl) (fun _ => rfl) (fun _ => rfl) rfl ?_
      rw [ss_u0]
      exact e_vret (pc := 59) d_ss_tellWatches_59 rfl (⟨rfl, by simp only [tw1, if_neg c, if_pos c2], rfl⟩)
  · exact e_vret (pc := 11) d_ss_tellWatches_11 rfl (⟨rfl, by simp only [tw1, if_pos c], rfl⟩)
set_option maxHeartbeats 4000000 in
set_option maxRecDepth 100000 in
theorem c_ss_tellOf_1 {l : Launch} {G : q_G} (htr : l.stackTraces = false) {h : q_H} {N : Nat} {s : Nat} {X : wS} {op du : Bool} {sv : Nat} {to he : Int32} (hS : ss_At h s X.1 X.2.1 X.2.2 op du sv to he) (h8 : X.2.2 ≤ 8) {p : Nat} (hp : p < 259) (h1 : 1 ≤ p) : q_Met l G m_ss_tellOf 1 23 0 0 [.ref (s), .int (nI (p)), .int (nI (1))] h N (q_To none (ss_put h s (toS 1 p X).1 (toS 1 p X).2.1 (toS 1 p X).2.2 op du sv to he) N) := by
  refine q_Met.mk htr (by decide +kernel) rfl (List.forall_mem_cons.mpr ⟨rfl, List.forall_mem_cons.mpr ⟨rfl, List.forall_mem_cons.mpr ⟨rfl, fun _ h => nomatch h⟩⟩⟩) (Nat.le_of_ble_eq_true rfl) ?_
  refine e_aload_n (pc := 0) d_ss_tellOf_0 rfl ?_
  refine e_iload_n (pc := 1) d_ss_tellOf_1 rfl ?_
  refine e_iload_n (pc := 2) d_ss_tellOf_2 rfl ?_
  refine e_iconst (pc := 3) d_ss_tellOf_3 (v := (nI (3))) rfl ?_
  refine e_icmp_neN (pc := 4) (tgt := 11) d_ss_tellOf_4 (by decide) (by decide) (by decide) (fun _ => ?_) (fun c => absurd c (by decide))
  refine e_iconst (pc := 11) d_ss_tellOf_11 (v := (nI (1))) rfl ?_
  refine e_iload_n (pc := 12) d_ss_tellOf_12 rfl ?_
  refine e_callV (As := [.int (nI (p)), .int (nI 1), .int (nI (1))]) (st := []) (cc2 := 0) (ss2 := 0) (pc := 13) d_ss_tellOf_13 rfl cv_ss_66 hS.1 rfl (c_ss_tellWatches htr hS h8 (tl := nI 1) (kd := 1) hp) rfl (by decide) (by decide) (by omega) (by omega) (Nat.le_of_ble_eq_true rfl) (fun _ _ _ hq => nomatch hq.1) (fun r h2 N2 hq => ?_)
  obtain ⟨hr, e1, e2⟩ := hq
  cases hr
  rw [e1, e2]
  clear e1 e2
  show q_Ev l G m_ss_tellOf 1 23 0 0 16 [some (.ref (s)), some (.int (nI (p))), some (.int (nI (1)))] [] _ N _
  obtain ⟨Y, hY⟩ : ∃ Y : wS, Y = tw1 p (nI 1) 1 X := ⟨_, rfl⟩
  rw [← hY]
  have h8y : Y.2.2 ≤ 8 := by rw [hY]; exact tw1_8 h8
  have hSy : ss_At (ss_put h s (Y).1 (Y).2.1 (Y).2.2 op du sv to he) s Y.1 Y.2.1 Y.2.2 op du sv to he := ss_put_at
  refine e_iload_n (pc := 16) d_ss_tellOf_16 rfl ?_
  refine e_iconst (pc := 17) d_ss_tellOf_17 (v := (nI (2))) rfl ?_
  refine e_icmp_eqN (pc := 18) (tgt := 31) d_ss_tellOf_18 (by decide) (by decide) (by decide) (fun c => absurd c (by decide)) (fun _ => ?_)
  refine e_aload_n (pc := 21) d_ss_tellOf_21 rfl ?_
  refine e_iload_n (pc := 22) d_ss_tellOf_22 rfl ?_
  refine e_callSN (As := [.int (nI (p))]) (st := [.ref (s)]) (cc2 := 0) (ss2 := 0) (pc := 23) d_ss_tellOf_23 cn_ss_70 (c_zs_parentOf htr h1 (by omega)) rfl (by decide) (by decide) (by omega) (by omega) (Nat.le_of_ble_eq_true rfl) (fun _ _ _ hq => nomatch hq.1) (fun r h2 N2 hq => ?_)
  obtain ⟨hr, e1, e2⟩ := hq
  cases hr
  rw [e1, e2]
  clear e1 e2
  show q_Ev l G m_ss_tellOf 1 23 0 0 26 [some (.ref (s)), some (.int (nI (p))), some (.int (nI (1)))] [.int (nI ((p - 1) / 6)), .ref (s)] (ss_put h s (Y).1 (Y).2.1 (Y).2.2 op du sv to he) N _
  refine e_iconst (pc := 26) d_ss_tellOf_26 (v := (nI (2))) rfl ?_
  refine e_iconst (pc := 27) d_ss_tellOf_27 (v := (nI (4))) rfl ?_
  refine e_callV (As := [.int (nI ((p - 1) / 6)), .int (nI 2), .int (nI (4))]) (st := []) (cc2 := 0) (ss2 := 0) (pc := 28) d_ss_tellOf_28 rfl cv_ss_66 hSy.1 rfl (c_ss_tellWatches htr hSy h8y (tl := nI 2) (kd := 4) (p := (p - 1) / 6) (by omega)) rfl (by decide) (by decide) (by omega) (by omega) (Nat.le_of_ble_eq_true rfl) (fun _ _ _ hq => nomatch hq.1) (fun r h2 N2 hq => ?_)
  obtain ⟨hr, e1, e2⟩ := hq
  cases hr
  rw [e1, e2]
  clear e1 e2
  show q_Ev l G m_ss_tellOf 1 23 0 0 31 [some (.ref (s)), some (.int (nI (p))), some (.int (nI (1)))] [] _ N _
  exact e_vret (pc := 31) d_ss_tellOf_31 rfl (⟨rfl, by rw [ss_put_put, hY]; rfl, rfl⟩)
set_option maxHeartbeats 4000000 in
set_option maxRecDepth 100000 in
theorem c_ss_tellOf_2 {l : Launch} {G : q_G} (htr : l.stackTraces = false) {h : q_H} {N : Nat} {s : Nat} {X : wS} {op du : Bool} {sv : Nat} {to he : Int32} (hS : ss_At h s X.1 X.2.1 X.2.2 op du sv to he) (h8 : X.2.2 ≤ 8) {p : Nat} (hp : p < 259) : q_Met l G m_ss_tellOf 1 23 0 0 [.ref (s), .int (nI (p)), .int (nI (2))] h N (q_To none (ss_put h s (toS 2 p X).1 (toS 2 p X).2.1 (toS 2 p X).2.2 op du sv to he) N) := by
  refine q_Met.mk htr (by decide +kernel) rfl (List.forall_mem_cons.mpr ⟨rfl, List.forall_mem_cons.mpr ⟨rfl, List.forall_mem_cons.mpr ⟨rfl, fun _ h => nomatch h⟩⟩⟩) (Nat.le_of_ble_eq_true rfl) ?_
  refine e_aload_n (pc := 0) d_ss_tellOf_0 rfl ?_
  refine e_iload_n (pc := 1) d_ss_tellOf_1 rfl ?_
  refine e_iload_n (pc := 2) d_ss_tellOf_2 rfl ?_
  refine e_iconst (pc := 3) d_ss_tellOf_3 (v := (nI (3))) rfl ?_
  refine e_icmp_neN (pc := 4) (tgt := 11) d_ss_tellOf_4 (by decide) (by decide) (by decide) (fun _ => ?_) (fun c => absurd c (by decide))
  refine e_iconst (pc := 11) d_ss_tellOf_11 (v := (nI (1))) rfl ?_
  refine e_iload_n (pc := 12) d_ss_tellOf_12 rfl ?_
  refine e_callV (As := [.int (nI (p)), .int (nI 1), .int (nI (2))]) (st := []) (cc2 := 0) (ss2 := 0) (pc := 13) d_ss_tellOf_13 rfl cv_ss_66 hS.1 rfl (c_ss_tellWatches htr hS h8 (tl := nI 1) (kd := 2) hp) rfl (by decide) (by decide) (by omega) (by omega) (Nat.le_of_ble_eq_true rfl) (fun _ _ _ hq => nomatch hq.1) (fun r h2 N2 hq => ?_)
  obtain ⟨hr, e1, e2⟩ := hq
  cases hr
  rw [e1, e2]
  clear e1 e2
  show q_Ev l G m_ss_tellOf 1 23 0 0 16 [some (.ref (s)), some (.int (nI (p))), some (.int (nI (2)))] [] _ N _
  obtain ⟨Y, hY⟩ : ∃ Y : wS, Y = tw1 p (nI 1) 2 X := ⟨_, rfl⟩
  rw [← hY]
  have h8y : Y.2.2 ≤ 8 := by rw [hY]; exact tw1_8 h8
  have hSy : ss_At (ss_put h s (Y).1 (Y).2.1 (Y).2.2 op du sv to he) s Y.1 Y.2.1 Y.2.2 op du sv to he := ss_put_at
  refine e_iload_n (pc := 16) d_ss_tellOf_16 rfl ?_
  refine e_iconst (pc := 17) d_ss_tellOf_17 (v := (nI (2))) rfl ?_
  refine e_icmp_eqN (pc := 18) (tgt := 31) d_ss_tellOf_18 (by decide) (by decide) (by decide) (fun _ => ?_) (fun c => absurd rfl c)
  exact e_vret (pc := 31) d_ss_tellOf_31 rfl (⟨rfl, by rw [hY]; rfl, rfl⟩)
set_option maxHeartbeats 4000000 in
set_option maxRecDepth 100000 in
theorem c_ss_tellOf_3 {l : Launch} {G : q_G} (htr : l.stackTraces = false) {h : q_H} {N : Nat} {s : Nat} {X : wS} {op du : Bool} {sv : Nat} {to he : Int32} (hS : ss_At h s X.1 X.2.1 X.2.2 op du sv to he) (h8 : X.2.2 ≤ 8) {p : Nat} (hp : p < 259) (h1 : 1 ≤ p) : q_Met l G m_ss_tellOf 1 23 0 0 [.ref (s), .int (nI (p)), .int (nI (3))] h N (q_To none (ss_put h s (toS 3 p X).1 (toS 3 p X).2.1 (toS 3 p X).2.2 op du sv to he) N) := by
  refine q_Met.mk htr (by decide +kernel) rfl (List.forall_mem_cons.mpr ⟨rfl, List.forall_mem_cons.mpr ⟨rfl, List.forall_mem_cons.mpr ⟨rfl, fun _ h => nomatch h⟩⟩⟩) (Nat.le_of_ble_eq_true rfl) ?_
  refine e_aload_n (pc := 0) d_ss_tellOf_0 rfl ?_
  refine e_iload_n (pc := 1) d_ss_tellOf_1 rfl ?_
  refine e_iload_n (pc := 2) d_ss_tellOf_2 rfl ?_
  refine e_iconst (pc := 3) d_ss_tellOf_3 (v := (nI (3))) rfl ?_
  refine e_icmp_neN (pc := 4) (tgt := 11) d_ss_tellOf_4 (by decide) (by decide) (by decide) (fun c => absurd rfl c) (fun _ => ?_)
  refine e_iconst (pc := 7) d_ss_tellOf_7 (v := (nI (3))) rfl ?_
  refine e_goto (pc := 8) (tgt := 12) d_ss_tellOf_8 (by decide) ?_
  refine e_iload_n (pc := 12) d_ss_tellOf_12 rfl ?_
  refine e_callV (As := [.int (nI (p)), .int (nI 3), .int (nI (3))]) (st := []) (cc2 := 0) (ss2 := 0) (pc := 13) d_ss_tellOf_13 rfl cv_ss_66 hS.1 rfl (c_ss_tellWatches htr hS h8 (tl := nI 3) (kd := 3) hp) rfl (by decide) (by decide) (by omega) (by omega) (Nat.le_of_ble_eq_true rfl) (fun _ _ _ hq => nomatch hq.1) (fun r h2 N2 hq => ?_)
  obtain ⟨hr, e1, e2⟩ := hq
  cases hr
  rw [e1, e2]
  clear e1 e2
  show q_Ev l G m_ss_tellOf 1 23 0 0 16 [some (.ref (s)), some (.int (nI (p))), some (.int (nI (3)))] [] _ N _
  obtain ⟨Y, hY⟩ : ∃ Y : wS, Y = tw1 p (nI 3) 3 X := ⟨_, rfl⟩
  rw [← hY]
  have h8y : Y.2.2 ≤ 8 := by rw [hY]; exact tw1_8 h8
  have hSy : ss_At (ss_put h s (Y).1 (Y).2.1 (Y).2.2 op du sv to he) s Y.1 Y.2.1 Y.2.2 op du sv to he := ss_put_at
  refine e_iload_n (pc := 16) d_ss_tellOf_16 rfl ?_
  refine e_iconst (pc := 17) d_ss_tellOf_17 (v := (nI (2))) rfl ?_
  refine e_icmp_eqN (pc := 18) (tgt := 31) d_ss_tellOf_18 (by decide) (by decide) (by decide) (fun c => absurd c (by decide)) (fun _ => ?_)
  refine e_aload_n (pc := 21) d_ss_tellOf_21 rfl ?_
  refine e_iload_n (pc := 22) d_ss_tellOf_22 rfl ?_
  refine e_callSN (As := [.int (nI (p))]) (st := [.ref (s)]) (cc2 := 0) (ss2 := 0) (pc := 23) d_ss_tellOf_23 cn_ss_70 (c_zs_parentOf htr h1 (by omega)) rfl (by decide) (by decide) (by omega) (by omega) (Nat.le_of_ble_eq_true rfl) (fun _ _ _ hq => nomatch hq.1) (fun r h2 N2 hq => ?_)
  obtain ⟨hr, e1, e2⟩ := hq
  cases hr
  rw [e1, e2]
  clear e1 e2
  show q_Ev l G m_ss_tellOf 1 23 0 0 26 [some (.ref (s)), some (.int (nI (p))), some (.int (nI (3)))] [.int (nI ((p - 1) / 6)), .ref (s)] (ss_put h s (Y).1 (Y).2.1 (Y).2.2 op du sv to he) N _
  refine e_iconst (pc := 26) d_ss_tellOf_26 (v := (nI (2))) rfl ?_
  refine e_iconst (pc := 27) d_ss_tellOf_27 (v := (nI (4))) rfl ?_
  refine e_callV (As := [.int (nI ((p - 1) / 6)), .int (nI 2), .int (nI (4))]) (st := []) (cc2 := 0) (ss2 := 0) (pc := 28) d_ss_tellOf_28 rfl cv_ss_66 hSy.1 rfl (c_ss_tellWatches htr hSy h8y (tl := nI 2) (kd := 4) (p := (p - 1) / 6) (by omega)) rfl (by decide) (by decide) (by omega) (by omega) (Nat.le_of_ble_eq_true rfl) (fun _ _ _ hq => nomatch hq.1) (fun r h2 N2 hq => ?_)
  obtain ⟨hr, e1, e2⟩ := hq
  cases hr
  rw [e1, e2]
  clear e1 e2
  show q_Ev l G m_ss_tellOf 1 23 0 0 31 [some (.ref (s)), some (.int (nI (p))), some (.int (nI (3)))] [] _ N _
  exact e_vret (pc := 31) d_ss_tellOf_31 rfl (⟨rfl, by rw [ss_put_put, hY]; rfl, rfl⟩)
end
section
/-! SESSION.hear, takeEvent; ENTRY's constructor -/
theorem hrK_1 (ow : Nat → Int32) (o : Int32) (X : wS) : hrK ow o 1 X = X := by
  unfold hrK
  rw [if_neg (fun z => absurd z.1 (by decide))]
  rfl
set_option maxHeartbeats 4000000 in
set_option maxRecDepth 100000 in
theorem c_ss_hear_create {l : Launch} {G : q_G} (htr : l.stackTraces = false) {h : q_H} {N : Nat} {s : Nat} {X : wS} {op du : Bool} {sv : Nat} {to he : Int32} (hS : ss_At h s X.1 X.2.1 X.2.2 op du sv to he) (h8 : X.2.2 ≤ 8) {t : Nat} {a p : Nat} {d o : Int32} {sq : Bool} (he9 : en_At h a 0 p d o sq) (h2 : p < 259) (h1 : 1 ≤ p) : q_Met l G m_ss_hear 2 45 0 0 [.ref (s), .ref (a), .ref (t)] h N (q_To none (ss_put h s (toS 1 p X).1 (toS 1 p X).2.1 (toS 1 p X).2.2 op du sv to he) N) := by
  refine q_Met.mk htr (by decide +kernel) rfl (List.forall_mem_cons.mpr ⟨rfl, List.forall_mem_cons.mpr ⟨rfl, List.forall_mem_cons.mpr ⟨rfl, fun _ h => nomatch h⟩⟩⟩) (Nat.le_of_ble_eq_true rfl) ?_
  refine e_aload_n (pc := 0) d_ss_hear_0 rfl ?_
  refine e_get (pc := 1) d_ss_hear_1 fl_ss_47 he9 rfl ?_
  refine e_tableIn (pc := 4) (off := 28) (tgt := 32) d_ss_hear_4 (by decide) (by decide) (by decide) (by decide) ?_
  refine e_aload_n (pc := 32) d_ss_hear_32 rfl ?_
  refine e_aload_n (pc := 33) d_ss_hear_33 rfl ?_
  refine e_get (pc := 34) d_ss_hear_34 fl_ss_52 he9 rfl ?_
  refine e_iconst (pc := 37) d_ss_hear_37 (v := (nI (1))) rfl ?_
  refine e_callV (As := [.int (nI (p)), .int (nI (1))]) (st := []) (cc2 := 0) (ss2 := 0) (pc := 38) d_ss_hear_38 rfl cv_ss_55 hS.1 rfl (c_ss_tellOf_1 htr hS h8 h2 h1) rfl (by decide) (by decide) (by omega) (by omega) (Nat.le_of_ble_eq_true rfl) (fun _ _ _ hq => nomatch hq.1) (fun r h2 N2 hq => ?_)
  obtain ⟨hr, e1, e2⟩ := hq
  cases hr
  rw [e1, e2]
  clear e1 e2
  show q_Ev l G m_ss_hear 2 45 0 0 41 [some (.ref (s)), some (.ref (a)), some (.ref (t)), none] [] _ N _
  refine e_goto (pc := 41) (tgt := 102) d_ss_hear_41 (by decide) ?_
  exact e_vret (pc := 102) d_ss_hear_102 rfl (⟨rfl, rfl, rfl⟩)
set_option maxHeartbeats 4000000 in
set_option maxRecDepth 100000 in
theorem c_ss_hear_set {l : Launch} {G : q_G} (htr : l.stackTraces = false) {h : q_H} {N : Nat} {s : Nat} {X : wS} {op du : Bool} {sv : Nat} {to he : Int32} (hS : ss_At h s X.1 X.2.1 X.2.2 op du sv to he) (h8 : X.2.2 ≤ 8) {t : Nat} {a p : Nat} {d o : Int32} {sq : Bool} (he9 : en_At h a 1 p d o sq) (h2 : p < 259) : q_Met l G m_ss_hear 2 45 0 0 [.ref (s), .ref (a), .ref (t)] h N (q_To none (ss_put h s (toS 2 p X).1 (toS 2 p X).2.1 (toS 2 p X).2.2 op du sv to he) N) := by
  refine q_Met.mk htr (by decide +kernel) rfl (List.forall_mem_cons.mpr ⟨rfl, List.forall_mem_cons.mpr ⟨rfl, List.forall_mem_cons.mpr ⟨rfl, fun _ h => nomatch h⟩⟩⟩) (Nat.le_of_ble_eq_true rfl) ?_
  refine e_aload_n (pc := 0) d_ss_hear_0 rfl ?_
  refine e_get (pc := 1) d_ss_hear_1 fl_ss_47 he9 rfl ?_
  refine e_tableIn (pc := 4) (off := 40) (tgt := 44) d_ss_hear_4 (by decide) (by decide) (by decide) (by decide) ?_
  refine e_aload_n (pc := 44) d_ss_hear_44 rfl ?_
  refine e_aload_n (pc := 45) d_ss_hear_45 rfl ?_
  refine e_get (pc := 46) d_ss_hear_46 fl_ss_52 he9 rfl ?_
  refine e_iconst (pc := 49) d_ss_hear_49 (v := (nI (2))) rfl ?_
  refine e_callV (As := [.int (nI (p)), .int (nI (2))]) (st := []) (cc2 := 0) (ss2 := 0) (pc := 50) d_ss_hear_50 rfl cv_ss_55 hS.1 rfl (c_ss_tellOf_2 htr hS h8 h2) rfl (by decide) (by decide) (by omega) (by omega) (Nat.le_of_ble_eq_true rfl) (fun _ _ _ hq => nomatch hq.1) (fun r h2 N2 hq => ?_)
  obtain ⟨hr, e1, e2⟩ := hq
  cases hr
  rw [e1, e2]
  clear e1 e2
  show q_Ev l G m_ss_hear 2 45 0 0 53 [some (.ref (s)), some (.ref (a)), some (.ref (t)), none] [] _ N _
  refine e_goto (pc := 53) (tgt := 102) d_ss_hear_53 (by decide) ?_
  exact e_vret (pc := 102) d_ss_hear_102 rfl (⟨rfl, rfl, rfl⟩)
set_option maxHeartbeats 4000000 in
set_option maxRecDepth 100000 in
theorem c_ss_hear_delete {l : Launch} {G : q_G} (htr : l.stackTraces = false) {h : q_H} {N : Nat} {s : Nat} {X : wS} {op du : Bool} {sv : Nat} {to he : Int32} (hS : ss_At h s X.1 X.2.1 X.2.2 op du sv to he) (h8 : X.2.2 ≤ 8) {t : Nat} {a p : Nat} {d o : Int32} {sq : Bool} (he9 : en_At h a 2 p d o sq) (h2 : p < 259) (h1 : 1 ≤ p) : q_Met l G m_ss_hear 2 45 0 0 [.ref (s), .ref (a), .ref (t)] h N (q_To none (ss_put h s (toS 3 p X).1 (toS 3 p X).2.1 (toS 3 p X).2.2 op du sv to he) N) := by
  refine q_Met.mk htr (by decide +kernel) rfl (List.forall_mem_cons.mpr ⟨rfl, List.forall_mem_cons.mpr ⟨rfl, List.forall_mem_cons.mpr ⟨rfl, fun _ h => nomatch h⟩⟩⟩) (Nat.le_of_ble_eq_true rfl) ?_
  refine e_aload_n (pc := 0) d_ss_hear_0 rfl ?_
  refine e_get (pc := 1) d_ss_hear_1 fl_ss_47 he9 rfl ?_
  refine e_tableIn (pc := 4) (off := 52) (tgt := 56) d_ss_hear_4 (by decide) (by decide) (by decide) (by decide) ?_
  refine e_aload_n (pc := 56) d_ss_hear_56 rfl ?_
  refine e_aload_n (pc := 57) d_ss_hear_57 rfl ?_
  refine e_get (pc := 58) d_ss_hear_58 fl_ss_52 he9 rfl ?_
  refine e_iconst (pc := 61) d_ss_hear_61 (v := (nI (3))) rfl ?_
  refine e_callV (As := [.int (nI (p)), .int (nI (3))]) (st := []) (cc2 := 0) (ss2 := 0) (pc := 62) d_ss_hear_62 rfl cv_ss_55 hS.1 rfl (c_ss_tellOf_3 htr hS h8 h2 h1) rfl (by decide) (by decide) (by omega) (by omega) (Nat.le_of_ble_eq_true rfl) (fun _ _ _ hq => nomatch hq.1) (fun r h2 N2 hq => ?_)
  obtain ⟨hr, e1, e2⟩ := hq
  cases hr
  rw [e1, e2]
  clear e1 e2
  show q_Ev l G m_ss_hear 2 45 0 0 65 [some (.ref (s)), some (.ref (a)), some (.ref (t)), none] [] _ N _
  refine e_goto (pc := 65) (tgt := 102) d_ss_hear_65 (by decide) ?_
  exact e_vret (pc := 102) d_ss_hear_102 rfl (⟨rfl, rfl, rfl⟩)
set_option maxHeartbeats 4000000 in
set_option maxRecDepth 100000 in
theorem lp_ss_hear {l : Launch} {G : q_G} (htr : l.stackTraces = false) {h : q_H} {N : Nat} {s : Nat} {X : wS} {op du : Bool} {sv : Nat} {to he : Int32} (hS : ss_At h s X.1 X.2.1 X.2.2 op du sv to he) (h8 : X.2.2 ≤ 8) {t : Nat} {dt vr ow nx : Nat → Int32} (hT : tr_At h t dt vr ow nx) {a p : Nat} {d o : Int32} {sq : Bool} (he9 : en_At h a 3 p d o sq) (ha : a < s ∨ s + 2 < a) (ht : t + 4 < s ∨ s + 2 < t) : ∀ (g k : Nat), 259 < k + g → 1 ≤ k ∧ k ≤ 259 → q_Ev l G m_ss_hear 2 45 0 0 70 [some (.ref (s)), some (.ref (a)), some (.ref (t)), some (.int (nI (k)))] [] (ss_put h s (hrK ow o k X).1 (hrK ow o k X).2.1 (hrK ow o k X).2.2 op du sv to he) N (q_To none (ss_put h s (hrK ow o 259 X).1 (hrK ow o 259 X).2.1 (hrK ow o 259 X).2.2 op du sv to he) N) := by
  intro g
  induction g with
  | zero => intro k hg hk; omega
  | succ g ih =>
    intro k hg hk
    have h8y := hrK_8 (ow := ow) (o := o) h8 k
    have hSy : ss_At (ss_put h s (hrK ow o k X).1 (hrK ow o k X).2.1 (hrK ow o k X).2.2 op du sv to he) s (hrK ow o k X).1 (hrK ow o k X).2.1 (hrK ow o k X).2.2 op du sv to he := ss_put_at
    refine e_iload_n (pc := 70) d_ss_hear_70 rfl ?_
    refine e_sipush (pc := 71) d_ss_hear_71 (v := (nI (259))) rfl ?_
    refine e_icmp_geN (pc := 74) (tgt := 102) d_ss_hear_74 (by decide) (by omega) (by omega) (fun c => ?_) (fun c => ?_)
    · have hkn : k = 259 := by omega
      subst hkn
      exact e_vret (pc := 102) d_ss_hear_102 rfl (⟨rfl, rfl, rfl⟩)
    · refine e_aload_n (pc := 77) d_ss_hear_77 rfl ?_
      refine e_get (pc := 78) d_ss_hear_78 fl_ss_59 ((ss_gx (by omega)).trans hT.1) rfl ?_
      refine e_iload_n (pc := 81) d_ss_hear_81 rfl ?_
      refine e_ialdN (pc := 82) d_ss_hear_82 ((ss_gx (by omega)).trans hT.2.2.2.1) (by omega) (by decide) ?_
      refine e_aload_n (pc := 83) d_ss_hear_83 rfl ?_
      refine e_get (pc := 84) d_ss_hear_84 fl_ss_64 ((ss_gx ha).trans he9) rfl ?_
      refine e_icmp_ne (pc := 87) (tgt := 96) d_ss_hear_87 (by decide) (fun c2 => ?_) (fun c2 => ?_)
      · refine e_iincN (pc := 96) d_ss_hear_96 (a := k) (b := 1) rfl rfl (by decide) ?_
        refine e_goto (pc := 99) (tgt := 70) d_ss_hear_99 (by decide) ?_
        have e : hrK ow o (k + 1) X = hrK ow o k X := by rw [hrK, if_neg (fun z => c2 z.2)]
        have := ih (k + 1) (by omega) (by omega)
        rw [e] at this
        exact this
      · refine e_aload_n (pc := 90) d_ss_hear_90 rfl ?_
        refine e_iload_n (pc := 91) d_ss_hear_91 rfl ?_
        refine e_iconst (pc := 92) d_ss_hear_92 (v := (nI (3))) rfl ?_
        refine e_callV (As := [.int (nI (k)), .int (nI (3))]) (st := []) (cc2 := 0) (ss2 := 0) (pc := 93) d_ss_hear_93 rfl cv_ss_55 hSy.1 rfl (c_ss_tellOf_3 htr hSy h8y c hk.1) rfl (by decide) (by decide) (by omega) (by omega) (Nat.le_of_ble_eq_true rfl) (fun _ _ _ hq => nomatch hq.1) (fun r h2 N2 hq => ?_)
        obtain ⟨hr, e1, e2⟩ := hq
        cases hr
        rw [e1, e2]
        clear e1 e2
        show q_Ev l G m_ss_hear 2 45 0 0 96 [some (.ref (s)), some (.ref (a)), some (.ref (t)), some (.int (nI (k)))] [] _ N _
        rw [ss_put_put]
        refine e_iincN (pc := 96) d_ss_hear_96 (a := k) (b := 1) rfl rfl (by decide) ?_
        refine e_goto (pc := 99) (tgt := 70) d_ss_hear_99 (by decide) ?_
        have e : hrK ow o (k + 1) X = toS 3 k (hrK ow o k X) := by rw [hrK, if_pos ⟨hk.1, c2⟩]
        have := ih (k + 1) (by omega) (by omega)
        rw [e] at this
        exact this
set_option maxHeartbeats 4000000 in
set_option maxRecDepth 100000 in
theorem c_ss_hear_close {l : Launch} {G : q_G} (htr : l.stackTraces = false) {h : q_H} {N : Nat} {s : Nat} {X : wS} {op du : Bool} {sv : Nat} {to he : Int32} (hS : ss_At h s X.1 X.2.1 X.2.2 op du sv to he) (h8 : X.2.2 ≤ 8) {t : Nat} {dt vr ow nx : Nat → Int32} (hT : tr_At h t dt vr ow nx) {a p : Nat} {d o : Int32} {sq : Bool} (he9 : en_At h a 3 p d o sq) (ha : a < s ∨ s + 2 < a) (ht : t + 4 < s ∨ s + 2 < t) : q_Met l G m_ss_hear 2 45 0 0 [.ref (s), .ref (a), .ref (t)] h N (q_To none (ss_put h s (hrK ow o 259 X).1 (hrK ow o 259 X).2.1 (hrK ow o 259 X).2.2 op du sv to he) N) := by
  refine q_Met.mk htr (by decide +kernel) rfl (List.forall_mem_cons.mpr ⟨rfl, List.forall_mem_cons.mpr ⟨rfl, List.forall_mem_cons.mpr ⟨rfl, fun _ h => nomatch h⟩⟩⟩) (Nat.le_of_ble_eq_true rfl) ?_
  refine e_aload_n (pc := 0) d_ss_hear_0 rfl ?_
  refine e_get (pc := 1) d_ss_hear_1 fl_ss_47 he9 rfl ?_
  refine e_tableOut (pc := 4) (tgt := 68) d_ss_hear_4 (Or.inr (by decide)) (by decide) ?_
  refine e_iconst (pc := 68) d_ss_hear_68 (v := (nI (1))) rfl ?_
  refine e_istore_n (pc := 69) d_ss_hear_69 (by decide) ?_
  have := lp_ss_hear (l := l) (G := G) htr (N := N) hS h8 hT he9 ha ht 260 1 (by omega) (by omega)
  rw [hrK_1, ss_put_id hS] at this
  exact this
set_option maxHeartbeats 4000000 in
set_option maxRecDepth 100000 in
theorem lp_ss_takeEvent {l : Launch} {G : q_G} {h : q_H} {N s : Nat} {w ev : Nat → Int32} {cn : Nat} {op du : Bool} {sv : Nat} {to he : Int32} (h1 : 1 ≤ cn) (h8 : cn ≤ 8) : ∀ (g k : Nat), cn < k + g → 1 ≤ k ∧ k ≤ cn → q_Ev l G m_ss_takeEvent 0 0 0 0 9 [some (.ref (s)), some (.int (ev 0)), some (.int (nI (k)))] [] ((ss_put h (s) (w) (shK ev k) (cn) (op) (du) (sv) (to) (he))) N (q_To (some (.int (ev 0))) (ss_put h s w (shK ev cn) (cn - 1) op du sv to he) N) := by
  intro g
  induction g with
  | zero => intro k hg hk; omega
  | succ g ih =>
    intro k hg hk
    refine e_iload_n (pc := 9) d_ss_takeEvent_9 rfl ?_
    refine e_aload_n (pc := 10) d_ss_takeEvent_10 rfl ?_
    refine e_get (pc := 11) d_ss_takeEvent_11 fl_ss_18 ss_g0 rfl ?_
    refine e_icmp_geN (pc := 14) (tgt := 37) d_ss_takeEvent_14 (by decide) (by omega) (by omega) (fun c => ?_) (fun c => ?_)
    · have hkn : cn = k := by omega
      subst hkn
      refine e_aload_n (pc := 37) d_ss_takeEvent_37 rfl ?_
      refine e_dup (pc := 38) d_ss_takeEvent_38 rfl ?_
      refine e_get (pc := 39) d_ss_takeEvent_39 fl_ss_18 ss_g0 rfl ?_
      refine e_iconst (pc := 42) d_ss_takeEvent_42 (v := (nI (1))) rfl ?_
      refine e_isubN (pc := 43) d_ss_takeEvent_43 (by omega) ?_
      refine e_putE (pc := 44) d_ss_takeEvent_44 (fs2 := [.ref (s + 1), .ref (s + 2), .int (nI ((cn) - (1))), .int (bI (op)), .int (bI (du)), .int (nI (sv)), .int (to), .int (he)]) fl_ss_18 ss_g0 (Nat.le_of_ble_eq_true rfl) (fun _ => rfl) (fun _ => rfl) rfl ?_
      rw [ss_u0]
      refine e_iload_n (pc := 47) d_ss_takeEvent_47 rfl ?_
      exact e_iret (pc := 48) d_ss_takeEvent_48 rfl (⟨rfl, rfl, rfl⟩)
    · refine e_aload_n (pc := 17) d_ss_takeEvent_17 rfl ?_
      refine e_get (pc := 18) d_ss_takeEvent_18 fl_ss_15 ss_g0 rfl ?_
      refine e_iload_n (pc := 21) d_ss_takeEvent_21 rfl ?_
      refine e_iconst (pc := 22) d_ss_takeEvent_22 (v := (nI (1))) rfl ?_
      refine e_isubN (pc := 23) d_ss_takeEvent_23 (by omega) ?_
      refine e_aload_n (pc := 24) d_ss_takeEvent_24 rfl ?_
      refine e_get (pc := 25) d_ss_takeEvent_25 fl_ss_15 ss_g0 rfl ?_
      refine e_iload_n (pc := 28) d_ss_takeEvent_28 rfl ?_
      refine e_ialdN (pc := 29) d_ss_takeEvent_29 ss_g2 (by omega) (by decide) ?_
      rw [shK_at]
      refine e_iastN (pc := 30) d_ss_takeEvent_30 ss_g2 (by omega) (by decide) ?_
      rw [ss_u2]
      rw [shK_s hk.1]
      refine e_iincN (pc := 31) d_ss_takeEvent_31 (a := k) (b := 1) rfl rfl (by decide) ?_
      refine e_goto (pc := 34) (tgt := 9) d_ss_takeEvent_34 (by decide) ?_
      exact ih (k + 1) (by omega) (by omega)
set_option maxHeartbeats 4000000 in
set_option maxRecDepth 100000 in
theorem c_ss_takeEvent {l : Launch} {G : q_G} (htr : l.stackTraces = false) {h : q_H} {N : Nat} {s : Nat} {w ev : Nat → Int32} {cn : Nat} {op du : Bool} {sv : Nat} {to he : Int32} (hS : ss_At h s w ev cn op du sv to he) (h1 : 1 ≤ cn) (h8 : cn ≤ 8) : q_Met l G m_ss_takeEvent 0 0 0 0 [.ref (s)] h N (q_To (some (.int (ev 0))) (ss_put h s w (shK ev cn) (cn - 1) op du sv to he) N) := by
  refine q_Met.mk htr (by decide +kernel) rfl (List.forall_mem_cons.mpr ⟨rfl, fun _ h => nomatch h⟩) (Nat.le_of_ble_eq_true rfl) ?_
  refine e_aload_n (pc := 0) d_ss_takeEvent_0 rfl ?_
  refine e_get (pc := 1) d_ss_takeEvent_1 fl_ss_15 hS.1 rfl ?_
  refine e_iconst (pc := 4) d_ss_takeEvent_4 (v := (nI (0))) rfl ?_
  refine e_ialdN (pc := 5) d_ss_takeEvent_5 hS.2.2 (by omega) (by decide) ?_
  refine e_istore_n (pc := 6) d_ss_takeEvent_6 (by decide) ?_
  refine e_iconst (pc := 7) d_ss_takeEvent_7 (v := (nI (1))) rfl ?_
  refine e_istore_n (pc := 8) d_ss_takeEvent_8 (by decide) ?_
  have := lp_ss_takeEvent (l := l) (G := G) (h := h) (N := N) (s := s) (w := w) (ev := ev) (op := op) (du := du) (sv := sv) (to := to) (he := he) h1 h8 (cn + 1) 1 (by omega) (by omega)
  rw [shK_1, ss_put_id hS] at this
  exact this
set_option maxHeartbeats 4000000 in
set_option maxRecDepth 100000 in
theorem c_en_init {l : Launch} {G : q_G} (htr : l.stackTraces = false) {h : q_H} {N : Nat} {a kd p : Nat} {d o : Int32} {sq : Bool} (ha : h a = some (.inr (0, [.int 0, .int 0, .int 0, .int 0, .int 0]))) : q_Met l G m_en_init 1 14 0 0 [.ref (a), .int (nI (kd)), .int (nI (p)), .int (d), .int (o), .int (bI (sq))] h N (q_To none (q_up h a (.inr (0, [.int (nI kd), .int (nI p), .int d, .int o, .int (bI sq)]))) N) := by
  refine q_Met.mk htr (by decide +kernel) rfl (List.forall_mem_cons.mpr ⟨rfl, List.forall_mem_cons.mpr ⟨rfl, List.forall_mem_cons.mpr ⟨rfl, List.forall_mem_cons.mpr ⟨rfl, List.forall_mem_cons.mpr ⟨rfl, List.forall_mem_cons.mpr ⟨rfl, fun _ h => nomatch h⟩⟩⟩⟩⟩⟩) (Nat.le_of_ble_eq_true rfl) ?_
  refine e_aload_n (pc := 0) d_en_init_0 rfl ?_
  refine e_objInit (pc := 1) d_en_init_1 k_300 k_22 k_23 (by decide) (Nat.le_of_ble_eq_true rfl) ?_
  refine e_aload_n (pc := 4) d_en_init_4 rfl ?_
  refine e_iload_n (pc := 5) d_en_init_5 rfl ?_
  refine e_putFE (pc := 6) d_en_init_6 (fs2 := [.int (nI (kd)), .int (0), .int (0), .int (0), .int (0)]) fl_en_7 rfl rfl ha (Nat.le_of_ble_eq_true rfl) (fun _ => rfl) (fun _ => rfl) rfl ?_
  obtain ⟨h1, eh2⟩ : ∃ x, x = q_up h (a) (.inr (0, [.int (nI (kd)), .int (0), .int (0), .int (0), .int (0)])) := ⟨_, rfl⟩
  rw [← eh2]
  have hc3 : h1 (a) = some (.inr (0, [.int (nI (kd)), .int (0), .int (0), .int (0), .int (0)])) := by rw [eh2]; exact q_up_s _ _ _
  refine e_aload_n (pc := 9) d_en_init_9 rfl ?_
  refine e_iload_n (pc := 10) d_en_init_10 rfl ?_
  refine e_putFE (pc := 11) d_en_init_11 (fs2 := [.int (nI (kd)), .int (nI (p)), .int (0), .int (0), .int (0)]) fl_en_13 rfl rfl hc3 (Nat.le_of_ble_eq_true rfl) (fun _ => rfl) (fun _ => rfl) rfl ?_
  obtain ⟨h4, eh5⟩ : ∃ x, x = q_up h1 (a) (.inr (0, [.int (nI (kd)), .int (nI (p)), .int (0), .int (0), .int (0)])) := ⟨_, rfl⟩
  rw [← eh5]
  have hc6 : h4 (a) = some (.inr (0, [.int (nI (kd)), .int (nI (p)), .int (0), .int (0), .int (0)])) := by rw [eh5]; exact q_up_s _ _ _
  refine e_aload_n (pc := 14) d_en_init_14 rfl ?_
  refine e_iload_n (pc := 15) d_en_init_15 rfl ?_
  refine e_putFE (pc := 16) d_en_init_16 (fs2 := [.int (nI (kd)), .int (nI (p)), .int (d), .int (0), .int (0)]) fl_en_16 rfl rfl hc6 (Nat.le_of_ble_eq_true rfl) (fun _ => rfl) (fun _ => rfl) rfl ?_
  obtain ⟨h7, eh8⟩ : ∃ x, x = q_up h4 (a) (.inr (0, [.int (nI (kd)), .int (nI (p)), .int (d), .int (0), .int (0)])) := ⟨_, rfl⟩
  rw [← eh8]
  have hc9 : h7 (a) = some (.inr (0, [.int (nI (kd)), .int (nI (p)), .int (d), .int (0), .int (0)])) := by rw [eh8]; exact q_up_s _ _ _
  refine e_aload_n (pc := 19) d_en_init_19 rfl ?_
  refine e_iload (pc := 20) d_en_init_20 rfl ?_
  refine e_putFE (pc := 22) d_en_init_22 (fs2 := [.int (nI (kd)), .int (nI (p)), .int (d), .int (o), .int (0)]) fl_en_19 rfl rfl hc9 (Nat.le_of_ble_eq_true rfl) (fun _ => rfl) (fun _ => rfl) rfl ?_
  obtain ⟨h10, eh11⟩ : ∃ x, x = q_up h7 (a) (.inr (0, [.int (nI (kd)), .int (nI (p)), .int (d), .int (o), .int (0)])) := ⟨_, rfl⟩
  rw [← eh11]
  have hc12 : h10 (a) = some (.inr (0, [.int (nI (kd)), .int (nI (p)), .int (d), .int (o), .int (0)])) := by rw [eh11]; exact q_up_s _ _ _
  refine e_aload_n (pc := 25) d_en_init_25 rfl ?_
  refine e_iload (pc := 26) d_en_init_26 rfl ?_
  refine e_putFE (pc := 28) d_en_init_28 (fs2 := [.int (nI (kd)), .int (nI (p)), .int (d), .int (o), .int (bI (sq))]) fl_en_22 rfl rfl hc12 (Nat.le_of_ble_eq_true rfl) (fun _ => bI_nar _) (fun _ => by first | rfl | (cases (sq : Bool) <;> rfl)) rfl ?_
  obtain ⟨h13, eh14⟩ : ∃ x, x = q_up h10 (a) (.inr (0, [.int (nI (kd)), .int (nI (p)), .int (d), .int (o), .int (bI (sq))])) := ⟨_, rfl⟩
  rw [← eh14]
  have hc15 : h13 (a) = some (.inr (0, [.int (nI (kd)), .int (nI (p)), .int (d), .int (o), .int (bI (sq))])) := by rw [eh14]; exact q_up_s _ _ _
  exact e_vret (pc := 31) d_en_init_31 rfl (⟨rfl, by subst_vars; simp only [q_up_up], rfl⟩)
end
section
/-! THE CLASS'S STATE as one value zR, and the heap zs_put h R that holds it at the addresses 1 .. 41 -/
abbrev zT : Type := (Nat → Int32) × (Nat → Int32) × (Nat → Int32) × (Nat → Int32)
abbrev zV : Type := (Nat → Option Nat) × Nat × Nat × Nat × Bool × Bool
abbrev zS : Type := wS × Bool × Bool × Nat × Int32 × Int32
abbrev zR : Type := Option Nat × Nat × Int32 × zT × (Nat → zV) × (Nat → zT) × (Nat → zS)
def ldI : Option Nat → Int32
  | none => -1
  | some i => nI i
abbrev z_ld (R : zR) : Option Nat := R.1
abbrev z_ep (R : zR) : Nat := R.2.1
abbrev z_tm (R : zR) : Int32 := R.2.2.1
abbrev z_P (R : zR) : zT := R.2.2.2.1
abbrev z_V (R : zR) : Nat → zV := R.2.2.2.2.1
abbrev z_T (R : zR) : Nat → zT := R.2.2.2.2.2.1
abbrev z_S (R : zR) : Nat → zS := R.2.2.2.2.2.2
def z_sP (R : zR) (x : zT) : zR := (R.1, R.2.1, R.2.2.1, x, R.2.2.2.2)
def z_sV (R : zR) (i : Nat) (x : zV) : zR := (R.1, R.2.1, R.2.2.1, R.2.2.2.1, va_up R.2.2.2.2.1 i x, R.2.2.2.2.2)
def z_sT (R : zR) (i : Nat) (x : zT) : zR := (R.1, R.2.1, R.2.2.1, R.2.2.2.1, R.2.2.2.2.1, va_up R.2.2.2.2.2.1 i x, R.2.2.2.2.2.2)
def z_sS (R : zR) (j : Nat) (x : zS) : zR := (R.1, R.2.1, R.2.2.1, R.2.2.2.1, R.2.2.2.2.1, R.2.2.2.2.2.1, va_up R.2.2.2.2.2.2 j x)
def z_s0 (R : zR) (ld : Option Nat) (ep : Nat) (tm : Int32) : zR := (ld, ep, tm, R.2.2.2)
abbrev v_lf (v : zV) := v.1
abbrev v_ln (v : zV) := v.2.1
abbrev v_ap (v : zV) := v.2.2.1
abbrev v_ag (v : zV) := v.2.2.2.1
abbrev v_up (v : zV) := v.2.2.2.2.1
abbrev v_al (v : zV) := v.2.2.2.2.2
abbrev s_X (x : zS) : wS := x.1
abbrev s_op (x : zS) := x.2.1
abbrev s_du (x : zS) := x.2.2.1
abbrev s_sv (x : zS) := x.2.2.2.1
abbrev s_to (x : zS) := x.2.2.2.2.1
abbrev s_he (x : zS) := x.2.2.2.2.2
abbrev zs_ob (ld : Option Nat) (ep : Nat) (tm : Int32) : q_E := .inr (4, [.ref 2, .ref 3, .ref 4, .int (ldI ld), .int (nI ep), .int tm])
def zc_sv (R : zR) (i s : Nat) : Nat → Option q_E
  | 0 => some (sv_ob s (v_ln (z_V R i)) (v_ap (z_V R i)) (v_ag (z_V R i)) (v_up (z_V R i)) (v_al (z_V R i)))
  | 1 => some (q_ar 5 64 (v_lf (z_V R i)))
  | 2 => some (tr_ob (s + 2))
  | 3 => some (q_ai 259 (z_T R i).1)
  | 4 => some (q_ai 259 (z_T R i).2.1)
  | 5 => some (q_ai 259 (z_T R i).2.2.1)
  | _ => some (q_ai 43 (z_T R i).2.2.2)
def zc_ss (R : zR) (j s : Nat) : Nat → Option q_E
  | 0 => some (ss_ob s (s_X (z_S R j)).2.2 (s_op (z_S R j)) (s_du (z_S R j)) (s_sv (z_S R j)) (s_to (z_S R j)) (s_he (z_S R j)))
  | 1 => some (q_ai 259 (s_X (z_S R j)).1)
  | _ => some (q_ai 8 (s_X (z_S R j)).2.1)
def zc (R : zR) : Nat → Option q_E
  | 1 => some (zs_ob (z_ld R) (z_ep R) (z_tm R))
  | 2 => some (q_ar 3 3 (fun i => some (9 + 7 * i)))
  | 3 => some (q_ar 4 4 (fun j => some (30 + 3 * j)))
  | 4 => some (tr_ob 4)
  | 5 => some (q_ai 259 (z_P R).1)
  | 6 => some (q_ai 259 (z_P R).2.1)
  | 7 => some (q_ai 259 (z_P R).2.2.1)
  | 8 => some (q_ai 43 (z_P R).2.2.2)
  | 9 => zc_sv R 0 9 0
  | 10 => zc_sv R 0 9 1
  | 11 => zc_sv R 0 9 2
  | 12 => zc_sv R 0 9 3
  | 13 => zc_sv R 0 9 4
  | 14 => zc_sv R 0 9 5
  | 15 => zc_sv R 0 9 6
  | 16 => zc_sv R 1 16 0
  | 17 => zc_sv R 1 16 1
  | 18 => zc_sv R 1 16 2
  | 19 => zc_sv R 1 16 3
  | 20 => zc_sv R 1 16 4
  | 21 => zc_sv R 1 16 5
  | 22 => zc_sv R 1 16 6
  | 23 => zc_sv R 2 23 0
  | 24 => zc_sv R 2 23 1
  | 25 => zc_sv R 2 23 2
  | 26 => zc_sv R 2 23 3
  | 27 => zc_sv R 2 23 4
  | 28 => zc_sv R 2 23 5
  | 29 => zc_sv R 2 23 6
  | 30 => zc_ss R 0 30 0
  | 31 => zc_ss R 0 30 1
  | 32 => zc_ss R 0 30 2
  | 33 => zc_ss R 1 33 0
  | 34 => zc_ss R 1 33 1
  | 35 => zc_ss R 1 33 2
  | 36 => zc_ss R 2 36 0
  | 37 => zc_ss R 2 36 1
  | 38 => zc_ss R 2 36 2
  | 39 => zc_ss R 3 39 0
  | 40 => zc_ss R 3 39 1
  | 41 => zc_ss R 3 39 2
  | _ => none
def zs_put (h : q_H) (R : zR) : q_H := fun a => match zc R a with
  | some e => some e
  | none => h a
section ZG
variable {h : q_H} {R : zR}
theorem zs_g1 : zs_put h R 1 = some (zs_ob (z_ld R) (z_ep R) (z_tm R)) := rfl
theorem zs_g2 : zs_put h R 2 = some (q_ar 3 3 (fun i => some (9 + 7 * i))) := rfl
theorem zs_g3 : zs_put h R 3 = some (q_ar 4 4 (fun j => some (30 + 3 * j))) := rfl
theorem zs_tP : tr_At (zs_put h R) 4 (z_P R).1 (z_P R).2.1 (z_P R).2.2.1 (z_P R).2.2.2 := ⟨rfl, rfl, rfl, rfl, rfl⟩
theorem zs_v {i : Nat} (hi : i < 3) : sv_At (zs_put h R) (9 + 7 * i) (v_lf (z_V R i)) (v_ln (z_V R i)) (v_ap (z_V R i)) (v_ag (z_V R i)) (v_up (z_V R i)) (v_al (z_V R i)) := by
  rcases (by omega : i = 0 ∨ i = 1 ∨ i = 2) with rfl | rfl | rfl <;> exact ⟨rfl, rfl⟩
theorem zs_t {i : Nat} (hi : i < 3) : tr_At (zs_put h R) (9 + 7 * i + 2) (z_T R i).1 (z_T R i).2.1 (z_T R i).2.2.1 (z_T R i).2.2.2 := by
  rcases (by omega : i = 0 ∨ i = 1 ∨ i = 2) with rfl | rfl | rfl <;> exact ⟨rfl, rfl, rfl, rfl, rfl⟩
theorem zs_s {j : Nat} (hj : j < 4) : ss_At (zs_put h R) (30 + 3 * j) (s_X (z_S R j)).1 (s_X (z_S R j)).2.1 (s_X (z_S R j)).2.2 (s_op (z_S R j)) (s_du (z_S R j)) (s_sv (z_S R j)) (s_to (z_S R j)) (s_he (z_S R j)) := by
  rcases (by omega : j = 0 ∨ j = 1 ∨ j = 2 ∨ j = 3) with rfl | rfl | rfl | rfl <;> exact ⟨rfl, rfl, rfl⟩
theorem zc_hi (R : zR) (a : Nat) : zc R (a + 42) = none := rfl
theorem zs_hi {a : Nat} (ha : 41 < a) : zs_put h R a = h a := by
  obtain ⟨b, rfl⟩ : ∃ b, a = b + 42 := ⟨a - 42, by omega⟩
  rfl
end ZG
theorem zs_u1p {h : q_H} {R : zR} {ld : Option Nat} {ep : Nat} {tm : Int32} : ∀ a : Nat, (q_up (zs_put h R) 1 (zs_ob ld ep tm)) a = zs_put h (z_s0 R ld ep tm) a
  | 0 => rfl
  | 1 => rfl
  | 2 => rfl
  | 3 => rfl
  | 4 => rfl
  | 5 => rfl
  | 6 => rfl
  | 7 => rfl
  | 8 => rfl
  | 9 => rfl
  | 10 => rfl
  | 11 => rfl
  | 12 => rfl
  | 13 => rfl
  | 14 => rfl
  | 15 => rfl
  | 16 => rfl
  | 17 => rfl
  | 18 => rfl
  | 19 => rfl
  | 20 => rfl
  | 21 => rfl
  | 22 => rfl
  | 23 => rfl
  | 24 => rfl
  | 25 => rfl
  | 26 => rfl
  | 27 => rfl
  | 28 => rfl
  | 29 => rfl
  | 30 => rfl
  | 31 => rfl
  | 32 => rfl
  | 33 => rfl
  | 34 => rfl
  | 35 => rfl
  | 36 => rfl
  | 37 => rfl
  | 38 => rfl
  | 39 => rfl
  | 40 => rfl
  | 41 => rfl
  | a + 42 => rfl
theorem zs_u1 {h : q_H} {R : zR} {ld : Option Nat} {ep : Nat} {tm : Int32} : q_up (zs_put h R) 1 (zs_ob ld ep tm) = zs_put h (z_s0 R ld ep tm) := funext zs_u1p
theorem zs_uPp {h : q_H} {R : zR} {dt vr ow nx : Nat → Int32} : ∀ a : Nat, (tr_put (zs_put h R) 4 dt vr ow nx) a = zs_put h (z_sP R (dt, vr, ow, nx)) a
  | 0 => rfl
  | 1 => rfl
  | 2 => rfl
  | 3 => rfl
  | 4 => rfl
  | 5 => rfl
  | 6 => rfl
  | 7 => rfl
  | 8 => rfl
  | 9 => rfl
  | 10 => rfl
  | 11 => rfl
  | 12 => rfl
  | 13 => rfl
  | 14 => rfl
  | 15 => rfl
  | 16 => rfl
  | 17 => rfl
  | 18 => rfl
  | 19 => rfl
  | 20 => rfl
  | 21 => rfl
  | 22 => rfl
  | 23 => rfl
  | 24 => rfl
  | 25 => rfl
  | 26 => rfl
  | 27 => rfl
  | 28 => rfl
  | 29 => rfl
  | 30 => rfl
  | 31 => rfl
  | 32 => rfl
  | 33 => rfl
  | 34 => rfl
  | 35 => rfl
  | 36 => rfl
  | 37 => rfl
  | 38 => rfl
  | 39 => rfl
  | 40 => rfl
  | 41 => rfl
  | a + 42 => rfl
theorem zs_uP {h : q_H} {R : zR} {dt vr ow nx : Nat → Int32} : tr_put (zs_put h R) 4 dt vr ow nx = zs_put h (z_sP R (dt, vr, ow, nx)) := funext zs_uPp
theorem zs_uV0 {h : q_H} {R : zR} {lf : Nat → Option Nat} {ln ap ag : Nat} {up al : Bool} : ∀ a : Nat, (sv_put (zs_put h R) 9 lf ln ap ag up al) a = zs_put h (z_sV R 0 (lf, ln, ap, ag, up, al)) a
  | 0 => rfl
  | 1 => rfl
  | 2 => rfl
  | 3 => rfl
  | 4 => rfl
  | 5 => rfl
  | 6 => rfl
  | 7 => rfl
  | 8 => rfl
  | 9 => rfl
  | 10 => rfl
  | 11 => rfl
  | 12 => rfl
  | 13 => rfl
  | 14 => rfl
  | 15 => rfl
  | 16 => rfl
  | 17 => rfl
  | 18 => rfl
  | 19 => rfl
  | 20 => rfl
  | 21 => rfl
  | 22 => rfl
  | 23 => rfl
  | 24 => rfl
  | 25 => rfl
  | 26 => rfl
  | 27 => rfl
  | 28 => rfl
  | 29 => rfl
  | 30 => rfl
  | 31 => rfl
  | 32 => rfl
  | 33 => rfl
  | 34 => rfl
  | 35 => rfl
  | 36 => rfl
  | 37 => rfl
  | 38 => rfl
  | 39 => rfl
  | 40 => rfl
  | 41 => rfl
  | a + 42 => rfl
theorem zs_uT0 {h : q_H} {R : zR} {dt vr ow nx : Nat → Int32} : ∀ a : Nat, (tr_put (zs_put h R) 11 dt vr ow nx) a = zs_put h (z_sT R 0 (dt, vr, ow, nx)) a
  | 0 => rfl
  | 1 => rfl
  | 2 => rfl
  | 3 => rfl
  | 4 => rfl
  | 5 => rfl
  | 6 => rfl
  | 7 => rfl
  | 8 => rfl
  | 9 => rfl
  | 10 => rfl
  | 11 => rfl
  | 12 => rfl
  | 13 => rfl
  | 14 => rfl
  | 15 => rfl
  | 16 => rfl
  | 17 => rfl
  | 18 => rfl
  | 19 => rfl
  | 20 => rfl
  | 21 => rfl
  | 22 => rfl
  | 23 => rfl
  | 24 => rfl
  | 25 => rfl
  | 26 => rfl
  | 27 => rfl
  | 28 => rfl
  | 29 => rfl
  | 30 => rfl
  | 31 => rfl
  | 32 => rfl
  | 33 => rfl
  | 34 => rfl
  | 35 => rfl
  | 36 => rfl
  | 37 => rfl
  | 38 => rfl
  | 39 => rfl
  | 40 => rfl
  | 41 => rfl
  | a + 42 => rfl
theorem zs_uV1 {h : q_H} {R : zR} {lf : Nat → Option Nat} {ln ap ag : Nat} {up al : Bool} : ∀ a : Nat, (sv_put (zs_put h R) 16 lf ln ap ag up al) a = zs_put h (z_sV R 1 (lf, ln, ap, ag, up, al)) a
  | 0 => rfl
  | 1 => rfl
  | 2 => rfl
  | 3 => rfl
  | 4 => rfl
  | 5 => rfl
  | 6 => rfl
  | 7 => rfl
  | 8 => rfl
  | 9 => rfl
  | 10 => rfl
  | 11 => rfl
  | 12 => rfl
  | 13 => rfl
  | 14 => rfl
  | 15 => rfl
  | 16 => rfl
  | 17 => rfl
  | 18 => rfl
  | 19 => rfl
  | 20 => rfl
  | 21 => rfl
  | 22 => rfl
  | 23 => rfl
  | 24 => rfl
  | 25 => rfl
  | 26 => rfl
  | 27 => rfl
  | 28 => rfl
  | 29 => rfl
  | 30 => rfl
  | 31 => rfl
  | 32 => rfl
  | 33 => rfl
  | 34 => rfl
  | 35 => rfl
  | 36 => rfl
  | 37 => rfl
  | 38 => rfl
  | 39 => rfl
  | 40 => rfl
  | 41 => rfl
  | a + 42 => rfl
theorem zs_uT1 {h : q_H} {R : zR} {dt vr ow nx : Nat → Int32} : ∀ a : Nat, (tr_put (zs_put h R) 18 dt vr ow nx) a = zs_put h (z_sT R 1 (dt, vr, ow, nx)) a
  | 0 => rfl
  | 1 => rfl
  | 2 => rfl
  | 3 => rfl
  | 4 => rfl
  | 5 => rfl
  | 6 => rfl
  | 7 => rfl
  | 8 => rfl
  | 9 => rfl
  | 10 => rfl
  | 11 => rfl
  | 12 => rfl
  | 13 => rfl
  | 14 => rfl
  | 15 => rfl
  | 16 => rfl
  | 17 => rfl
  | 18 => rfl
  | 19 => rfl
  | 20 => rfl
  | 21 => rfl
  | 22 => rfl
  | 23 => rfl
  | 24 => rfl
  | 25 => rfl
  | 26 => rfl
  | 27 => rfl
  | 28 => rfl
  | 29 => rfl
  | 30 => rfl
  | 31 => rfl
  | 32 => rfl
  | 33 => rfl
  | 34 => rfl
  | 35 => rfl
  | 36 => rfl
  | 37 => rfl
  | 38 => rfl
  | 39 => rfl
  | 40 => rfl
  | 41 => rfl
  | a + 42 => rfl
theorem zs_uV2 {h : q_H} {R : zR} {lf : Nat → Option Nat} {ln ap ag : Nat} {up al : Bool} : ∀ a : Nat, (sv_put (zs_put h R) 23 lf ln ap ag up al) a = zs_put h (z_sV R 2 (lf, ln, ap, ag, up, al)) a
  | 0 => rfl
  | 1 => rfl
  | 2 => rfl
  | 3 => rfl
  | 4 => rfl
  | 5 => rfl
  | 6 => rfl
  | 7 => rfl
  | 8 => rfl
  | 9 => rfl
  | 10 => rfl
  | 11 => rfl
  | 12 => rfl
  | 13 => rfl
  | 14 => rfl
  | 15 => rfl
  | 16 => rfl
  | 17 => rfl
  | 18 => rfl
  | 19 => rfl
  | 20 => rfl
  | 21 => rfl
  | 22 => rfl
  | 23 => rfl
  | 24 => rfl
  | 25 => rfl
  | 26 => rfl
  | 27 => rfl
  | 28 => rfl
  | 29 => rfl
  | 30 => rfl
  | 31 => rfl
  | 32 => rfl
  | 33 => rfl
  | 34 => rfl
  | 35 => rfl
  | 36 => rfl
  | 37 => rfl
  | 38 => rfl
  | 39 => rfl
  | 40 => rfl
  | 41 => rfl
  | a + 42 => rfl
theorem zs_uT2 {h : q_H} {R : zR} {dt vr ow nx : Nat → Int32} : ∀ a : Nat, (tr_put (zs_put h R) 25 dt vr ow nx) a = zs_put h (z_sT R 2 (dt, vr, ow, nx)) a
  | 0 => rfl
  | 1 => rfl
  | 2 => rfl
  | 3 => rfl
  | 4 => rfl
  | 5 => rfl
  | 6 => rfl
  | 7 => rfl
  | 8 => rfl
  | 9 => rfl
  | 10 => rfl
  | 11 => rfl
  | 12 => rfl
  | 13 => rfl
  | 14 => rfl
  | 15 => rfl
  | 16 => rfl
  | 17 => rfl
  | 18 => rfl
  | 19 => rfl
  | 20 => rfl
  | 21 => rfl
  | 22 => rfl
  | 23 => rfl
  | 24 => rfl
  | 25 => rfl
  | 26 => rfl
  | 27 => rfl
  | 28 => rfl
  | 29 => rfl
  | 30 => rfl
  | 31 => rfl
  | 32 => rfl
  | 33 => rfl
  | 34 => rfl
  | 35 => rfl
  | 36 => rfl
  | 37 => rfl
  | 38 => rfl
  | 39 => rfl
  | 40 => rfl
  | 41 => rfl
  | a + 42 => rfl
theorem zs_uS0 {h : q_H} {R : zR} {w ev : Nat → Int32} {cn sv : Nat} {op du : Bool} {to he : Int32} : ∀ a : Nat, (ss_put (zs_put h R) 30 w ev cn op du sv to he) a = zs_put h (z_sS R 0 ((w, ev, cn), op, du, sv, to, he)) a
  | 0 => rfl
  | 1 => rfl
  | 2 => rfl
  | 3 => rfl
  | 4 => rfl
  | 5 => rfl
  | 6 => rfl
  | 7 => rfl
  | 8 => rfl
  | 9 => rfl
  | 10 => rfl
  | 11 => rfl
  | 12 => rfl
  | 13 => rfl
  | 14 => rfl
  | 15 => rfl
  | 16 => rfl
  | 17 => rfl
  | 18 => rfl
  | 19 => rfl
  | 20 => rfl
  | 21 => rfl
  | 22 => rfl
  | 23 => rfl
  | 24 => rfl
  | 25 => rfl
  | 26 => rfl
  | 27 => rfl
  | 28 => rfl
  | 29 => rfl
  | 30 => rfl
  | 31 => rfl
  | 32 => rfl
  | 33 => rfl
  | 34 => rfl
  | 35 => rfl
  | 36 => rfl
  | 37 => rfl
  | 38 => rfl
  | 39 => rfl
  | 40 => rfl
  | 41 => rfl
  | a + 42 => rfl
theorem zs_uS1 {h : q_H} {R : zR} {w ev : Nat → Int32} {cn sv : Nat} {op du : Bool} {to he : Int32} : ∀ a : Nat, (ss_put (zs_put h R) 33 w ev cn op du sv to he) a = zs_put h (z_sS R 1 ((w, ev, cn), op, du, sv, to, he)) a
  | 0 => rfl
  | 1 => rfl
  | 2 => rfl
  | 3 => rfl
  | 4 => rfl
  | 5 => rfl
  | 6 => rfl
  | 7 => rfl
  | 8 => rfl
  | 9 => rfl
  | 10 => rfl
  | 11 => rfl
  | 12 => rfl
  | 13 => rfl
  | 14 => rfl
  | 15 => rfl
  | 16 => rfl
  | 17 => rfl
  | 18 => rfl
  | 19 => rfl
  | 20 => rfl
  | 21 => rfl
  | 22 => rfl
  | 23 => rfl
  | 24 => rfl
  | 25 => rfl
  | 26 => rfl
  | 27 => rfl
  | 28 => rfl
  | 29 => rfl
  | 30 => rfl
  | 31 => rfl
  | 32 => rfl
  | 33 => rfl
  | 34 => rfl
  | 35 => rfl
  | 36 => rfl
  | 37 => rfl
  | 38 => rfl
  | 39 => rfl
  | 40 => rfl
  | 41 => rfl
  | a + 42 => rfl
theorem zs_uS2 {h : q_H} {R : zR} {w ev : Nat → Int32} {cn sv : Nat} {op du : Bool} {to he : Int32} : ∀ a : Nat, (ss_put (zs_put h R) 36 w ev cn op du sv to he) a = zs_put h (z_sS R 2 ((w, ev, cn), op, du, sv, to, he)) a
  | 0 => rfl
  | 1 => rfl
  | 2 => rfl
  | 3 => rfl
  | 4 => rfl
  | 5 => rfl
  | 6 => rfl
  | 7 => rfl
  | 8 => rfl
  | 9 => rfl
  | 10 => rfl
  | 11 => rfl
  | 12 => rfl
  | 13 => rfl
  | 14 => rfl
  | 15 => rfl
  | 16 => rfl
  | 17 => rfl
  | 18 => rfl
  | 19 => rfl
  | 20 => rfl
  | 21 => rfl
  | 22 => rfl
  | 23 => rfl
  | 24 => rfl
  | 25 => rfl
  | 26 => rfl
  | 27 => rfl
  | 28 => rfl
  | 29 => rfl
  | 30 => rfl
  | 31 => rfl
  | 32 => rfl
  | 33 => rfl
  | 34 => rfl
  | 35 => rfl
  | 36 => rfl
  | 37 => rfl
  | 38 => rfl
  | 39 => rfl
  | 40 => rfl
  | 41 => rfl
  | a + 42 => rfl
theorem zs_uS3 {h : q_H} {R : zR} {w ev : Nat → Int32} {cn sv : Nat} {op du : Bool} {to he : Int32} : ∀ a : Nat, (ss_put (zs_put h R) 39 w ev cn op du sv to he) a = zs_put h (z_sS R 3 ((w, ev, cn), op, du, sv, to, he)) a
  | 0 => rfl
  | 1 => rfl
  | 2 => rfl
  | 3 => rfl
  | 4 => rfl
  | 5 => rfl
  | 6 => rfl
  | 7 => rfl
  | 8 => rfl
  | 9 => rfl
  | 10 => rfl
  | 11 => rfl
  | 12 => rfl
  | 13 => rfl
  | 14 => rfl
  | 15 => rfl
  | 16 => rfl
  | 17 => rfl
  | 18 => rfl
  | 19 => rfl
  | 20 => rfl
  | 21 => rfl
  | 22 => rfl
  | 23 => rfl
  | 24 => rfl
  | 25 => rfl
  | 26 => rfl
  | 27 => rfl
  | 28 => rfl
  | 29 => rfl
  | 30 => rfl
  | 31 => rfl
  | 32 => rfl
  | 33 => rfl
  | 34 => rfl
  | 35 => rfl
  | 36 => rfl
  | 37 => rfl
  | 38 => rfl
  | 39 => rfl
  | 40 => rfl
  | 41 => rfl
  | a + 42 => rfl
theorem zs_uV {h : q_H} {R : zR} {i : Nat} (hi : i < 3) {lf : Nat → Option Nat} {ln ap ag : Nat} {up al : Bool} : sv_put (zs_put h R) (9 + 7 * i) lf ln ap ag up al = zs_put h (z_sV R i (lf, ln, ap, ag, up, al)) := by
  rcases (by omega : i = 0 ∨ i = 1 ∨ i = 2) with rfl | rfl | rfl
  · exact funext zs_uV0
  · exact funext zs_uV1
  · exact funext zs_uV2
theorem zs_uT {h : q_H} {R : zR} {i : Nat} (hi : i < 3) {dt vr ow nx : Nat → Int32} : tr_put (zs_put h R) (9 + 7 * i + 2) dt vr ow nx = zs_put h (z_sT R i (dt, vr, ow, nx)) := by
  rcases (by omega : i = 0 ∨ i = 1 ∨ i = 2) with rfl | rfl | rfl
  · exact funext zs_uT0
  · exact funext zs_uT1
  · exact funext zs_uT2
theorem zs_uS {h : q_H} {R : zR} {j : Nat} (hj : j < 4) {w ev : Nat → Int32} {cn sv : Nat} {op du : Bool} {to he : Int32} : ss_put (zs_put h R) (30 + 3 * j) w ev cn op du sv to he = zs_put h (z_sS R j ((w, ev, cn), op, du, sv, to, he)) := by
  rcases (by omega : j = 0 ∨ j = 1 ∨ j = 2 ∨ j = 3) with rfl | rfl | rfl | rfl
  · exact funext zs_uS0
  · exact funext zs_uS1
  · exact funext zs_uS2
  · exact funext zs_uS3
theorem zs_uh {h : q_H} {R : zR} {a : Nat} {e : q_E} (ha : 41 < a) : q_up (zs_put h R) a e = zs_put (q_up h a e) R := by
  funext b
  by_cases c : b = a
  · subst c
    rw [q_up_s, zs_hi ha, q_up_s]
  · rw [q_up_n _ c]
    unfold zs_put
    cases zc R b with
    | some e => rfl
    | none => exact (q_up_n _ c).symm
theorem ldI_m1 {o : Option Nat} (h : ∀ i, o = some i → i < 3) : ldI o = -1 ↔ o = none := by
  cases o with
  | none => exact ⟨fun _ => rfl, fun _ => rfl⟩
  | some i =>
    have := h i rfl
    refine ⟨fun z => ?_, fun z => nomatch z⟩
    rcases (by omega : i = 0 ∨ i = 1 ∨ i = 2) with rfl | rfl | rfl <;> exact absurd z (by decide)
end
section
/-! THE CLASS: its checks -/
/-- a check: it returns where ok, else it throws E; nothing changes -/
def q_Rq (ok : Prop) (E : String) (h : q_H) (N : Nat) : q_Q := fun o h' N' => h' = h ∧ N ≤ N' ∧ ((ok ∧ o = .inl none ∧ N' = N) ∨ (¬ ok ∧ o = .inr E))
def z_on (R : zR) (i : Nat) : Bool := v_up (z_V R i) && !v_al (z_V R i)
/-- LINKED -/
def z_lk (R : zR) (i : Nat) : Bool := match z_ld R with
  | none => false
  | some k => z_on R k && z_on R i
/-- QUORUM -/
def z_qr (R : zR) : Bool := decide (2 ≤ cntB (z_lk R) 3)
def z_ok (R : zR) : Prop := ∀ k, z_ld R = some k → k < 3
theorem q_of4 {x : Int32} (h : nI 0 ≤ x ∧ x ≤ nI 3) : ∃ j, j < 4 ∧ x = nI j := by
  obtain ⟨j, h1, h2⟩ := nI_of2 (x := x) (M := nI 3) (n := 3) (by decide) (fun z => absurd (Int32.lt_iff_toInt_lt.mp z) (by have := Int32.le_iff_toInt_le.mp h.1; exact Int.not_lt.mpr this)) h.2
  exact ⟨j, by omega, h2⟩
theorem q_ofN {x : Int32} {n : Nat} (hn : n < 2 ^ 31) (h : nI 0 ≤ x ∧ x ≤ nI n) : ∃ j, j ≤ n ∧ x = nI j := nI_of2 (x := x) (M := nI n) (n := n) (nI_toInt hn) (fun z => absurd (Int32.lt_iff_toInt_lt.mp z) (by have := Int32.le_iff_toInt_le.mp h.1; exact Int.not_lt.mpr this)) h.2
theorem i_nlt {x y : Int32} (h : ¬ x < y) : y ≤ x := Int32.le_iff_toInt_le.mpr (Int.not_lt.mp (fun z => h (Int32.lt_iff_toInt_lt.mpr z)))
theorem i_nle {x y : Int32} (h : ¬ x ≤ y) : y < x := Int32.lt_iff_toInt_lt.mpr (Int.not_le.mp (fun z => h (Int32.le_iff_toInt_le.mpr z)))
theorem i_ltn {x y : Int32} (h : x < y) : ¬ y ≤ x := fun z => absurd (Int32.lt_iff_toInt_lt.mp h) (Int.not_lt.mpr (Int32.le_iff_toInt_le.mp z))
set_option maxHeartbeats 4000000 in
set_option maxRecDepth 100000 in
theorem c_zs_requireRange {l : Launch} {G : q_G} (htr : l.stackTraces = false) {h : q_H} {N : Nat} {x a b : Int32} : q_Met l G m_zs_requireRange 6 85 1 6 [.int (x), .int (a), .int (b)] h N (q_Rq (a ≤ x ∧ x ≤ b) "java/lang/IllegalArgumentException" h N) := by
  refine q_Met.mk htr (by decide +kernel) rfl (List.forall_mem_cons.mpr ⟨rfl, List.forall_mem_cons.mpr ⟨rfl, List.forall_mem_cons.mpr ⟨rfl, fun _ h => nomatch h⟩⟩⟩) (Nat.le_of_ble_eq_true rfl) ?_
  refine e_iload_n (pc := 0) d_zs_requireRange_0 rfl ?_
  refine e_iload_n (pc := 1) d_zs_requireRange_1 rfl ?_
  refine e_icmp_lt (pc := 2) (tgt := 10) d_zs_requireRange_2 (by decide) (fun c => ?_) (fun c => ?_)
  · exact e_throw (pc := 10) rfl xx_zs_217 d_zs_requireRange_10 d_zs_requireRange_13 d_zs_requireRange_14 d_zs_requireRange_17 (by decide) (Nat.le_of_ble_eq_true rfl) (by omega) (by omega) (fun N2 hN => ⟨rfl, hN, Or.inr ⟨fun z => i_ltn c z.1, rfl⟩⟩)
  · refine e_iload_n (pc := 5) d_zs_requireRange_5 rfl ?_
    refine e_iload_n (pc := 6) d_zs_requireRange_6 rfl ?_
    refine e_icmp_le (pc := 7) (tgt := 18) d_zs_requireRange_7 (by decide) (fun c2 => ?_) (fun c2 => ?_)
    · exact e_vret (pc := 18) d_zs_requireRange_18 rfl (⟨rfl, Nat.le_refl _, Or.inl ⟨⟨i_nlt c, c2⟩, rfl, rfl⟩⟩)
    · exact e_throw (pc := 10) rfl xx_zs_217 d_zs_requireRange_10 d_zs_requireRange_13 d_zs_requireRange_14 d_zs_requireRange_17 (by decide) (Nat.le_of_ble_eq_true rfl) (by omega) (by omega) (fun N2 hN => ⟨rfl, hN, Or.inr ⟨fun z => c2 z.2, rfl⟩⟩)
set_option maxHeartbeats 4000000 in
set_option maxRecDepth 100000 in
theorem c_zs_requireSession {l : Launch} {G : q_G} (htr : l.stackTraces = false) {h : q_H} {N : Nat} {x : Int32} : q_Met l G m_zs_requireSession 7 107 1 6 [.int (x)] h N (q_Rq (nI 0 ≤ x ∧ x ≤ nI 3) "java/lang/IllegalArgumentException" h N) := by
  refine q_Met.mk htr (by decide +kernel) rfl (List.forall_mem_cons.mpr ⟨rfl, fun _ h => nomatch h⟩) (Nat.le_of_ble_eq_true rfl) ?_
  refine e_iload_n (pc := 0) d_zs_requireSession_0 rfl ?_
  refine e_iconst (pc := 1) d_zs_requireSession_1 (v := (nI (0))) rfl ?_
  refine e_iconst (pc := 2) d_zs_requireSession_2 (v := (nI (3))) rfl ?_
  refine e_callS (As := [.int (x), .int (nI (0)), .int (nI (3))]) (st := []) (cc2 := 0) (ss2 := 0) (pc := 3) d_zs_requireSession_3 rfl cs_zs_47 (c_zs_requireRange htr) rfl (by decide) (by decide) (by omega) (by omega) (Nat.le_of_ble_eq_true rfl) (fun _ _ _ hq => ⟨hq.1, hq.2.1, hq.2.2.elim (fun z => nomatch z.2.1) (fun z => Or.inr z)⟩) (fun r h2 N2 hq => ?_)
  obtain ⟨e1, -, ⟨hok, hr, e2⟩ | ⟨-, hr⟩⟩ := hq; rotate_left; exact nomatch hr
  cases hr
  rw [e1, e2]
  clear e1 e2
  show q_Ev l G m_zs_requireSession 7 107 0 0 6 [some (.int (x))] [] h N _
  exact e_vret (pc := 6) d_zs_requireSession_6 rfl (⟨rfl, Nat.le_refl _, Or.inl ⟨hok, rfl, rfl⟩⟩)
set_option maxHeartbeats 4000000 in
set_option maxRecDepth 100000 in
theorem c_zs_requireServer {l : Launch} {G : q_G} (htr : l.stackTraces = false) {h : q_H} {N : Nat} {x : Int32} : q_Met l G m_zs_requireServer 7 107 1 6 [.int (x)] h N (q_Rq (nI 0 ≤ x ∧ x ≤ nI 2) "java/lang/IllegalArgumentException" h N) := by
  refine q_Met.mk htr (by decide +kernel) rfl (List.forall_mem_cons.mpr ⟨rfl, fun _ h => nomatch h⟩) (Nat.le_of_ble_eq_true rfl) ?_
  refine e_iload_n (pc := 0) d_zs_requireServer_0 rfl ?_
  refine e_iconst (pc := 1) d_zs_requireServer_1 (v := (nI (0))) rfl ?_
  refine e_iconst (pc := 2) d_zs_requireServer_2 (v := (nI (2))) rfl ?_
  refine e_callS (As := [.int (x), .int (nI (0)), .int (nI (2))]) (st := []) (cc2 := 0) (ss2 := 0) (pc := 3) d_zs_requireServer_3 rfl cs_zs_47 (c_zs_requireRange htr) rfl (by decide) (by decide) (by omega) (by omega) (Nat.le_of_ble_eq_true rfl) (fun _ _ _ hq => ⟨hq.1, hq.2.1, hq.2.2.elim (fun z => nomatch z.2.1) (fun z => Or.inr z)⟩) (fun r h2 N2 hq => ?_)
  obtain ⟨e1, -, ⟨hok, hr, e2⟩ | ⟨-, hr⟩⟩ := hq; rotate_left; exact nomatch hr
  cases hr
  rw [e1, e2]
  clear e1 e2
  show q_Ev l G m_zs_requireServer 7 107 0 0 6 [some (.int (x))] [] h N _
  exact e_vret (pc := 6) d_zs_requireServer_6 rfl (⟨rfl, Nat.le_refl _, Or.inl ⟨hok, rfl, rfl⟩⟩)
set_option maxHeartbeats 4000000 in
set_option maxRecDepth 100000 in
theorem c_zs_requirePath {l : Launch} {G : q_G} (htr : l.stackTraces = false) {h : q_H} {N : Nat} {x : Int32} : q_Met l G m_zs_requirePath 7 107 1 6 [.int (x)] h N (q_Rq (nI 0 ≤ x ∧ x ≤ nI 258) "java/lang/IllegalArgumentException" h N) := by
  refine q_Met.mk htr (by decide +kernel) rfl (List.forall_mem_cons.mpr ⟨rfl, fun _ h => nomatch h⟩) (Nat.le_of_ble_eq_true rfl) ?_
  refine e_iload_n (pc := 0) d_zs_requirePath_0 rfl ?_
  refine e_iconst (pc := 1) d_zs_requirePath_1 (v := (nI (0))) rfl ?_
  refine e_sipush (pc := 2) d_zs_requirePath_2 (v := (nI (258))) rfl ?_
  refine e_callS (As := [.int (x), .int (nI (0)), .int (nI (258))]) (st := []) (cc2 := 0) (ss2 := 0) (pc := 5) d_zs_requirePath_5 rfl cs_zs_47 (c_zs_requireRange htr) rfl (by decide) (by decide) (by omega) (by omega) (Nat.le_of_ble_eq_true rfl) (fun _ _ _ hq => ⟨hq.1, hq.2.1, hq.2.2.elim (fun z => nomatch z.2.1) (fun z => Or.inr z)⟩) (fun r h2 N2 hq => ?_)
  obtain ⟨e1, -, ⟨hok, hr, e2⟩ | ⟨-, hr⟩⟩ := hq; rotate_left; exact nomatch hr
  cases hr
  rw [e1, e2]
  clear e1 e2
  show q_Ev l G m_zs_requirePath 7 107 0 0 8 [some (.int (x))] [] h N _
  exact e_vret (pc := 8) d_zs_requirePath_8 rfl (⟨rfl, Nat.le_refl _, Or.inl ⟨hok, rfl, rfl⟩⟩)
set_option maxHeartbeats 4000000 in
set_option maxRecDepth 100000 in
theorem c_zs_requireVersion {l : Launch} {G : q_G} (htr : l.stackTraces = false) {h : q_H} {N : Nat} {x : Int32} : q_Met l G m_zs_requireVersion 6 85 1 6 [.int (x)] h N (q_Rq (-1 ≤ x) "java/lang/IllegalArgumentException" h N) := by
  refine q_Met.mk htr (by decide +kernel) rfl (List.forall_mem_cons.mpr ⟨rfl, fun _ h => nomatch h⟩) (Nat.le_of_ble_eq_true rfl) ?_
  refine e_iload_n (pc := 0) d_zs_requireVersion_0 rfl ?_
  refine e_iconst (pc := 1) d_zs_requireVersion_1 (v := (-1)) rfl ?_
  refine e_icmp_ge (pc := 2) (tgt := 13) d_zs_requireVersion_2 (by decide) (fun c => ?_) (fun c => ?_)
  · exact e_vret (pc := 13) d_zs_requireVersion_13 rfl (⟨rfl, Nat.le_refl _, Or.inl ⟨c, rfl, rfl⟩⟩)
  · exact e_throw (pc := 5) rfl xx_zs_217 d_zs_requireVersion_5 d_zs_requireVersion_8 d_zs_requireVersion_9 d_zs_requireVersion_12 (by decide) (Nat.le_of_ble_eq_true rfl) (by omega) (by omega) (fun N2 hN => ⟨rfl, hN, Or.inr ⟨c, rfl⟩⟩)
set_option maxHeartbeats 4000000 in
set_option maxRecDepth 100000 in
theorem c_zs_requireNode {l : Launch} {G : q_G} (htr : l.stackTraces = false) {h : q_H} {N : Nat} {t : Nat} {dt vr ow nx : Nat → Int32} (hT : tr_At h t dt vr ow nx) {p : Nat} (hp : p < 259) : q_Met l G m_zs_requireNode 6 85 1 6 [.ref (t), .int (nI (p))] h N (q_Rq (vr p ≠ -1) "java/util/NoSuchElementException" h N) := by
  refine q_Met.mk htr (by decide +kernel) rfl (List.forall_mem_cons.mpr ⟨rfl, List.forall_mem_cons.mpr ⟨rfl, fun _ h => nomatch h⟩⟩) (Nat.le_of_ble_eq_true rfl) ?_
  refine e_aload_n (pc := 0) d_zs_requireNode_0 rfl ?_
  refine e_iload_n (pc := 1) d_zs_requireNode_1 rfl ?_
  refine e_callV (As := [.int (nI (p))]) (st := []) (cc2 := 1) (ss2 := 6) (pc := 2) d_zs_requireNode_2 rfl cv_zs_127 hT.1 rfl (c_tr_has htr hT hp) rfl (by decide) (by decide) (by omega) (by omega) (Nat.le_of_ble_eq_true rfl) (fun _ _ _ hq => nomatch hq.1) (fun r h2 N2 hq => ?_)
  obtain ⟨hr, e1, e2⟩ := hq
  cases hr
  rw [e1, e2]
  clear e1 e2
  show q_Ev l G m_zs_requireNode 6 85 1 6 5 [some (.ref (t)), some (.int (nI (p)))] [.int (bI (decide (vr p ≠ -1)))] h N _
  refine e_ifB_ne (pc := 5) (tgt := 16) d_zs_requireNode_5 (by decide) (fun c => ?_) (fun c => ?_)
  · exact e_vret (pc := 16) d_zs_requireNode_16 rfl (⟨rfl, Nat.le_refl _, Or.inl ⟨of_decide_eq_true c, rfl, rfl⟩⟩)
  · exact e_throw (pc := 8) rfl xx_zs_169 d_zs_requireNode_8 d_zs_requireNode_11 d_zs_requireNode_12 d_zs_requireNode_15 (by decide) (Nat.le_of_ble_eq_true rfl) (by omega) (by omega) (fun N2 hN => ⟨rfl, hN, Or.inr ⟨of_decide_eq_false c, rfl⟩⟩)
set_option maxHeartbeats 4000000 in
set_option maxRecDepth 100000 in
theorem c_zs_isLinked {l : Launch} {G : q_G} (htr : l.stackTraces = false) {h : q_H} {N : Nat} {R : zR} (hR : z_ok R) {i : Nat} (hi : i < 3) : q_Met l G m_zs_isLinked 1 20 0 0 [.ref (1), .int (nI (i))] (zs_put h R) N (q_Id (some (.int (bI (z_lk R i)))) (zs_put h R) N) := by
  refine q_Met.mk htr (by decide +kernel) rfl (List.forall_mem_cons.mpr ⟨rfl, List.forall_mem_cons.mpr ⟨rfl, fun _ h => nomatch h⟩⟩) (Nat.le_of_ble_eq_true rfl) ?_
  refine e_aload_n (pc := 0) d_zs_isLinked_0 rfl ?_
  refine e_get (pc := 1) d_zs_isLinked_1 fl_zs_28 zs_g1 rfl ?_
  refine e_iconst (pc := 4) d_zs_isLinked_4 (v := (-1)) rfl ?_
  refine e_icmp_eq (pc := 5) (tgt := 39) d_zs_isLinked_5 (by decide) (fun c => ?_) (fun c => ?_)
  · have hl := (ldI_m1 hR).mp c
    refine e_iconst (pc := 39) d_zs_isLinked_39 (v := (bI (false))) rfl ?_
    exact e_retB (pc := 40) d_zs_isLinked_40 rfl (⟨by simp only [z_lk, hl], rfl, rfl⟩)
  · obtain ⟨k, hl⟩ : ∃ k, z_ld R = some k := by cases hx : z_ld R with | none => exact absurd (by rw [hx]; rfl) c | some k => exact ⟨k, rfl⟩
    have hk := hR k hl
    refine e_aload_n (pc := 8) d_zs_isLinked_8 rfl ?_
    refine e_get (pc := 9) d_zs_isLinked_9 fl_zs_11 zs_g1 rfl ?_
    refine e_aload_n (pc := 12) d_zs_isLinked_12 rfl ?_
    refine e_get (pc := 13) d_zs_isLinked_13 fl_zs_28 zs_g1 rfl ?_
    rw [show ldI (z_ld R) = nI k by rw [hl]; rfl]
    refine e_aaldN (pc := 16) d_zs_isLinked_16 zs_g2 (fun _ => rfl) (by omega) (by decide) rfl ?_
    refine e_callV (As := []) (st := []) (cc2 := 0) (ss2 := 0) (pc := 17) d_zs_isLinked_17 rfl cv_zs_191 (zs_v hk).1 rfl (c_sv_isOnline htr (zs_v hk)) rfl (by decide) (by decide) (by omega) (by omega) (Nat.le_of_ble_eq_true rfl) (fun _ _ _ hq => nomatch hq.1) (fun r h2 N2 hq => ?_)
    obtain ⟨hr, e1, e2⟩ := hq
    cases hr
    rw [e1, e2]
    clear e1 e2
    show q_Ev l G m_zs_isLinked 1 20 0 0 20 [some (.ref (1)), some (.int (nI (i)))] [.int (bI (z_on R k))] (zs_put h R) N _
    refine e_ifB_eq (pc := 20) (tgt := 39) d_zs_isLinked_20 (by decide) (fun c2 => ?_) (fun c2 => ?_)
    · refine e_iconst (pc := 39) d_zs_isLinked_39 (v := (bI (false))) rfl ?_
      exact e_retB (pc := 40) d_zs_isLinked_40 rfl (⟨by simp only [z_lk, hl, c2]; rfl, rfl, rfl⟩)
    · refine e_aload_n (pc := 23) d_zs_isLinked_23 rfl ?_
      refine e_get (pc := 24) d_zs_isLinked_24 fl_zs_11 zs_g1 rfl ?_
      refine e_iload_n (pc := 27) d_zs_isLinked_27 rfl ?_
      refine e_aaldN (pc := 28) d_zs_isLinked_28 zs_g2 (fun _ => rfl) (by omega) (by decide) rfl ?_
      refine e_callV (As := []) (st := []) (cc2 := 0) (ss2 := 0) (pc := 29) d_zs_isLinked_29 rfl cv_zs_191 (zs_v hi).1 rfl (c_sv_isOnline htr (zs_v hi)) rfl (by decide) (by decide) (by omega) (by omega) (Nat.le_of_ble_eq_true rfl) (fun _ _ _ hq => nomatch hq.1) (fun r h2 N2 hq => ?_)
      obtain ⟨hr, e1, e2⟩ := hq
      cases hr
      rw [e1, e2]
      clear e1 e2
      show q_Ev l G m_zs_isLinked 1 20 0 0 32 [some (.ref (1)), some (.int (nI (i)))] [.int (bI (z_on R i))] (zs_put h R) N _
      refine e_ifB_eq (pc := 32) (tgt := 39) d_zs_isLinked_32 (by decide) (fun c3 => ?_) (fun c3 => ?_)
      · refine e_iconst (pc := 39) d_zs_isLinked_39 (v := (bI (false))) rfl ?_
        exact e_retB (pc := 40) d_zs_isLinked_40 rfl (⟨by simp only [z_lk, hl, c2, c3]; rfl, rfl, rfl⟩)
      · refine e_iconst (pc := 35) d_zs_isLinked_35 (v := (bI (true))) rfl ?_
        refine e_goto (pc := 36) (tgt := 40) d_zs_isLinked_36 (by decide) ?_
        exact e_retB (pc := 40) d_zs_isLinked_40 rfl (⟨by simp only [z_lk, hl, c2, c3]; rfl, rfl, rfl⟩)
set_option maxHeartbeats 4000000 in
set_option maxRecDepth 100000 in
theorem lp_zs_hasQuorum {l : Launch} {G : q_G} (htr : l.stackTraces = false) {h : q_H} {N : Nat} {R : zR} (hR : z_ok R) : ∀ (g k : Nat), 3 < k + g → k ≤ 3 → q_Ev l G m_zs_hasQuorum 2 41 0 0 4 [some (.ref (1)), some (.int (nI (cntB (z_lk R) k))), some (.int (nI (k)))] [] (zs_put h R) N (q_Id (some (.int (bI (z_qr R)))) (zs_put h R) N) := by
  intro g
  induction g with
  | zero => intro k hg hk; omega
  | succ g ih =>
    intro k hg hk
    have hle := cntB_le (z_lk R) k
    refine e_iload_n (pc := 4) d_zs_hasQuorum_4 rfl ?_
    refine e_iconst (pc := 5) d_zs_hasQuorum_5 (v := (nI (3))) rfl ?_
    refine e_icmp_geN (pc := 6) (tgt := 26) d_zs_hasQuorum_6 (by decide) (by omega) (by omega) (fun c => ?_) (fun c => ?_)
    · have hkn : k = 3 := by omega
      subst hkn
      refine e_iload_n (pc := 26) d_zs_hasQuorum_26 rfl ?_
      refine e_iconst (pc := 27) d_zs_hasQuorum_27 (v := (nI (2))) rfl ?_
      refine e_icmp_ltN (pc := 28) (tgt := 35) d_zs_hasQuorum_28 (by decide) (by omega) (by omega) (fun c2 => ?_) (fun c2 => ?_)
      · refine e_iconst (pc := 35) d_zs_hasQuorum_35 (v := (bI (false))) rfl ?_
        exact e_retB (pc := 36) d_zs_hasQuorum_36 rfl (⟨by simp only [z_qr, decide_eq_false (show ¬ 2 ≤ cntB (z_lk R) 3 by omega)], rfl, rfl⟩)
      · refine e_iconst (pc := 31) d_zs_hasQuorum_31 (v := (bI (true))) rfl ?_
        refine e_goto (pc := 32) (tgt := 36) d_zs_hasQuorum_32 (by decide) ?_
        exact e_retB (pc := 36) d_zs_hasQuorum_36 rfl (⟨by simp only [z_qr, decide_eq_true c2], rfl, rfl⟩)
    · refine e_aload_n (pc := 9) d_zs_hasQuorum_9 rfl ?_
      refine e_iload_n (pc := 10) d_zs_hasQuorum_10 rfl ?_
      refine e_callV (As := [.int (nI (k))]) (st := []) (cc2 := 0) (ss2 := 0) (pc := 11) d_zs_hasQuorum_11 rfl cv_zs_58 zs_g1 rfl (c_zs_isLinked htr hR c) rfl (by decide) (by decide) (by omega) (by omega) (Nat.le_of_ble_eq_true rfl) (fun _ _ _ hq => nomatch hq.1) (fun r h2 N2 hq => ?_)
      obtain ⟨hr, e1, e2⟩ := hq
      cases hr
      rw [e1, e2]
      clear e1 e2
      show q_Ev l G m_zs_hasQuorum 2 41 0 0 14 [some (.ref (1)), some (.int (nI (cntB (z_lk R) k))), some (.int (nI (k)))] [.int (bI (z_lk R k))] (zs_put h R) N _
      refine e_ifB_eq (pc := 14) (tgt := 20) d_zs_hasQuorum_14 (by decide) (fun c2 => ?_) (fun c2 => ?_)
      · refine e_iincN (pc := 20) d_zs_hasQuorum_20 (a := k) (b := 1) rfl rfl (by decide) ?_
        refine e_goto (pc := 23) (tgt := 4) d_zs_hasQuorum_23 (by decide) ?_
        have e : cntB (z_lk R) (k + 1) = cntB (z_lk R) k := by simp only [cntB, c2]; rfl
        have := ih (k + 1) (by omega) (by omega)
        rw [e] at this
        exact this
      · refine e_iincN (pc := 17) d_zs_hasQuorum_17 (a := cntB (z_lk R) k) (b := 1) rfl rfl (by decide) ?_
        refine e_iincN (pc := 20) d_zs_hasQuorum_20 (a := k) (b := 1) rfl rfl (by decide) ?_
        refine e_goto (pc := 23) (tgt := 4) d_zs_hasQuorum_23 (by decide) ?_
        have e : cntB (z_lk R) (k + 1) = cntB (z_lk R) k + 1 := by simp only [cntB, c2]; rfl
        have := ih (k + 1) (by omega) (by omega)
        rw [e] at this
        exact this
set_option maxHeartbeats 4000000 in
set_option maxRecDepth 100000 in
theorem c_zs_hasQuorum {l : Launch} {G : q_G} (htr : l.stackTraces = false) {h : q_H} {N : Nat} {R : zR} (hR : z_ok R) : q_Met l G m_zs_hasQuorum 2 41 0 0 [.ref (1)] (zs_put h R) N (q_Id (some (.int (bI (z_qr R)))) (zs_put h R) N) := by
  refine q_Met.mk htr (by decide +kernel) rfl (List.forall_mem_cons.mpr ⟨rfl, fun _ h => nomatch h⟩) (Nat.le_of_ble_eq_true rfl) ?_
  refine e_iconst (pc := 0) d_zs_hasQuorum_0 (v := (nI (0))) rfl ?_
  refine e_istore_n (pc := 1) d_zs_hasQuorum_1 (by decide) ?_
  refine e_iconst (pc := 2) d_zs_hasQuorum_2 (v := (nI (0))) rfl ?_
  refine e_istore_n (pc := 3) d_zs_hasQuorum_3 (by decide) ?_
  exact lp_zs_hasQuorum htr hR 4 0 (by omega) (by omega)
set_option maxHeartbeats 4000000 in
set_option maxRecDepth 100000 in
theorem c_zs_requireQuorum {l : Launch} {G : q_G} (htr : l.stackTraces = false) {h : q_H} {N : Nat} {R : zR} (hR : z_ok R) : q_Met l G m_zs_requireQuorum 6 85 1 6 [.ref (1)] (zs_put h R) N (q_Rq (z_qr R = true) "java/lang/IllegalStateException" (zs_put h R) N) := by
  refine q_Met.mk htr (by decide +kernel) rfl (List.forall_mem_cons.mpr ⟨rfl, fun _ h => nomatch h⟩) (Nat.le_of_ble_eq_true rfl) ?_
  refine e_aload_n (pc := 0) d_zs_requireQuorum_0 rfl ?_
  refine e_callV (As := []) (st := []) (cc2 := 1) (ss2 := 6) (pc := 1) d_zs_requireQuorum_1 rfl cv_zs_62 zs_g1 rfl (c_zs_hasQuorum htr hR) rfl (by decide) (by decide) (by omega) (by omega) (Nat.le_of_ble_eq_true rfl) (fun _ _ _ hq => nomatch hq.1) (fun r h2 N2 hq => ?_)
  obtain ⟨hr, e1, e2⟩ := hq
  cases hr
  rw [e1, e2]
  clear e1 e2
  show q_Ev l G m_zs_requireQuorum 6 85 1 6 4 [some (.ref (1))] [.int (bI (z_qr R))] (zs_put h R) N _
  refine e_ifB_ne (pc := 4) (tgt := 15) d_zs_requireQuorum_4 (by decide) (fun c => ?_) (fun c => ?_)
  · exact e_vret (pc := 15) d_zs_requireQuorum_15 rfl (⟨rfl, Nat.le_refl _, Or.inl ⟨c, rfl, rfl⟩⟩)
  · exact e_throw (pc := 7) rfl xx_zs_66 d_zs_requireQuorum_7 d_zs_requireQuorum_10 d_zs_requireQuorum_11 d_zs_requireQuorum_14 (by decide) (Nat.le_of_ble_eq_true rfl) (by omega) (by omega) (fun N2 hN => ⟨rfl, hN, Or.inr ⟨by rw [c]; decide, rfl⟩⟩)
set_option maxHeartbeats 4000000 in
set_option maxRecDepth 100000 in
theorem c_zs_requireOpen {l : Launch} {G : q_G} (htr : l.stackTraces = false) {h : q_H} {N : Nat} {R : zR} {j : Nat} (hj : j < 4) : q_Met l G m_zs_requireOpen 6 85 1 6 [.ref (1), .int (nI (j))] (zs_put h R) N (q_Rq (s_op (z_S R j) = true) "java/lang/IllegalStateException" (zs_put h R) N) := by
  refine q_Met.mk htr (by decide +kernel) rfl (List.forall_mem_cons.mpr ⟨rfl, List.forall_mem_cons.mpr ⟨rfl, fun _ h => nomatch h⟩⟩) (Nat.le_of_ble_eq_true rfl) ?_
  refine e_aload_n (pc := 0) d_zs_requireOpen_0 rfl ?_
  refine e_get (pc := 1) d_zs_requireOpen_1 fl_zs_17 zs_g1 rfl ?_
  refine e_iload_n (pc := 4) d_zs_requireOpen_4 rfl ?_
  refine e_aaldN (pc := 5) d_zs_requireOpen_5 zs_g3 (fun _ => rfl) (by omega) (by decide) rfl ?_
  refine e_get (pc := 6) d_zs_requireOpen_6 fl_zs_51 (zs_s hj).1 rfl ?_
  refine e_ifB_ne (pc := 9) (tgt := 20) d_zs_requireOpen_9 (by decide) (fun c => ?_) (fun c => ?_)
  · exact e_vret (pc := 20) d_zs_requireOpen_20 rfl (⟨rfl, Nat.le_refl _, Or.inl ⟨c, rfl, rfl⟩⟩)
  · exact e_throw (pc := 12) rfl xx_zs_66 d_zs_requireOpen_12 d_zs_requireOpen_15 d_zs_requireOpen_16 d_zs_requireOpen_19 (by decide) (Nat.le_of_ble_eq_true rfl) (by omega) (by omega) (fun N2 hN => ⟨rfl, hN, Or.inr ⟨by rw [c]; decide, rfl⟩⟩)
set_option maxHeartbeats 4000000 in
set_option maxRecDepth 100000 in
theorem c_zs_isAt {l : Launch} {G : q_G} (htr : l.stackTraces = false) {h : q_H} {N : Nat} {R : zR} {j i : Nat} (hj : j < 4) (hi : i < 3) (hs : s_sv (z_S R j) < 3) : q_Met l G m_zs_isAt 0 0 0 0 [.ref (1), .int (nI (j)), .int (nI (i))] (zs_put h R) N (q_Id (some (.int (bI (s_op (z_S R j) && decide (s_sv (z_S R j) = i))))) (zs_put h R) N) := by
  refine q_Met.mk htr (by decide +kernel) rfl (List.forall_mem_cons.mpr ⟨rfl, List.forall_mem_cons.mpr ⟨rfl, List.forall_mem_cons.mpr ⟨rfl, fun _ h => nomatch h⟩⟩⟩) (Nat.le_of_ble_eq_true rfl) ?_
  refine e_aload_n (pc := 0) d_zs_isAt_0 rfl ?_
  refine e_get (pc := 1) d_zs_isAt_1 fl_zs_17 zs_g1 rfl ?_
  refine e_iload_n (pc := 4) d_zs_isAt_4 rfl ?_
  refine e_aaldN (pc := 5) d_zs_isAt_5 zs_g3 (fun _ => rfl) (by omega) (by decide) rfl ?_
  refine e_get (pc := 6) d_zs_isAt_6 fl_zs_51 (zs_s hj).1 rfl ?_
  refine e_ifB_eq (pc := 9) (tgt := 29) d_zs_isAt_9 (by decide) (fun c => ?_) (fun c => ?_)
  · refine e_iconst (pc := 29) d_zs_isAt_29 (v := (bI (false))) rfl ?_
    exact e_retB (pc := 30) d_zs_isAt_30 rfl (⟨by simp only [c]; rfl, rfl, rfl⟩)
  · refine e_aload_n (pc := 12) d_zs_isAt_12 rfl ?_
    refine e_get (pc := 13) d_zs_isAt_13 fl_zs_17 zs_g1 rfl ?_
    refine e_iload_n (pc := 16) d_zs_isAt_16 rfl ?_
    refine e_aaldN (pc := 17) d_zs_isAt_17 zs_g3 (fun _ => rfl) (by omega) (by decide) rfl ?_
    refine e_get (pc := 18) d_zs_isAt_18 fl_zs_100 (zs_s hj).1 rfl ?_
    refine e_iload_n (pc := 21) d_zs_isAt_21 rfl ?_
    refine e_icmp_neN (pc := 22) (tgt := 29) d_zs_isAt_22 (by decide) (by omega) (by omega) (fun c2 => ?_) (fun c2 => ?_)
    · refine e_iconst (pc := 29) d_zs_isAt_29 (v := (bI (false))) rfl ?_
      exact e_retB (pc := 30) d_zs_isAt_30 rfl (⟨by simp only [c, decide_eq_false c2]; rfl, rfl, rfl⟩)
    · refine e_iconst (pc := 25) d_zs_isAt_25 (v := (bI (true))) rfl ?_
      refine e_goto (pc := 26) (tgt := 30) d_zs_isAt_26 (by decide) ?_
      exact e_retB (pc := 30) d_zs_isAt_30 rfl (⟨by simp only [c, decide_eq_true c2]; rfl, rfl, rfl⟩)
end
section
/-! THE CLASS: reach, treeOf, isOtherVersion; any ENTRY played and heard -/
theorem ldI_eq {o : Option Nat} {i : Nat} (h : ∀ k, o = some k → k < 3) (hi : i < 3) : nI i = ldI o ↔ o = some i := by
  cases o with
  | none =>
    refine ⟨fun z => ?_, fun z => nomatch z⟩
    rcases (by omega : i = 0 ∨ i = 1 ∨ i = 2) with rfl | rfl | rfl <;> exact absurd z (by decide)
  | some k =>
    have hk := h k rfl
    show nI i = nI k ↔ _
    rw [nI_eq (by omega) (by omega)]
    exact ⟨fun z => by rw [z], fun z => (Option.some.inj z).symm⟩
/-- REACHES -/
def z_rc (R : zR) (j : Nat) : Bool := s_op (z_S R j) && v_up (z_V R (s_sv (z_S R j))) && (z_lk R (s_sv (z_S R j)) || decide (z_ld R = some (s_sv (z_S R j))))
/-- CONNECTED -/
def z_cn (R : zR) (j : Nat) : Bool := s_op (z_S R j) && v_up (z_V R (s_sv (z_S R j)))
def z_ow (R : zR) (p : Nat) (v : Int32) : Bool := decide (v ≠ -1 ∧ v ≠ (z_P R).2.1 p)
set_option maxHeartbeats 4000000 in
set_option maxRecDepth 100000 in
theorem c_zs_requireReach {l : Launch} {G : q_G} (htr : l.stackTraces = false) {h : q_H} {N : Nat} {R : zR} (hR : z_ok R) {j : Nat} (hj : j < 4) (hs : s_sv (z_S R j) < 3) : q_Met l G m_zs_requireReach 6 85 1 6 [.ref (1), .int (nI (j))] (zs_put h R) N (q_Rq (z_rc R j = true) "java/lang/IllegalStateException" (zs_put h R) N) := by
  refine q_Met.mk htr (by decide +kernel) rfl (List.forall_mem_cons.mpr ⟨rfl, List.forall_mem_cons.mpr ⟨rfl, fun _ h => nomatch h⟩⟩) (Nat.le_of_ble_eq_true rfl) ?_
  refine e_aload_n (pc := 0) d_zs_requireReach_0 rfl ?_
  refine e_get (pc := 1) d_zs_requireReach_1 fl_zs_17 zs_g1 rfl ?_
  refine e_iload_n (pc := 4) d_zs_requireReach_4 rfl ?_
  refine e_aaldN (pc := 5) d_zs_requireReach_5 zs_g3 (fun _ => rfl) (by omega) (by decide) rfl ?_
  refine e_astore_n (pc := 6) d_zs_requireReach_6 (by decide) ?_
  refine e_aload_n (pc := 7) d_zs_requireReach_7 rfl ?_
  refine e_get (pc := 8) d_zs_requireReach_8 fl_zs_51 (zs_s hj).1 rfl ?_
  refine e_ifB_eq (pc := 11) (tgt := 55) d_zs_requireReach_11 (by decide) (fun c1 => ?_) (fun c1 => ?_)
  · refine e_iconst (pc := 55) d_zs_requireReach_55 (v := (bI (false))) rfl ?_
    refine e_istore_n (pc := 56) d_zs_requireReach_56 (by decide) ?_
    refine e_iload_n (pc := 57) d_zs_requireReach_57 rfl ?_
    refine e_ifB_ne (pc := 58) (tgt := 69) d_zs_requireReach_58 (by decide) (fun z => nomatch z) (fun _ => ?_)
    exact e_throw (pc := 61) rfl xx_zs_66 d_zs_requireReach_61 d_zs_requireReach_64 d_zs_requireReach_65 d_zs_requireReach_68 (by decide) (Nat.le_of_ble_eq_true rfl) (by omega) (by omega) (fun N2 hN => ⟨rfl, hN, Or.inr ⟨by simp [z_rc, c1], rfl⟩⟩)
  · refine e_aload_n (pc := 14) d_zs_requireReach_14 rfl ?_
    refine e_get (pc := 15) d_zs_requireReach_15 fl_zs_11 zs_g1 rfl ?_
    refine e_aload_n (pc := 18) d_zs_requireReach_18 rfl ?_
    refine e_get (pc := 19) d_zs_requireReach_19 fl_zs_100 (zs_s hj).1 rfl ?_
    refine e_aaldN (pc := 22) d_zs_requireReach_22 zs_g2 (fun _ => rfl) (by omega) (by decide) rfl ?_
    refine e_get (pc := 23) d_zs_requireReach_23 fl_zs_97 (zs_v hs).1 rfl ?_
    refine e_ifB_eq (pc := 26) (tgt := 55) d_zs_requireReach_26 (by decide) (fun c2 => ?_) (fun c2 => ?_)
    · refine e_iconst (pc := 55) d_zs_requireReach_55 (v := (bI (false))) rfl ?_
      refine e_istore_n (pc := 56) d_zs_requireReach_56 (by decide) ?_
      refine e_iload_n (pc := 57) d_zs_requireReach_57 rfl ?_
      refine e_ifB_ne (pc := 58) (tgt := 69) d_zs_requireReach_58 (by decide) (fun z => nomatch z) (fun _ => ?_)
      exact e_throw (pc := 61) rfl xx_zs_66 d_zs_requireReach_61 d_zs_requireReach_64 d_zs_requireReach_65 d_zs_requireReach_68 (by decide) (Nat.le_of_ble_eq_true rfl) (by omega) (by omega) (fun N2 hN => ⟨rfl, hN, Or.inr ⟨by simp [z_rc, c1, c2], rfl⟩⟩)
    · refine e_aload_n (pc := 29) d_zs_requireReach_29 rfl ?_
      refine e_aload_n (pc := 30) d_zs_requireReach_30 rfl ?_
      refine e_get (pc := 31) d_zs_requireReach_31 fl_zs_100 (zs_s hj).1 rfl ?_
      refine e_callV (As := [.int (nI (s_sv (z_S R j)))]) (st := []) (cc2 := 1) (ss2 := 6) (pc := 34) d_zs_requireReach_34 rfl cv_zs_58 zs_g1 rfl (c_zs_isLinked htr hR hs) rfl (by decide) (by decide) (by omega) (by omega) (Nat.le_of_ble_eq_true rfl) (fun _ _ _ hq => nomatch hq.1) (fun r h2 N2 hq => ?_)
      obtain ⟨hr, e1, e2⟩ := hq
      cases hr
      rw [e1, e2]
      clear e1 e2
      show q_Ev l G m_zs_requireReach 6 85 1 6 37 [some (.ref (1)), some (.int (nI (j))), some (.ref (30 + 3 * (j))), none] [.int (bI (z_lk R (s_sv (z_S R j))))] (zs_put h R) N _
      refine e_ifB_ne (pc := 37) (tgt := 51) d_zs_requireReach_37 (by decide) (fun c3 => ?_) (fun c3 => ?_)
      · refine e_iconst (pc := 51) d_zs_requireReach_51 (v := (bI (true))) rfl ?_
        refine e_goto (pc := 52) (tgt := 56) d_zs_requireReach_52 (by decide) ?_
        refine e_istore_n (pc := 56) d_zs_requireReach_56 (by decide) ?_
        refine e_iload_n (pc := 57) d_zs_requireReach_57 rfl ?_
        refine e_ifB_ne (pc := 58) (tgt := 69) d_zs_requireReach_58 (by decide) (fun _ => ?_) (fun z => nomatch z)
        exact e_vret (pc := 69) d_zs_requireReach_69 rfl (⟨rfl, Nat.le_refl _, Or.inl ⟨by simp [z_rc, c1, c2, c3], rfl, rfl⟩⟩)
      · refine e_aload_n (pc := 40) d_zs_requireReach_40 rfl ?_
        refine e_get (pc := 41) d_zs_requireReach_41 fl_zs_100 (zs_s hj).1 rfl ?_
        refine e_aload_n (pc := 44) d_zs_requireReach_44 rfl ?_
        refine e_get (pc := 45) d_zs_requireReach_45 fl_zs_28 zs_g1 rfl ?_
        refine e_icmp_ne (pc := 48) (tgt := 55) d_zs_requireReach_48 (by decide) (fun c4 => ?_) (fun c4 => ?_)
        · refine e_iconst (pc := 55) d_zs_requireReach_55 (v := (bI (false))) rfl ?_
          refine e_istore_n (pc := 56) d_zs_requireReach_56 (by decide) ?_
          refine e_iload_n (pc := 57) d_zs_requireReach_57 rfl ?_
          refine e_ifB_ne (pc := 58) (tgt := 69) d_zs_requireReach_58 (by decide) (fun z => nomatch z) (fun _ => ?_)
          exact e_throw (pc := 61) rfl xx_zs_66 d_zs_requireReach_61 d_zs_requireReach_64 d_zs_requireReach_65 d_zs_requireReach_68 (by decide) (Nat.le_of_ble_eq_true rfl) (by omega) (by omega) (fun N2 hN => ⟨rfl, hN, Or.inr ⟨by have := mt (ldI_eq hR hs).mpr c4; simp [z_rc, c1, c2, c3, this], rfl⟩⟩)
        · refine e_iconst (pc := 51) d_zs_requireReach_51 (v := (bI (true))) rfl ?_
          refine e_goto (pc := 52) (tgt := 56) d_zs_requireReach_52 (by decide) ?_
          refine e_istore_n (pc := 56) d_zs_requireReach_56 (by decide) ?_
          refine e_iload_n (pc := 57) d_zs_requireReach_57 rfl ?_
          refine e_ifB_ne (pc := 58) (tgt := 69) d_zs_requireReach_58 (by decide) (fun _ => ?_) (fun z => nomatch z)
          exact e_vret (pc := 69) d_zs_requireReach_69 rfl (⟨rfl, Nat.le_refl _, Or.inl ⟨by have := (ldI_eq hR hs).mp c4; simp [z_rc, c1, c2, this], rfl, rfl⟩⟩)
set_option maxHeartbeats 4000000 in
set_option maxRecDepth 100000 in
theorem c_zs_treeOf {l : Launch} {G : q_G} (htr : l.stackTraces = false) {h : q_H} {N : Nat} {R : zR} {j : Nat} (hj : j < 4) (hs : s_sv (z_S R j) < 3) : q_Met l G m_zs_treeOf 6 85 1 6 [.ref (1), .int (nI (j))] (zs_put h R) N (fun o h' N' => h' = zs_put h R ∧ N ≤ N' ∧ ((z_cn R j = true ∧ o = .inl (some (.ref (9 + 7 * (s_sv (z_S R j)) + 2))) ∧ N' = N) ∨ (z_cn R j = false ∧ o = .inr "java/lang/IllegalStateException"))) := by
  refine q_Met.mk htr (by decide +kernel) rfl (List.forall_mem_cons.mpr ⟨rfl, List.forall_mem_cons.mpr ⟨rfl, fun _ h => nomatch h⟩⟩) (Nat.le_of_ble_eq_true rfl) ?_
  refine e_aload_n (pc := 0) d_zs_treeOf_0 rfl ?_
  refine e_get (pc := 1) d_zs_treeOf_1 fl_zs_17 zs_g1 rfl ?_
  refine e_iload_n (pc := 4) d_zs_treeOf_4 rfl ?_
  refine e_aaldN (pc := 5) d_zs_treeOf_5 zs_g3 (fun _ => rfl) (by omega) (by decide) rfl ?_
  refine e_astore_n (pc := 6) d_zs_treeOf_6 (by decide) ?_
  refine e_aload_n (pc := 7) d_zs_treeOf_7 rfl ?_
  refine e_get (pc := 8) d_zs_treeOf_8 fl_zs_51 (zs_s hj).1 rfl ?_
  refine e_ifB_eq (pc := 11) (tgt := 29) d_zs_treeOf_11 (by decide) (fun c1 => ?_) (fun c1 => ?_)
  · exact e_throw (pc := 29) rfl xx_zs_66 d_zs_treeOf_29 d_zs_treeOf_32 d_zs_treeOf_33 d_zs_treeOf_36 (by decide) (Nat.le_of_ble_eq_true rfl) (by omega) (by omega) (fun N2 hN => ⟨rfl, hN, Or.inr ⟨by simp [z_cn, c1], rfl⟩⟩)
  · refine e_aload_n (pc := 14) d_zs_treeOf_14 rfl ?_
    refine e_get (pc := 15) d_zs_treeOf_15 fl_zs_11 zs_g1 rfl ?_
    refine e_aload_n (pc := 18) d_zs_treeOf_18 rfl ?_
    refine e_get (pc := 19) d_zs_treeOf_19 fl_zs_100 (zs_s hj).1 rfl ?_
    refine e_aaldN (pc := 22) d_zs_treeOf_22 zs_g2 (fun _ => rfl) (by omega) (by decide) rfl ?_
    refine e_get (pc := 23) d_zs_treeOf_23 fl_zs_97 (zs_v hs).1 rfl ?_
    refine e_ifB_ne (pc := 26) (tgt := 37) d_zs_treeOf_26 (by decide) (fun c2 => ?_) (fun c2 => ?_)
    · refine e_aload_n (pc := 37) d_zs_treeOf_37 rfl ?_
      refine e_get (pc := 38) d_zs_treeOf_38 fl_zs_11 zs_g1 rfl ?_
      refine e_aload_n (pc := 41) d_zs_treeOf_41 rfl ?_
      refine e_get (pc := 42) d_zs_treeOf_42 fl_zs_100 (zs_s hj).1 rfl ?_
      refine e_aaldN (pc := 45) d_zs_treeOf_45 zs_g2 (fun _ => rfl) (by omega) (by decide) rfl ?_
      refine e_get (pc := 46) d_zs_treeOf_46 fl_zs_205 (zs_v hs).1 rfl ?_
      exact e_aret (pc := 49) d_zs_treeOf_49 rfl (⟨rfl, Nat.le_refl _, Or.inl ⟨by simp [z_cn, c1, c2], rfl, rfl⟩⟩)
    · exact e_throw (pc := 29) rfl xx_zs_66 d_zs_treeOf_29 d_zs_treeOf_32 d_zs_treeOf_33 d_zs_treeOf_36 (by decide) (Nat.le_of_ble_eq_true rfl) (by omega) (by omega) (fun N2 hN => ⟨rfl, hN, Or.inr ⟨by simp [z_cn, c1, c2], rfl⟩⟩)
set_option maxHeartbeats 4000000 in
set_option maxRecDepth 100000 in
theorem c_zs_isOtherVersion {l : Launch} {G : q_G} (htr : l.stackTraces = false) {h : q_H} {N : Nat} {R : zR} {p : Nat} {v : Int32} (hp : p < 259) : q_Met l G m_zs_isOtherVersion 0 0 0 0 [.ref (1), .int (nI (p)), .int (v)] (zs_put h R) N (q_Id (some (.int (bI (z_ow R p v)))) (zs_put h R) N) := by
  refine q_Met.mk htr (by decide +kernel) rfl (List.forall_mem_cons.mpr ⟨rfl, List.forall_mem_cons.mpr ⟨rfl, List.forall_mem_cons.mpr ⟨rfl, fun _ h => nomatch h⟩⟩⟩) (Nat.le_of_ble_eq_true rfl) ?_
  refine e_iload_n (pc := 0) d_zs_isOtherVersion_0 rfl ?_
  refine e_iconst (pc := 1) d_zs_isOtherVersion_1 (v := (-1)) rfl ?_
  refine e_icmp_eq (pc := 2) (tgt := 22) d_zs_isOtherVersion_2 (by decide) (fun c1 => ?_) (fun c1 => ?_)
  · refine e_iconst (pc := 22) d_zs_isOtherVersion_22 (v := (bI (false))) rfl ?_
    exact e_retB (pc := 23) d_zs_isOtherVersion_23 rfl (⟨by simp [z_ow, c1], rfl, rfl⟩)
  · refine e_iload_n (pc := 5) d_zs_isOtherVersion_5 rfl ?_
    refine e_aload_n (pc := 6) d_zs_isOtherVersion_6 rfl ?_
    refine e_get (pc := 7) d_zs_isOtherVersion_7 fl_zs_24 zs_g1 rfl ?_
    refine e_get (pc := 10) d_zs_isOtherVersion_10 fl_zs_152 zs_tP.1 rfl ?_
    refine e_iload_n (pc := 13) d_zs_isOtherVersion_13 rfl ?_
    refine e_ialdN (pc := 14) d_zs_isOtherVersion_14 zs_tP.2.2.1 (by omega) (by decide) ?_
    refine e_icmp_eq (pc := 15) (tgt := 22) d_zs_isOtherVersion_15 (by decide) (fun c2 => ?_) (fun c2 => ?_)
    · refine e_iconst (pc := 22) d_zs_isOtherVersion_22 (v := (bI (false))) rfl ?_
      exact e_retB (pc := 23) d_zs_isOtherVersion_23 rfl (⟨by simp [z_ow, c1, c2], rfl, rfl⟩)
    · refine e_iconst (pc := 18) d_zs_isOtherVersion_18 (v := (bI (true))) rfl ?_
      refine e_goto (pc := 19) (tgt := 23) d_zs_isOtherVersion_19 (by decide) ?_
      exact e_retB (pc := 23) d_zs_isOtherVersion_23 rfl (⟨by simp [z_ow, c1, c2], rfl, rfl⟩)
/-- an ENTRY as the class has it: kind, path, data, owner, in sequence -/
abbrev zE : Type := Nat × Nat × Int32 × Int32 × Bool
def en_Is (h : q_H) (a : Nat) (e : zE) : Prop := en_At h a e.1 e.2.1 e.2.2.1 e.2.2.2.1 e.2.2.2.2
def eOK (e : zE) : Prop := e.1 ≤ 3 ∧ (e.1 ≤ 2 → e.2.1 < 259) ∧ (e.1 = 0 → 1 ≤ e.2.1) ∧ (e.1 = 2 → 1 ≤ e.2.1)
def playR (e : zE) (t : zT) : zT :=
  if e.1 = 0 then (upd t.1 e.2.1 e.2.2.1, upd t.2.1 e.2.1 (nI 0), upd t.2.2.1 e.2.1 e.2.2.2.1, mkN t.2.2.2 e.2.1 e.2.2.2.2)
  else if e.1 = 1 then (upd t.1 e.2.1 e.2.2.1, upd t.2.1 e.2.1 (t.2.1 e.2.1 + nI 1), t.2.2.1, t.2.2.2)
  else if e.1 = 2 then (t.1, upd t.2.1 e.2.1 (-1), upd t.2.2.1 e.2.1 (-1), t.2.2.2)
  else (t.1, owdK t.2.1 t.2.2.1 e.2.2.2.1 259, owdK t.2.2.1 t.2.2.1 e.2.2.2.1 259, t.2.2.2)
def hearR (e : zE) (t : zT) (X : wS) : wS :=
  if e.1 = 0 then toS 1 e.2.1 X else if e.1 = 1 then toS 2 e.2.1 X else if e.1 = 2 then toS 3 e.2.1 X else hrK t.2.2.1 e.2.2.2.1 259 X
theorem hearR_8 {e : zE} {t : zT} {X : wS} (h : X.2.2 ≤ 8) : (hearR e t X).2.2 ≤ 8 := by
  unfold hearR
  split
  · exact toS_8 h
  · split
    · exact toS_8 h
    · split
      · exact toS_8 h
      · exact hrK_8 h 259
theorem c_tr_play {l : Launch} {G : q_G} (htr : l.stackTraces = false) {h : q_H} {N t : Nat} {x : zT} (hT : tr_At h t x.1 x.2.1 x.2.2.1 x.2.2.2) {a : Nat} {e : zE} (he : en_Is h a e) (hk : eOK e) (hat : a < t + 1 ∨ t + 4 < a) : q_Met l G m_tr_play 2 44 0 0 [.ref t, .ref a] h N (q_To none (tr_put h t (playR e x).1 (playR e x).2.1 (playR e x).2.2.1 (playR e x).2.2.2) N) := by
  obtain ⟨kd, p, d, o, sq⟩ := e
  obtain ⟨k0, k1, k2, k3⟩ := hk
  dsimp only at k0 k1 k2 k3
  rcases (by omega : kd = 0 ∨ kd = 1 ∨ kd = 2 ∨ kd = 3) with rfl | rfl | rfl | rfl
  · exact c_tr_play_create htr hT he hat (k2 rfl) (k1 (by omega))
  · exact c_tr_play_set htr hT he hat (k1 (by omega))
  · exact c_tr_play_delete htr hT he hat (k1 (by omega))
  · exact c_tr_play_close htr hT he hat
theorem c_ss_hear {l : Launch} {G : q_G} (htr : l.stackTraces = false) {h : q_H} {N s : Nat} {X : wS} {op du : Bool} {sv : Nat} {to he : Int32} (hS : ss_At h s X.1 X.2.1 X.2.2 op du sv to he) (h8 : X.2.2 ≤ 8) {t : Nat} {x : zT} (hT : tr_At h t x.1 x.2.1 x.2.2.1 x.2.2.2) {a : Nat} {e : zE} (he9 : en_Is h a e) (hk : eOK e) (ha : a < s ∨ s + 2 < a) (ht : t + 4 < s ∨ s + 2 < t) : q_Met l G m_ss_hear 2 45 0 0 [.ref s, .ref a, .ref t] h N (q_To none (ss_put h s (hearR e x X).1 (hearR e x X).2.1 (hearR e x X).2.2 op du sv to he) N) := by
  obtain ⟨kd, p, d, o, sq⟩ := e
  obtain ⟨k0, k1, k2, k3⟩ := hk
  dsimp only at k0 k1 k2 k3
  rcases (by omega : kd = 0 ∨ kd = 1 ∨ kd = 2 ∨ kd = 3) with rfl | rfl | rfl | rfl
  · exact c_ss_hear_create htr hS h8 he9 (k1 (by omega)) (k2 rfl)
  · exact c_ss_hear_set htr hS h8 he9 (k1 (by omega))
  · exact c_ss_hear_delete htr hS h8 he9 (k1 (by omega)) (k3 rfl)
  · exact c_ss_hear_close htr hS h8 hT he9 ha ht
end
section
/-! THE CLASS: applyLog -/
def q_le : List (Option Value) → List (Option Value) → Prop
  | [], _ => True
  | none :: a, [] => q_le a []
  | none :: a, _ :: b => q_le a b
  | some _ :: _, [] => False
  | some v :: a, x :: b => x = some v ∧ q_le a b
theorem q_le_ok : ∀ (a b : List (Option Value)), q_le a b → ∀ (i : Nat) (v : Value), a[i]? = some (some v) → b[i]? = some (some v) := by
  intro a
  induction a with
  | nil => intro b _ i v h; simp at h
  | cons x a ih =>
    intro b hb i v h
    cases x with
    | none =>
      cases b with
      | nil =>
        cases i with
        | zero => simp at h
        | succ i => exact absurd (ih [] hb i v (by simpa using h)) (by simp)
      | cons y b =>
        cases i with
        | zero => simp at h
        | succ i => simpa using ih b hb i v (by simpa using h)
    | some w =>
      cases b with
      | nil => exact absurd hb (by simp [q_le])
      | cons y b =>
        cases i with
        | zero => rw [← h]; simp [hb.1]
        | succ i => simpa using ih b hb.2 i v (by simpa using h)
theorem q_Ev.fo {l : Launch} {G : q_G} {μ : q_M} {fr lo cc ss pc N : Nat} {lv : List (Option Value)} {st : List Value} {h : q_H} {Q : q_Q} (lv' : List (Option Value)) (hle : q_le lv' lv) (k : q_Ev l G μ fr lo cc ss pc lv' st h N Q) : q_Ev l G μ fr lo cc ss pc lv st h N Q := q_Ev.loc k (q_le_ok lv' lv hle)
/-- all sessions at server i hear e, those below k -/
def hrA (e : zE) (i : Nat) (R : zR) : Nat → zR
  | 0 => R
  | k + 1 => if (s_op (z_S (hrA e i R k) k) && decide (s_sv (z_S (hrA e i R k) k) = i)) = true then z_sS (hrA e i R k) k (hearR e (z_T (hrA e i R k) i) (s_X (z_S (hrA e i R k) k)), (z_S (hrA e i R k) k).2) else hrA e i R k
/-- server i applies e -/
def ap1 (e : zE) (i : Nat) (R : zR) : zR := z_sT (hrA e i R 4) i (playR e (z_T (hrA e i R 4) i))
/-- .. the first n of its LOG that it hasn't applied -/
def apF (E : Nat → zE) (i : Nat) (R : zR) : Nat → zR
  | 0 => R
  | n + 1 => ap1 (E ((v_lf (z_V R i) (v_ap (z_V R i) + n)).getD 0)) i (apF E i R n)
def apR (E : Nat → zE) (i : Nat) (R : zR) : zR := z_sV (apF E i R (v_ln (z_V R i) - v_ap (z_V R i))) i (v_lf (z_V R i), v_ln (z_V R i), v_ln (z_V R i), v_ag (z_V R i), v_up (z_V R i), v_al (z_V R i))
def zSw (R : zR) : Prop := ∀ j, s_sv (z_S R j) < 3 ∧ (s_X (z_S R j)).2.2 ≤ 8
theorem zSw_s {R : zR} (h : zSw R) {j : Nat} {X : wS} (hX : X.2.2 ≤ 8) : zSw (z_sS R j (X, (z_S R j).2)) := by
  intro k
  by_cases c : k = j
  · subst c
    simp only [z_S, z_sS, va_up, if_true]
    exact ⟨(h k).1, hX⟩
  · simp only [z_S, z_sS, va_up, if_neg c]
    exact h k
theorem hrA_w {e : zE} {i : Nat} {R : zR} (h : zSw R) : ∀ k, zSw (hrA e i R k) := by
  intro k
  induction k with
  | zero => exact h
  | succ k ih =>
    unfold hrA
    split
    · exact zSw_s ih (hearR_8 (ih k).2)
    · exact ih
theorem hrA_V (e : zE) (i : Nat) (R : zR) : ∀ k, z_V (hrA e i R k) = z_V R := by
  intro k
  induction k with
  | zero => rfl
  | succ k ih =>
    unfold hrA
    split
    · exact ih
    · exact ih
theorem hrA_T (e : zE) (i : Nat) (R : zR) : ∀ k, z_T (hrA e i R k) = z_T R := by
  intro k
  induction k with
  | zero => rfl
  | succ k ih =>
    unfold hrA
    split
    · exact ih
    · exact ih
theorem hrA_0 (e : zE) (i : Nat) (R : zR) : ∀ k, z_ld (hrA e i R k) = z_ld R ∧ z_ep (hrA e i R k) = z_ep R ∧ z_tm (hrA e i R k) = z_tm R ∧ z_P (hrA e i R k) = z_P R := by
  intro k
  induction k with
  | zero => exact ⟨rfl, rfl, rfl, rfl⟩
  | succ k ih =>
    unfold hrA
    split
    · exact ih
    · exact ih
theorem ap1_w {e : zE} {i : Nat} {R : zR} (h : zSw R) : zSw (ap1 e i R) := hrA_w h 4
theorem apF_w {E : Nat → zE} {i : Nat} {R : zR} (h : zSw R) : ∀ n, zSw (apF E i R n) := by
  intro n
  induction n with
  | zero => exact h
  | succ n ih => exact ap1_w ih
theorem apF_V (E : Nat → zE) (i : Nat) (R : zR) : ∀ n, z_V (apF E i R n) = z_V R := by
  intro n
  induction n with
  | zero => rfl
  | succ n ih => exact (hrA_V _ i _ 4).trans ih
theorem apF_0 (E : Nat → zE) (i : Nat) (R : zR) : ∀ n, z_ld (apF E i R n) = z_ld R ∧ z_ep (apF E i R n) = z_ep R ∧ z_tm (apF E i R n) = z_tm R ∧ z_P (apF E i R n) = z_P R := by
  intro n
  induction n with
  | zero => exact ⟨rfl, rfl, rfl, rfl⟩
  | succ n ih =>
    have := hrA_0 (E ((v_lf (z_V R i) (v_ap (z_V R i) + n)).getD 0)) i (apF E i R n) 4
    exact ⟨this.1.trans ih.1, this.2.1.trans ih.2.1, this.2.2.1.trans ih.2.2.1, this.2.2.2.trans ih.2.2.2⟩
theorem en_up {h : q_H} {R : zR} {a : Nat} {e : zE} (ha : 41 < a) (he : en_Is h a e) : en_Is (zs_put h R) a e := (zs_hi ha).trans he
/-- server i's LOG lies in the heap as E says -/
def zEn (h : q_H) (E : Nat → zE) (v : zV) : Prop := v_ln v ≤ 64 ∧ ∀ j, j < v_ln v → ∃ a, v_lf v j = some a ∧ 41 < a ∧ en_Is h a (E a) ∧ eOK (E a)
set_option maxHeartbeats 4000000 in
set_option maxRecDepth 100000 in
theorem lp_zs_applyLog_in {l : Launch} {G : q_G} (htr : l.stackTraces = false) {h : q_H} {N : Nat} {R : zR} {i jj a : Nat} {e : zE} (hi : i < 3) (hw : zSw R) (ha : 41 < a) (he : en_Is h a e) (hk : eOK e) {Q : q_Q} (kk : q_Ev l G m_zs_applyLog 3 68 0 0 69 [some (.ref 1), some (.int (nI i)), some (.ref (9 + 7 * i)), some (.int (nI jj)), some (.ref a), none] [] (zs_put h (hrA e i R 4)) N Q) : ∀ (g k : Nat), 4 < k + g → k ≤ 4 → q_Ev l G m_zs_applyLog 3 68 0 0 31 [some (.ref 1), some (.int (nI i)), some (.ref (9 + 7 * i)), some (.int (nI jj)), some (.ref a), some (.int (nI k))] [] (zs_put h (hrA e i R k)) N Q := by
  intro g
  induction g with
  | zero => intro k hg hk; omega
  | succ g ih =>
    intro k hg hk9
    have hwk := hrA_w (e := e) (i := i) hw k
    refine e_iload (pc := 31) d_zs_applyLog_31 rfl ?_
    refine e_iconst (pc := 33) d_zs_applyLog_33 (v := (nI (4))) rfl ?_
    refine e_icmp_geN (pc := 34) (tgt := 69) d_zs_applyLog_34 (by decide) (by omega) (by omega) (fun c => ?_) (fun c => ?_)
    · have hkn : k = 4 := by omega
      subst hkn
      exact q_Ev.fo [some (.ref 1), some (.int (nI i)), some (.ref (9 + 7 * i)), some (.int (nI jj)), some (.ref a), none] ⟨rfl, rfl, rfl, rfl, rfl, trivial⟩ kk
    · refine e_aload_n (pc := 37) d_zs_applyLog_37 rfl ?_
      refine e_iload (pc := 38) d_zs_applyLog_38 rfl ?_
      refine e_iload_n (pc := 40) d_zs_applyLog_40 rfl ?_
      refine e_callV (As := [.int (nI (k)), .int (nI (i))]) (st := []) (cc2 := 0) (ss2 := 0) (pc := 41) d_zs_applyLog_41 rfl cv_zs_176 zs_g1 rfl (c_zs_isAt htr c hi (hwk k).1) rfl (by decide) (by decide) (by omega) (by omega) (Nat.le_of_ble_eq_true rfl) (fun _ _ _ hq => nomatch hq.1) (fun r h2 N2 hq => ?_)
      obtain ⟨hr, e1, e2⟩ := hq
      cases hr
      rw [e1, e2]
      clear e1 e2
      show q_Ev l G m_zs_applyLog 3 68 0 0 44 [some (.ref (1)), some (.int (nI (i))), some (.ref (9 + 7 * i)), some (.int (nI (jj))), some (.ref (a)), some (.int (nI (k)))] [.int (bI (s_op (z_S (hrA e i R k) k) && decide (s_sv (z_S (hrA e i R k) k) = i)))] (zs_put h (hrA e i R k)) N _
      refine e_ifB_eq (pc := 44) (tgt := 63) d_zs_applyLog_44 (by decide) (fun c2 => ?_) (fun c2 => ?_)
      · refine e_iincN (pc := 63) d_zs_applyLog_63 (a := k) (b := 1) rfl rfl (by decide) ?_
        refine e_goto (pc := 66) (tgt := 31) d_zs_applyLog_66 (by decide) ?_
        have e1 : hrA e i R (k + 1) = hrA e i R k := by rw [hrA, if_neg (by rw [c2]; decide)]
        have := ih (k + 1) (by omega) (by omega)
        rw [e1] at this
        exact this
      · refine e_aload_n (pc := 47) d_zs_applyLog_47 rfl ?_
        refine e_get (pc := 48) d_zs_applyLog_48 fl_zs_17 zs_g1 rfl ?_
        refine e_iload (pc := 51) d_zs_applyLog_51 rfl ?_
        refine e_aaldN (pc := 53) d_zs_applyLog_53 zs_g3 (fun _ => rfl) (by omega) (by decide) rfl ?_
        refine e_aload (pc := 54) d_zs_applyLog_54 rfl ?_
        refine e_aload_n (pc := 56) d_zs_applyLog_56 rfl ?_
        refine e_get (pc := 57) d_zs_applyLog_57 fl_zs_205 (zs_v hi).1 rfl ?_
        refine e_callV (As := [.ref (a), .ref (9 + 7 * i + 2)]) (st := []) (cc2 := 0) (ss2 := 0) (pc := 60) d_zs_applyLog_60 rfl cv_zs_243 (zs_s c).1 rfl (c_ss_hear htr (zs_s c) (hwk k).2 (zs_t hi) (en_up ha he) hk (by omega) (by omega)) rfl (by decide) (by decide) (by omega) (by omega) (Nat.le_of_ble_eq_true rfl) (fun _ _ _ hq => nomatch hq.1) (fun r h2 N2 hq => ?_)
        obtain ⟨hr, e1, e2⟩ := hq
        cases hr
        rw [e1, e2]
        clear e1 e2
        show q_Ev l G m_zs_applyLog 3 68 0 0 63 [some (.ref (1)), some (.int (nI (i))), some (.ref (9 + 7 * i)), some (.int (nI (jj))), some (.ref (a)), some (.int (nI (k)))] [] _ N _
        rw [zs_uS c]
        refine e_iincN (pc := 63) d_zs_applyLog_63 (a := k) (b := 1) rfl rfl (by decide) ?_
        refine e_goto (pc := 66) (tgt := 31) d_zs_applyLog_66 (by decide) ?_
        have e1 : hrA e i R (k + 1) = z_sS (hrA e i R k) k (hearR e (z_T (hrA e i R k) i) (s_X (z_S (hrA e i R k) k)), (z_S (hrA e i R k) k).2) := by rw [hrA, if_pos c2]
        have := ih (k + 1) (by omega) (by omega)
        rw [e1] at this
        exact this
set_option maxHeartbeats 4000000 in
set_option maxRecDepth 100000 in
theorem lp_zs_applyLog {l : Launch} {G : q_G} (htr : l.stackTraces = false) {h : q_H} {N : Nat} {R : zR} {i : Nat} {E : Nat → zE} (hi : i < 3) (hw : zSw R) (hE : zEn h E (z_V R i)) (hap : v_ap (z_V R i) ≤ 64) : ∀ (g n : Nat), v_ln (z_V R i) - v_ap (z_V R i) < n + g → n ≤ v_ln (z_V R i) - v_ap (z_V R i) → q_Ev l G m_zs_applyLog 3 68 0 0 12 [some (.ref (1)), some (.int (nI (i))), some (.ref (9 + 7 * i)), some (.int (nI (v_ap (z_V R i) + n))), none, none] [] (zs_put h (apF E i R n)) N (q_To none (zs_put h (apR E i R)) N) := by
  intro g
  induction g with
  | zero => intro n hg hk; omega
  | succ g ih =>
    intro n hg hk
    have hV : sv_At (zs_put h (apF E i R n)) (9 + 7 * i) (v_lf (z_V R i)) (v_ln (z_V R i)) (v_ap (z_V R i)) (v_ag (z_V R i)) (v_up (z_V R i)) (v_al (z_V R i)) := by
      have := zs_v (h := h) (R := apF E i R n) hi
      rw [apF_V] at this
      exact this
    have h64 := hE.1
    refine e_iload_n (pc := 12) d_zs_applyLog_12 rfl ?_
    refine e_aload_n (pc := 13) d_zs_applyLog_13 rfl ?_
    refine e_get (pc := 14) d_zs_applyLog_14 fl_zs_179 hV.1 rfl ?_
    refine e_icmp_geN (pc := 17) (tgt := 84) d_zs_applyLog_17 (by decide) (by omega) (by omega) (fun c => ?_) (fun c => ?_)
    · have hn : v_ln (z_V R i) - v_ap (z_V R i) = n := by omega
      refine q_Ev.hp (sv_put_id hV) ?_
      refine e_aload_n (pc := 84) d_zs_applyLog_84 rfl ?_
      refine e_aload_n (pc := 85) d_zs_applyLog_85 rfl ?_
      refine e_get (pc := 86) d_zs_applyLog_86 fl_zs_179 sv_g0 rfl ?_
      refine e_putE (pc := 89) d_zs_applyLog_89 (fs2 := [.ref (9 + 7 * i + 1), .ref (9 + 7 * i + 2), .int (nI (v_ln (z_V R i))), .int (nI (v_ln (z_V R i))), .int (nI (v_ag (z_V R i))), .int (bI (v_up (z_V R i))), .int (bI (v_al (z_V R i)))]) fl_zs_185 sv_g0 (Nat.le_of_ble_eq_true rfl) (fun _ => rfl) (fun _ => rfl) rfl ?_
      rw [sv_u0]
      rw [zs_uV hi]
      exact e_vret (pc := 92) d_zs_applyLog_92 rfl (⟨rfl, by unfold apR; rw [hn], rfl⟩)
    · obtain ⟨a, hla, ha, hen, hok⟩ := hE.2 (v_ap (z_V R i) + n) c
      refine e_aload_n (pc := 20) d_zs_applyLog_20 rfl ?_
      refine e_get (pc := 21) d_zs_applyLog_21 fl_zs_232 hV.1 rfl ?_
      refine e_iload_n (pc := 24) d_zs_applyLog_24 rfl ?_
      refine e_aaldN (pc := 25) d_zs_applyLog_25 hV.2 (fun _ => rfl) (by omega) (by decide) hla ?_
      refine e_astore (pc := 26) d_zs_applyLog_26 (by decide) ?_
      refine e_iconst (pc := 28) d_zs_applyLog_28 (v := (nI (0))) rfl ?_
      refine e_istore (pc := 29) d_zs_applyLog_29 (by decide) ?_
      refine lp_zs_applyLog_in htr hi (apF_w hw n) ha hen hok ?_ 5 0 (by omega) (by omega)
      have hV2 : sv_At (zs_put h (hrA (E a) i (apF E i R n) 4)) (9 + 7 * i) (v_lf (z_V R i)) (v_ln (z_V R i)) (v_ap (z_V R i)) (v_ag (z_V R i)) (v_up (z_V R i)) (v_al (z_V R i)) := by
        have := zs_v (h := h) (R := hrA (E a) i (apF E i R n) 4) hi
        rw [hrA_V, apF_V] at this
        exact this
      refine e_aload_n (pc := 69) d_zs_applyLog_69 rfl ?_
      refine e_get (pc := 70) d_zs_applyLog_70 fl_zs_205 hV2.1 rfl ?_
      refine e_aload (pc := 73) d_zs_applyLog_73 rfl ?_
      refine e_callV (As := [.ref (a)]) (st := []) (cc2 := 0) (ss2 := 0) (pc := 75) d_zs_applyLog_75 rfl cv_zs_226 (zs_t hi).1 rfl (c_tr_play htr (zs_t hi) (en_up ha hen) hok (by omega)) rfl (by decide) (by decide) (by omega) (by omega) (Nat.le_of_ble_eq_true rfl) (fun _ _ _ hq => nomatch hq.1) (fun r h2 N2 hq => ?_)
      obtain ⟨hr, e1, e2⟩ := hq
      cases hr
      rw [e1, e2]
      clear e1 e2
      show q_Ev l G m_zs_applyLog 3 68 0 0 78 [some (.ref (1)), some (.int (nI (i))), some (.ref (9 + 7 * i)), some (.int (nI (v_ap (z_V R i) + n))), some (.ref (a)), none] [] _ N _
      rw [zs_uT hi]
      refine e_iincN (pc := 78) d_zs_applyLog_78 (a := v_ap (z_V R i) + n) (b := 1) rfl rfl (by decide) ?_
      refine e_goto (pc := 81) (tgt := 12) d_zs_applyLog_81 (by decide) ?_
      refine q_Ev.fo [some (.ref (1)), some (.int (nI (i))), some (.ref (9 + 7 * i)), some (.int (nI (v_ap (z_V R i) + (n + 1)))), none, none] ⟨rfl, rfl, rfl, rfl, trivial⟩ ?_
      have e1 : apF E i R (n + 1) = z_sT (hrA (E a) i (apF E i R n) 4) i (playR (E a) (z_T (hrA (E a) i (apF E i R n) 4) i)) := by rw [apF, hla]; rfl
      have := ih (n + 1) (by omega) (by omega)
      rw [e1] at this
      exact this
set_option maxHeartbeats 4000000 in
set_option maxRecDepth 100000 in
theorem c_zs_applyLog {l : Launch} {G : q_G} (htr : l.stackTraces = false) {h : q_H} {N : Nat} {R : zR} {i : Nat} {E : Nat → zE} (hi : i < 3) (hw : zSw R) (hE : zEn h E (z_V R i)) (hap : v_ap (z_V R i) ≤ 64) : q_Met l G m_zs_applyLog 3 68 0 0 [.ref (1), .int (nI (i))] (zs_put h R) N (q_To none (zs_put h (apR E i R)) N) := by
  refine q_Met.mk htr (by decide +kernel) rfl (List.forall_mem_cons.mpr ⟨rfl, List.forall_mem_cons.mpr ⟨rfl, fun _ h => nomatch h⟩⟩) (Nat.le_of_ble_eq_true rfl) ?_
  refine e_aload_n (pc := 0) d_zs_applyLog_0 rfl ?_
  refine e_get (pc := 1) d_zs_applyLog_1 fl_zs_11 zs_g1 rfl ?_
  refine e_iload_n (pc := 4) d_zs_applyLog_4 rfl ?_
  refine e_aaldN (pc := 5) d_zs_applyLog_5 zs_g2 (fun _ => rfl) (by omega) (by decide) rfl ?_
  refine e_astore_n (pc := 6) d_zs_applyLog_6 (by decide) ?_
  refine e_aload_n (pc := 7) d_zs_applyLog_7 rfl ?_
  refine e_get (pc := 8) d_zs_applyLog_8 fl_zs_185 (zs_v hi).1 rfl ?_
  refine e_istore_n (pc := 11) d_zs_applyLog_11 (by decide) ?_
  exact lp_zs_applyLog htr hi hw hE hap _ 0 (Nat.lt_of_lt_of_eq (Nat.lt_succ_self _) (Nat.zero_add _).symm) (by omega)
end
section
/-! THE CLASS: spread, appendAndPlan, planAnew -/
theorem cpL_self (f : Nat → Option Nat) (k : Nat) : cpL f f k = f := by funext i; simp [cpL]
/-- server i's LOG becomes that of k -/
def flR (k i : Nat) (R : zR) : zR := z_sV R i (cpL (v_lf (z_V R k)) (v_lf (z_V R i)) (v_ln (z_V R k)), v_ln (z_V R k), v_ap (z_V R i), z_ep R, v_up (z_V R i), v_al (z_V R i))
def sp1 (E : Nat → zE) (b : Bool) (k i : Nat) (R : zR) : zR := if z_lk R i = true then if b = true then apR E i (flR k i R) else flR k i R else R
def spK (E : Nat → zE) (b : Bool) (k : Nat) (R : zR) : Nat → zR
  | 0 => R
  | i + 1 => sp1 E b k i (spK E b k R i)
/-- SPREAD -/
def spR (E : Nat → zE) (R : zR) : zR := match z_ld R with
  | none => R
  | some k => spK E (z_qr R) k R 3
/-- what holds of the class's state in every heap -/
def zOK (h : q_H) (E : Nat → zE) (R : zR) : Prop := z_ok R ∧ zSw R ∧ z_ep R < 100000 ∧ ∀ i, i < 3 → zEn h E (z_V R i) ∧ v_ap (z_V R i) ≤ 64 ∧ v_ag (z_V R i) < 100000
theorem zOK_fl {h : q_H} {E : Nat → zE} {R : zR} (hO : zOK h E R) {k i : Nat} (hk : k < 3) : zOK h E (flR k i R) := by
  refine ⟨hO.1, hO.2.1, hO.2.2.1, fun j hj => ?_⟩
  by_cases c : j = i
  · subst c
    simp only [flR, z_V, z_sV, va_up, if_true]
    refine ⟨⟨(hO.2.2.2 k hk).1.1, fun n hn => ?_⟩, (hO.2.2.2 j hj).2.1, hO.2.2.1⟩
    obtain ⟨a, h1, h2⟩ := (hO.2.2.2 k hk).1.2 n hn
    exact ⟨a, by simp only [v_lf, cpL]; rw [if_pos hn]; exact h1, h2⟩
  · simp only [flR, z_V, z_sV, va_up, if_neg c]
    exact hO.2.2.2 j hj
theorem zOK_ap {h : q_H} {E : Nat → zE} {R : zR} (hO : zOK h E R) {i : Nat} (hi : i < 3) : zOK h E (apR E i R) := by
  have h0 := apF_0 E i R (v_ln (z_V R i) - v_ap (z_V R i))
  refine ⟨fun k hk => hO.1 k (h0.1.symm.trans hk), apF_w hO.2.1 _, Nat.lt_of_le_of_lt (Nat.le_of_eq h0.2.1) hO.2.2.1, fun j hj => ?_⟩
  have hV := apF_V E i R (v_ln (z_V R i) - v_ap (z_V R i))
  by_cases c : j = i
  · subst c
    simp only [apR, z_V, z_sV, va_up, if_true]
    exact ⟨(hO.2.2.2 j hj).1, (hO.2.2.2 j hj).1.1, (hO.2.2.2 j hj).2.2⟩
  · have e : z_V (apR E i R) j = z_V R j := by
      simp only [apR, z_V, z_sV, va_up, if_neg c]
      exact congrFun hV j
    rw [e]
    exact hO.2.2.2 j hj
theorem zOK_sp1 {h : q_H} {E : Nat → zE} {R : zR} {b : Bool} (hO : zOK h E R) {k i : Nat} (hk : k < 3) (hi : i < 3) : zOK h E (sp1 E b k i R) := by
  unfold sp1
  split
  · split
    · exact zOK_ap (zOK_fl hO hk) hi
    · exact zOK_fl hO hk
  · exact hO
theorem ld_sp1 {E : Nat → zE} {R : zR} {b : Bool} {k i : Nat} : z_ld (sp1 E b k i R) = z_ld R := by
  unfold sp1
  split
  · split
    · exact (apF_0 E i (flR k i R) _).1
    · rfl
  · rfl
theorem zOK_spK {h : q_H} {E : Nat → zE} {R : zR} {b : Bool} (hO : zOK h E R) {k : Nat} (hk : k < 3) : ∀ i, i ≤ 3 → zOK h E (spK E b k R i) := by
  intro i
  induction i with
  | zero => intro _; exact hO
  | succ i ih => intro hi; exact zOK_sp1 (ih (by omega)) hk (by omega)
theorem ld_spK {E : Nat → zE} {R : zR} {b : Bool} {k : Nat} : ∀ i, z_ld (spK E b k R i) = z_ld R := by
  intro i
  induction i with
  | zero => rfl
  | succ i ih => exact ld_sp1.trans ih
theorem zOK_sp {h : q_H} {E : Nat → zE} {R : zR} (hO : zOK h E R) : zOK h E (spR E R) := by
  unfold spR
  split
  · exact hO
  · next k hk => exact zOK_spK hO (hO.1 k hk) 3 (Nat.le_refl _)
theorem zEn_ob {h : q_H} {E : Nat → zE} {v : zV} {R : zR} (hE : zEn h E v) : ∀ i, i < v_ln v → ∃ (a : Nat) (vs : List Value), v_lf v i = some a ∧ zs_put h R a = some (.inr (0, vs)) ∧ 41 < a := fun i hi => by
  obtain ⟨a, h1, h2, h3, -⟩ := hE.2 i hi
  exact ⟨a, _, h1, (zs_hi h2).trans h3, h2⟩
set_option maxHeartbeats 4000000 in
set_option maxRecDepth 100000 in
theorem lp_zs_spread {l : Launch} {G : q_G} (htr : l.stackTraces = false) {h : q_H} {N : Nat} {R : zR} {E : Nat → zE} {b : Bool} {k : Nat} (hO : zOK h E R) (hld : z_ld R = some k) : ∀ (g i : Nat), 3 < i + g → i ≤ 3 → q_Ev l G m_zs_spread 4 93 0 0 16 [some (.ref (1)), some (.int (bI (b))), some (.int (nI (i)))] [] (zs_put h (spK E b k R i)) N (q_To none (zs_put h (spK E b k R 3)) N) := by
  intro g
  induction g with
  | zero => intro i hg hk; omega
  | succ g ih =>
    intro i hg hi9
    have hk := hO.1 k hld
    have hOi : zOK h E (spK E b k R i) := zOK_spK hO hk i hi9
    have hli : z_ld (spK E b k R i) = some k := (ld_spK i).trans hld
    refine e_iload_n (pc := 16) d_zs_spread_16 rfl ?_
    refine e_iconst (pc := 17) d_zs_spread_17 (v := (nI (3))) rfl ?_
    refine e_icmp_geN (pc := 18) (tgt := 66) d_zs_spread_18 (by decide) (by omega) (by omega) (fun c => ?_) (fun c => ?_)
    · have hkn : i = 3 := by omega
      subst hkn
      exact e_vret (pc := 66) d_zs_spread_66 rfl (⟨rfl, rfl, rfl⟩)
    · refine e_aload_n (pc := 21) d_zs_spread_21 rfl ?_
      refine e_iload_n (pc := 22) d_zs_spread_22 rfl ?_
      refine e_callV (As := [.int (nI (i))]) (st := []) (cc2 := 0) (ss2 := 0) (pc := 23) d_zs_spread_23 rfl cv_zs_58 zs_g1 rfl (c_zs_isLinked htr hOi.1 c) rfl (by decide) (by decide) (by omega) (by omega) (Nat.le_of_ble_eq_true rfl) (fun _ _ _ hq => nomatch hq.1) (fun r h2 N2 hq => ?_)
      obtain ⟨hr, e1, e2⟩ := hq
      cases hr
      rw [e1, e2]
      clear e1 e2
      show q_Ev l G m_zs_spread 4 93 0 0 26 [some (.ref (1)), some (.int (bI (b))), some (.int (nI (i)))] [.int (bI (z_lk (spK E b k R i) i))] (zs_put h (spK E b k R i)) N _
      refine e_ifB_eq (pc := 26) (tgt := 60) d_zs_spread_26 (by decide) (fun c2 => ?_) (fun c2 => ?_)
      · refine e_iincN (pc := 60) d_zs_spread_60 (a := i) (b := 1) rfl rfl (by decide) ?_
        refine e_goto (pc := 63) (tgt := 16) d_zs_spread_63 (by decide) ?_
        have e1 : spK E b k R (i + 1) = spK E b k R i := by rw [spK, sp1, if_neg (by rw [c2]; decide)]
        have := ih (i + 1) (by omega) (by omega)
        rw [e1] at this
        exact this
      · refine e_aload_n (pc := 29) d_zs_spread_29 rfl ?_
        refine e_get (pc := 30) d_zs_spread_30 fl_zs_11 zs_g1 rfl ?_
        refine e_iload_n (pc := 33) d_zs_spread_33 rfl ?_
        refine e_aaldN (pc := 34) d_zs_spread_34 zs_g2 (fun _ => rfl) (by omega) (by decide) rfl ?_
        refine e_aload_n (pc := 35) d_zs_spread_35 rfl ?_
        refine e_get (pc := 36) d_zs_spread_36 fl_zs_11 zs_g1 rfl ?_
        refine e_aload_n (pc := 39) d_zs_spread_39 rfl ?_
        refine e_get (pc := 40) d_zs_spread_40 fl_zs_28 zs_g1 rfl ?_
        rw [show ldI (z_ld (spK E b k R i)) = nI k by rw [hli]; rfl]
        refine e_aaldN (pc := 43) d_zs_spread_43 zs_g2 (fun _ => rfl) (by omega) (by decide) rfl ?_
        refine e_aload_n (pc := 44) d_zs_spread_44 rfl ?_
        refine e_get (pc := 45) d_zs_spread_45 fl_zs_32 zs_g1 rfl ?_
        obtain ⟨R1, hR1⟩ : ∃ x, x = (spK E b k R i) := ⟨_, rfl⟩
        have hM : q_Met l G m_sv_follow 0 0 0 0 [.ref (9 + 7 * (i)), .ref (9 + 7 * (k)), .int (nI (z_ep R1))] (zs_put h R1) N (q_To none (zs_put h (flR k i R1)) N) := by
          rw [hR1]
          by_cases e : i = k
          · subst e
            have := c_sv_follow1 (l := l) (G := G) htr (N := N) (zs_v (h := h) (R := (spK E b i R i)) c) (hOi.2.2.2 i c).1.1 (fun j hj => by obtain ⟨a, vs, z1, z2, -⟩ := zEn_ob (R := (spK E b i R i)) (hOi.2.2.2 i c).1 j hj; exact ⟨a, vs, z1, z2⟩) (na := z_ep (spK E b i R i))
            rw [zs_uV c] at this
            unfold flR
            rw [cpL_self]
            exact this
          · have := c_sv_follow (l := l) (G := G) htr (N := N) (zs_v (h := h) (R := (spK E b k R i)) c) (zs_v (h := h) (R := (spK E b k R i)) hk) (by omega) (hOi.2.2.2 k hk).1.1 (fun j hj => by obtain ⟨a, vs, z1, z2, z3⟩ := zEn_ob (R := (spK E b k R i)) (hOi.2.2.2 k hk).1 j hj; exact ⟨a, vs, z1, z2, by omega⟩) (na := z_ep (spK E b k R i))
            rw [zs_uV c] at this
            exact this
        rw [hR1] at hM
        refine e_callV (As := [.ref (9 + 7 * (k)), .int (nI (z_ep (spK E b k R i)))]) (st := []) (cc2 := 0) (ss2 := 0) (pc := 48) d_zs_spread_48 rfl cv_zs_236 (zs_v c).1 rfl (hM) rfl (by decide) (by decide) (by omega) (by omega) (Nat.le_of_ble_eq_true rfl) (fun _ _ _ hq => nomatch hq.1) (fun r h2 N2 hq => ?_)
        obtain ⟨hr, e1, e2⟩ := hq
        cases hr
        rw [e1, e2]
        clear e1 e2
        show q_Ev l G m_zs_spread 4 93 0 0 51 [some (.ref (1)), some (.int (bI (b))), some (.int (nI (i)))] [] _ N _
        have hOf : zOK h E (flR k i (spK E b k R i)) := zOK_fl hOi hk
        refine e_iload_n (pc := 51) d_zs_spread_51 rfl ?_
        refine e_ifB_eq (pc := 52) (tgt := 60) d_zs_spread_52 (by decide) (fun c3 => ?_) (fun c3 => ?_)
        · refine e_iincN (pc := 60) d_zs_spread_60 (a := i) (b := 1) rfl rfl (by decide) ?_
          refine e_goto (pc := 63) (tgt := 16) d_zs_spread_63 (by decide) ?_
          have e1 : spK E b k R (i + 1) = flR k i (spK E b k R i) := by rw [spK, sp1, if_pos c2, if_neg (by rw [c3]; decide)]
          have := ih (i + 1) (by omega) (by omega)
          rw [e1] at this
          exact this
        · refine e_aload_n (pc := 55) d_zs_spread_55 rfl ?_
          refine e_iload_n (pc := 56) d_zs_spread_56 rfl ?_
          refine e_callV (As := [.int (nI (i))]) (st := []) (cc2 := 0) (ss2 := 0) (pc := 57) d_zs_spread_57 rfl cv_zs_240 zs_g1 rfl (c_zs_applyLog htr c hOf.2.1 (hOf.2.2.2 i c).1 (hOf.2.2.2 i c).2.1) rfl (by decide) (by decide) (by omega) (by omega) (Nat.le_of_ble_eq_true rfl) (fun _ _ _ hq => nomatch hq.1) (fun r h2 N2 hq => ?_)
          obtain ⟨hr, e1, e2⟩ := hq
          cases hr
          rw [e1, e2]
          clear e1 e2
          show q_Ev l G m_zs_spread 4 93 0 0 60 [some (.ref (1)), some (.int (bI (b))), some (.int (nI (i)))] [] _ N _
          refine e_iincN (pc := 60) d_zs_spread_60 (a := i) (b := 1) rfl rfl (by decide) ?_
          refine e_goto (pc := 63) (tgt := 16) d_zs_spread_63 (by decide) ?_
          have e1 : spK E b k R (i + 1) = apR E i (flR k i (spK E b k R i)) := by rw [spK, sp1, if_pos c2, if_pos c3]
          have := ih (i + 1) (by omega) (by omega)
          rw [e1] at this
          exact this
set_option maxHeartbeats 4000000 in
set_option maxRecDepth 100000 in
theorem c_zs_spread {l : Launch} {G : q_G} (htr : l.stackTraces = false) {h : q_H} {N : Nat} {R : zR} {E : Nat → zE} (hO : zOK h E R) : q_Met l G m_zs_spread 4 93 0 0 [.ref (1)] (zs_put h R) N (q_To none (zs_put h (spR E R)) N) := by
  refine q_Met.mk htr (by decide +kernel) rfl (List.forall_mem_cons.mpr ⟨rfl, fun _ h => nomatch h⟩) (Nat.le_of_ble_eq_true rfl) ?_
  refine e_aload_n (pc := 0) d_zs_spread_0 rfl ?_
  refine e_get (pc := 1) d_zs_spread_1 fl_zs_28 zs_g1 rfl ?_
  refine e_iconst (pc := 4) d_zs_spread_4 (v := (-1)) rfl ?_
  refine e_icmp_ne (pc := 5) (tgt := 9) d_zs_spread_5 (by decide) (fun c => ?_) (fun c => ?_)
  · obtain ⟨k, hl⟩ : ∃ k, z_ld R = some k := by cases hx : z_ld R with | none => exact absurd (by rw [hx]; rfl) c | some k => exact ⟨k, rfl⟩
    have hk := hO.1 k hl
    refine e_aload_n (pc := 9) d_zs_spread_9 rfl ?_
    refine e_callV (As := []) (st := []) (cc2 := 0) (ss2 := 0) (pc := 10) d_zs_spread_10 rfl cv_zs_62 zs_g1 rfl (c_zs_hasQuorum htr hO.1) rfl (by decide) (by decide) (by omega) (by omega) (Nat.le_of_ble_eq_true rfl) (fun _ _ _ hq => nomatch hq.1) (fun r h2 N2 hq => ?_)
    obtain ⟨hr, e1, e2⟩ := hq
    cases hr
    rw [e1, e2]
    clear e1 e2
    show q_Ev l G m_zs_spread 4 93 0 0 13 [some (.ref (1)), none, none] [.int (bI (z_qr R))] (zs_put h R) N _
    refine e_istore_n (pc := 13) d_zs_spread_13 (by decide) ?_
    refine e_iconst (pc := 14) d_zs_spread_14 (v := (nI (0))) rfl ?_
    refine e_istore_n (pc := 15) d_zs_spread_15 (by decide) ?_
    have e1 : spR E R = spK E (z_qr R) k R 3 := by unfold spR; rw [hl]
    rw [e1]
    exact lp_zs_spread (b := z_qr R) htr hO hl 4 0 (by omega) (by omega)
  · have hl := (ldI_m1 hO.1).mp c
    exact e_vret (pc := 8) d_zs_spread_8 rfl (⟨rfl, by unfold spR; rw [hl], rfl⟩)
/-- an ENTRY e at the new address a goes to the leader's LOG and is planned -/
def apP (a : Nat) (e : zE) (R : zR) : zR := match z_ld R with
  | none => R
  | some k => z_sP (z_sV R k (va_up (v_lf (z_V R k)) (v_ln (z_V R k)) (some a), v_ln (z_V R k) + 1, v_ap (z_V R k), v_ag (z_V R k), v_up (z_V R k), v_al (z_V R k))) (playR e (z_P R))
set_option maxHeartbeats 4000000 in
set_option maxRecDepth 100000 in
theorem c_zs_appendAndPlan {l : Launch} {G : q_G} (htr : l.stackTraces = false) {h : q_H} {N : Nat} {R : zR} (hR : z_ok R) {a : Nat} {e : zE} (ha : 41 < a) (he : en_Is h a e) (hk9 : eOK e) (hl64 : ∀ k, z_ld R = some k → v_ln (z_V R k) < 64) : q_Met l G m_zs_appendAndPlan 3 65 0 0 [.ref (1), .ref (a)] (zs_put h R) N (q_To none (zs_put h (apP a e R)) N) := by
  refine q_Met.mk htr (by decide +kernel) rfl (List.forall_mem_cons.mpr ⟨rfl, List.forall_mem_cons.mpr ⟨rfl, fun _ h => nomatch h⟩⟩) (Nat.le_of_ble_eq_true rfl) ?_
  refine e_aload_n (pc := 0) d_zs_appendAndPlan_0 rfl ?_
  refine e_get (pc := 1) d_zs_appendAndPlan_1 fl_zs_28 zs_g1 rfl ?_
  refine e_iconst (pc := 4) d_zs_appendAndPlan_4 (v := (-1)) rfl ?_
  refine e_icmp_eq (pc := 5) (tgt := 29) d_zs_appendAndPlan_5 (by decide) (fun c => ?_) (fun c => ?_)
  · have hl := (ldI_m1 hR).mp c
    exact e_vret (pc := 29) d_zs_appendAndPlan_29 rfl (⟨rfl, by unfold apP; rw [hl], rfl⟩)
  · obtain ⟨k, hl⟩ : ∃ k, z_ld R = some k := by cases hx : z_ld R with | none => exact absurd (by rw [hx]; rfl) c | some k => exact ⟨k, rfl⟩
    have hk := hR k hl
    refine e_aload_n (pc := 8) d_zs_appendAndPlan_8 rfl ?_
    refine e_get (pc := 9) d_zs_appendAndPlan_9 fl_zs_11 zs_g1 rfl ?_
    refine e_aload_n (pc := 12) d_zs_appendAndPlan_12 rfl ?_
    refine e_get (pc := 13) d_zs_appendAndPlan_13 fl_zs_28 zs_g1 rfl ?_
    rw [show ldI (z_ld R) = nI k by rw [hl]; rfl]
    refine e_aaldN (pc := 16) d_zs_appendAndPlan_16 zs_g2 (fun _ => rfl) (by omega) (by decide) rfl ?_
    refine e_aload_n (pc := 17) d_zs_appendAndPlan_17 rfl ?_
    refine e_callV (As := [.ref (a)]) (st := []) (cc2 := 0) (ss2 := 0) (pc := 18) d_zs_appendAndPlan_18 rfl cv_zs_223 (zs_v hk).1 rfl (c_sv_append htr (zs_v hk) ((zs_hi ha).trans he) (by omega) (hl64 k hl)) rfl (by decide) (by decide) (by omega) (by omega) (Nat.le_of_ble_eq_true rfl) (fun _ _ _ hq => nomatch hq.1) (fun r h2 N2 hq => ?_)
    obtain ⟨hr, e1, e2⟩ := hq
    cases hr
    rw [e1, e2]
    clear e1 e2
    show q_Ev l G m_zs_appendAndPlan 3 65 0 0 21 [some (.ref (1)), some (.ref (a))] [] _ N _
    rw [zs_uV hk]
    refine e_aload_n (pc := 21) d_zs_appendAndPlan_21 rfl ?_
    refine e_get (pc := 22) d_zs_appendAndPlan_22 fl_zs_24 zs_g1 rfl ?_
    refine e_aload_n (pc := 25) d_zs_appendAndPlan_25 rfl ?_
    refine e_callV (As := [.ref (a)]) (st := []) (cc2 := 0) (ss2 := 0) (pc := 26) d_zs_appendAndPlan_26 rfl cv_zs_226 zs_tP.1 rfl (c_tr_play htr zs_tP (en_up ha he) hk9 (by omega)) rfl (by decide) (by decide) (by omega) (by omega) (Nat.le_of_ble_eq_true rfl) (fun _ _ _ hq => nomatch hq.1) (fun r h2 N2 hq => ?_)
    obtain ⟨hr, e1, e2⟩ := hq
    cases hr
    rw [e1, e2]
    clear e1 e2
    show q_Ev l G m_zs_appendAndPlan 3 65 0 0 29 [some (.ref (1)), some (.ref (a))] [] _ N _
    rw [zs_uP]
    exact e_vret (pc := 29) d_zs_appendAndPlan_29 rfl (⟨rfl, by unfold apP; rw [hl]; rfl, rfl⟩)
end
section
/-! THE CLASS: planAnew, proposeChange, closeDueSessions -/
/-- the first n of server k's LOG are planned anew -/
def plK (E : Nat → zE) (k : Nat) (R : zR) : Nat → zT
  | 0 => (fillN (z_P R).1 259 (nI 0), upd (fillN (z_P R).2.1 259 (-1)) 0 (nI 0), fillN (z_P R).2.2.1 259 (-1), fillN (z_P R).2.2.2 43 (nI 0))
  | n + 1 => playR (E ((v_lf (z_V R k) n).getD 0)) (plK E k R n)
def z_full (R : zR) : Bool := match z_ld R with
  | none => true
  | some k => decide (60 ≤ v_ln (z_V R k))
theorem zOK_apP {h : q_H} {E : Nat → zE} {R : zR} (hO : zOK h E R) {a : Nat} (ha : 41 < a) (he : en_Is h a (E a)) (hk : eOK (E a)) (hl : ∀ k, z_ld R = some k → v_ln (z_V R k) < 64) : zOK h E (apP a (E a) R) := by
  unfold apP
  split
  · exact hO
  · next k hk9 =>
    refine ⟨hO.1, hO.2.1, hO.2.2.1, fun i hi => ?_⟩
    by_cases c : i = k
    · subst c
      simp only [z_sP, z_V, z_sV, va_up, if_true]
      refine ⟨⟨hl i hk9, fun n hn => ?_⟩, (hO.2.2.2 i hi).2⟩
      by_cases c2 : n = v_ln (z_V R i)
      · subst c2
        exact ⟨a, by simp [v_lf, va_up], ha, he, hk⟩
      · obtain ⟨b, h1, h2⟩ := (hO.2.2.2 i hi).1.2 n (by have hn2 : n < v_ln (z_V R i) + 1 := hn; omega)
        exact ⟨b, by simp only [v_lf, va_up, if_neg c2]; exact h1, h2⟩
    · simp only [z_sP, z_V, z_sV, va_up, if_neg c]
      exact hO.2.2.2 i hi
theorem zEn_ext {h h2 : q_H} {E E2 : Nat → zE} {v : zV} (hE : zEn h E v) (hx : ∀ a, 41 < a → ∀ e, h a = some e → h2 a = some e ∧ E2 a = E a) : zEn h2 E2 v := ⟨hE.1, fun j hj => by
  obtain ⟨a, h1, h2, h3, h4⟩ := hE.2 j hj
  obtain ⟨g1, g2⟩ := hx a h2 _ h3
  exact ⟨a, h1, h2, by unfold en_Is; rw [g2]; exact g1, by rw [g2]; exact h4⟩⟩
theorem zOK_ext {h h2 : q_H} {E E2 : Nat → zE} {R : zR} (hO : zOK h E R) (hx : ∀ a, 41 < a → ∀ e, h a = some e → h2 a = some e ∧ E2 a = E a) : zOK h2 E2 R := ⟨hO.1, hO.2.1, hO.2.2.1, fun i hi => ⟨zEn_ext (hO.2.2.2 i hi).1 hx, (hO.2.2.2 i hi).2⟩⟩
/-- a new ENTRY's cell -/
def en_ob (e : zE) : q_E := .inr (0, [.int (nI e.1), .int (nI e.2.1), .int e.2.2.1, .int e.2.2.2.1, .int (bI e.2.2.2.2)])
theorem zOK_new {h : q_H} {E : Nat → zE} {R : zR} (hO : zOK h E R) {a : Nat} (ha : h a = none) (e : zE) : zOK (q_up h a (en_ob e)) (va_up E a e) R := zOK_ext hO (fun b _ x hx => by
  have c : b ≠ a := fun q => by rw [q, ha] at hx; cases hx
  exact ⟨by rw [q_up_n _ c]; exact hx, by simp [va_up, c]⟩)
set_option maxHeartbeats 4000000 in
set_option maxRecDepth 100000 in
theorem lp_zs_planAnew {l : Launch} {G : q_G} (htr : l.stackTraces = false) {h : q_H} {N : Nat} {R : zR} {E : Nat → zE} {k : Nat} (hk : k < 3) (hE : zEn h E (z_V R k)) : ∀ (g n : Nat), v_ln (z_V R k) < n + g → n ≤ v_ln (z_V R k) → q_Ev l G m_zs_planAnew 3 65 0 0 9 [some (.ref (1)), some (.ref (9 + 7 * k)), some (.int (nI (n)))] [] (zs_put h (z_sP R (plK E k R n))) N (q_To none (zs_put h (z_sP R (plK E k R (v_ln (z_V R k))))) N) := by
  intro g
  induction g with
  | zero => intro n hg hk; omega
  | succ g ih =>
    intro n hg hn
    have h64 := hE.1
    have hV : sv_At (zs_put h (z_sP R (plK E k R n))) (9 + 7 * k) (v_lf (z_V R k)) (v_ln (z_V R k)) (v_ap (z_V R k)) (v_ag (z_V R k)) (v_up (z_V R k)) (v_al (z_V R k)) := zs_v (R := z_sP R (plK E k R n)) hk
    refine e_iload_n (pc := 9) d_zs_planAnew_9 rfl ?_
    refine e_aload_n (pc := 10) d_zs_planAnew_10 rfl ?_
    refine e_get (pc := 11) d_zs_planAnew_11 fl_zs_179 hV.1 rfl ?_
    refine e_icmp_geN (pc := 14) (tgt := 36) d_zs_planAnew_14 (by decide) (by omega) (by omega) (fun c => ?_) (fun c => ?_)
    · have hkn : n = v_ln (z_V R k) := by omega
      rw [hkn]
      exact e_vret (pc := 36) d_zs_planAnew_36 rfl (⟨rfl, rfl, rfl⟩)
    · obtain ⟨a, hla, ha, hen, hok⟩ := hE.2 n c
      refine e_aload_n (pc := 17) d_zs_planAnew_17 rfl ?_
      refine e_get (pc := 18) d_zs_planAnew_18 fl_zs_24 zs_g1 rfl ?_
      refine e_aload_n (pc := 21) d_zs_planAnew_21 rfl ?_
      refine e_get (pc := 22) d_zs_planAnew_22 fl_zs_232 hV.1 rfl ?_
      refine e_iload_n (pc := 25) d_zs_planAnew_25 rfl ?_
      refine e_aaldN (pc := 26) d_zs_planAnew_26 hV.2 (fun _ => rfl) (by omega) (by decide) hla ?_
      refine e_callV (As := [.ref (a)]) (st := []) (cc2 := 0) (ss2 := 0) (pc := 27) d_zs_planAnew_27 rfl cv_zs_226 zs_tP.1 rfl (c_tr_play htr zs_tP (en_up ha hen) hok (by omega)) rfl (by decide) (by decide) (by omega) (by omega) (Nat.le_of_ble_eq_true rfl) (fun _ _ _ hq => nomatch hq.1) (fun r h2 N2 hq => ?_)
      obtain ⟨hr, e1, e2⟩ := hq
      cases hr
      rw [e1, e2]
      clear e1 e2
      show q_Ev l G m_zs_planAnew 3 65 0 0 30 [some (.ref (1)), some (.ref (9 + 7 * k)), some (.int (nI (n)))] [] _ N _
      rw [zs_uP]
      refine e_iincN (pc := 30) d_zs_planAnew_30 (a := n) (b := 1) rfl rfl (by decide) ?_
      refine e_goto (pc := 33) (tgt := 9) d_zs_planAnew_33 (by decide) ?_
      have e1 : plK E k R (n + 1) = playR (E a) (plK E k R n) := by rw [plK, hla]; rfl
      have := ih (n + 1) (by omega) (by omega)
      rw [e1] at this
      exact this
set_option maxHeartbeats 4000000 in
set_option maxRecDepth 100000 in
theorem c_zs_planAnew {l : Launch} {G : q_G} (htr : l.stackTraces = false) {h : q_H} {N : Nat} {R : zR} {E : Nat → zE} {k : Nat} (hk : k < 3) (hE : zEn h E (z_V R k)) : q_Met l G m_zs_planAnew 3 65 0 0 [.ref (1), .ref (9 + 7 * k)] (zs_put h R) N (q_To none (zs_put h (z_sP R (plK E k R (v_ln (z_V R k))))) N) := by
  refine q_Met.mk htr (by decide +kernel) rfl (List.forall_mem_cons.mpr ⟨rfl, List.forall_mem_cons.mpr ⟨rfl, fun _ h => nomatch h⟩⟩) (Nat.le_of_ble_eq_true rfl) ?_
  refine e_aload_n (pc := 0) d_zs_planAnew_0 rfl ?_
  refine e_get (pc := 1) d_zs_planAnew_1 fl_zs_24 zs_g1 rfl ?_
  refine e_callV (As := []) (st := []) (cc2 := 0) (ss2 := 0) (pc := 4) d_zs_planAnew_4 rfl cv_zs_229 zs_tP.1 rfl (c_tr_clear htr zs_tP) rfl (by decide) (by decide) (by omega) (by omega) (Nat.le_of_ble_eq_true rfl) (fun _ _ _ hq => nomatch hq.1) (fun r h2 N2 hq => ?_)
  obtain ⟨hr, e1, e2⟩ := hq
  cases hr
  rw [e1, e2]
  clear e1 e2
  show q_Ev l G m_zs_planAnew 3 65 0 0 7 [some (.ref (1)), some (.ref (9 + 7 * k)), none] [] _ N _
  rw [zs_uP]
  refine e_iconst (pc := 7) d_zs_planAnew_7 (v := (nI (0))) rfl ?_
  refine e_istore_n (pc := 8) d_zs_planAnew_8 (by decide) ?_
  exact lp_zs_planAnew htr hk hE _ 0 (Nat.lt_of_lt_of_eq (Nat.lt_succ_self _) (Nat.zero_add _).symm) (by omega)
set_option maxHeartbeats 4000000 in
set_option maxRecDepth 100000 in
theorem c_zs_proposeChange {l : Launch} {G : q_G} (htr : l.stackTraces = false) {h : q_H} {N : Nat} {R : zR} {E : Nat → zE} (hO : zOK h E R) {a : Nat} (ha : 41 < a) (he : en_Is h a (E a)) (hk9 : eOK (E a)) : q_Met l G m_zs_proposeChange 7 115 1 6 [.ref (1), .ref (a)] (zs_put h R) N (fun o h' N' => N ≤ N' ∧ ((z_full R = true ∧ h' = zs_put h R ∧ o = .inr "java/lang/IllegalStateException") ∨ (z_full R = false ∧ h' = zs_put h (spR E (apP a (E a) R)) ∧ ((z_qr (spR E (apP a (E a) R)) = true ∧ o = .inl none ∧ N' = N) ∨ (z_qr (spR E (apP a (E a) R)) = false ∧ o = .inr "java/lang/IllegalStateException"))))) := by
  refine q_Met.mk htr (by decide +kernel) rfl (List.forall_mem_cons.mpr ⟨rfl, List.forall_mem_cons.mpr ⟨rfl, fun _ h => nomatch h⟩⟩) (Nat.le_of_ble_eq_true rfl) ?_
  refine e_aload_n (pc := 0) d_zs_proposeChange_0 rfl ?_
  refine e_get (pc := 1) d_zs_proposeChange_1 fl_zs_28 zs_g1 rfl ?_
  refine e_iconst (pc := 4) d_zs_proposeChange_4 (v := (-1)) rfl ?_
  refine e_icmp_eq (pc := 5) (tgt := 25) d_zs_proposeChange_5 (by decide) (fun c => ?_) (fun c => ?_)
  · have hl := (ldI_m1 hO.1).mp c
    exact e_throw (pc := 25) rfl xx_zs_66 d_zs_proposeChange_25 d_zs_proposeChange_28 d_zs_proposeChange_29 d_zs_proposeChange_32 (by decide) (Nat.le_of_ble_eq_true rfl) (by omega) (by omega) (fun N2 hN => ⟨hN, Or.inl ⟨by simp only [z_full, hl], rfl, rfl⟩⟩)
  · obtain ⟨k, hl⟩ : ∃ k, z_ld R = some k := by cases hx : z_ld R with | none => exact absurd (by rw [hx]; rfl) c | some k => exact ⟨k, rfl⟩
    have hk := hO.1 k hl
    have h64 := (hO.2.2.2 k hk).1.1
    refine e_aload_n (pc := 8) d_zs_proposeChange_8 rfl ?_
    refine e_get (pc := 9) d_zs_proposeChange_9 fl_zs_11 zs_g1 rfl ?_
    refine e_aload_n (pc := 12) d_zs_proposeChange_12 rfl ?_
    refine e_get (pc := 13) d_zs_proposeChange_13 fl_zs_28 zs_g1 rfl ?_
    rw [show ldI (z_ld R) = nI k by rw [hl]; rfl]
    refine e_aaldN (pc := 16) d_zs_proposeChange_16 zs_g2 (fun _ => rfl) (by omega) (by decide) rfl ?_
    refine e_get (pc := 17) d_zs_proposeChange_17 fl_zs_179 (zs_v hk).1 rfl ?_
    refine e_bipush (pc := 20) d_zs_proposeChange_20 (v := (nI (60))) rfl ?_
    refine e_icmp_ltN (pc := 22) (tgt := 33) d_zs_proposeChange_22 (by decide) (by omega) (by omega) (fun c2 => ?_) (fun c2 => ?_)
    · have hf : z_full R = false := by simp only [z_full, hl]; exact decide_eq_false (by omega)
      have hl64 : ∀ k, z_ld R = some k → v_ln (z_V R k) < 64 := fun k2 h2 => by rw [hl] at h2; cases h2; omega
      refine e_aload_n (pc := 33) d_zs_proposeChange_33 rfl ?_
      refine e_aload_n (pc := 34) d_zs_proposeChange_34 rfl ?_
      refine e_callV (As := [.ref (a)]) (st := []) (cc2 := 1) (ss2 := 6) (pc := 35) d_zs_proposeChange_35 rfl cv_zs_220 zs_g1 rfl (c_zs_appendAndPlan htr hO.1 ha he hk9 hl64) rfl (by decide) (by decide) (by omega) (by omega) (Nat.le_of_ble_eq_true rfl) (fun _ _ _ hq => nomatch hq.1) (fun r h2 N2 hq => ?_)
      obtain ⟨hr, e1, e2⟩ := hq
      cases hr
      rw [e1, e2]
      clear e1 e2
      show q_Ev l G m_zs_proposeChange 7 115 1 6 38 [some (.ref (1)), some (.ref (a))] [] _ N _
      have hO1 := zOK_apP hO ha he hk9 hl64
      refine e_aload_n (pc := 38) d_zs_proposeChange_38 rfl ?_
      refine e_callV (As := []) (st := []) (cc2 := 1) (ss2 := 6) (pc := 39) d_zs_proposeChange_39 rfl cv_zs_182 zs_g1 rfl (c_zs_spread htr hO1) rfl (by decide) (by decide) (by omega) (by omega) (Nat.le_of_ble_eq_true rfl) (fun _ _ _ hq => nomatch hq.1) (fun r h2 N2 hq => ?_)
      obtain ⟨hr, e1, e2⟩ := hq
      cases hr
      rw [e1, e2]
      clear e1 e2
      show q_Ev l G m_zs_proposeChange 7 115 1 6 42 [some (.ref (1)), some (.ref (a))] [] _ N _
      refine e_aload_n (pc := 42) d_zs_proposeChange_42 rfl ?_
      refine e_callV (As := []) (st := []) (cc2 := 0) (ss2 := 0) (pc := 43) d_zs_proposeChange_43 rfl cv_zs_75 zs_g1 rfl (c_zs_requireQuorum htr (zOK_sp hO1).1) rfl (by decide) (by decide) (by omega) (by omega) (Nat.le_of_ble_eq_true rfl) (fun _ _ _ hq => ⟨hq.2.1, Or.inr ⟨hf, hq.1, hq.2.2.elim (fun z => nomatch z.2.1) (fun z => Or.inr ⟨by cases hz : z_qr (spR E (apP a (E a) R)) with | false => rfl | true => exact absurd hz z.1, z.2⟩)⟩⟩) (fun r h2 N2 hq => ?_)
      obtain ⟨e1, -, ⟨hok, hr, e2⟩ | ⟨-, hr⟩⟩ := hq; rotate_left; exact nomatch hr
      cases hr
      rw [e1, e2]
      clear e1 e2
      show q_Ev l G m_zs_proposeChange 7 115 0 0 46 [some (.ref (1)), some (.ref (a))] [] _ N _
      exact e_vret (pc := 46) d_zs_proposeChange_46 rfl (⟨Nat.le_refl _, Or.inr ⟨hf, rfl, Or.inl ⟨hok, rfl, rfl⟩⟩⟩)
    · exact e_throw (pc := 25) rfl xx_zs_66 d_zs_proposeChange_25 d_zs_proposeChange_28 d_zs_proposeChange_29 d_zs_proposeChange_32 (by decide) (Nat.le_of_ble_eq_true rfl) (by omega) (by omega) (fun N2 hN => ⟨hN, Or.inl ⟨by simp only [z_full, hl, decide_eq_true c2], rfl, rfl⟩⟩)
end
