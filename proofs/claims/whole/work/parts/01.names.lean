-- ===== PART A: goes FIRST, ahead of the names: the tables' words, and 'selects' of the private methods out of them =====
/-- a private method of a class that the tables say can be made, by its rows of tables_1 -/
def lw_okq (q : MethodName × Nat) : Prop := (q.1.cls ≠ "java/lang/invoke/MethodHandle" ∧ q.1.cls ≠ "java/lang/invoke/VarHandle") ∧ Cond.instantiable q.1.cls q.2 ∈ tables_1 ∧ Cond.privateMethod q.1 ∈ tables_1 ∧ Cond.instanceMethod q.1 ∈ tables_1
theorem lw_p0 : lw_okq (⟨"java/lang/Throwable", "fillInStackTrace", "(I)Ljava/lang/Throwable;"⟩, 6) := ⟨⟨by decide +kernel, by decide +kernel⟩, List.mem_of_getElem? (i := 253) (by decide +kernel), List.mem_of_getElem? (i := 251) (by decide +kernel), List.mem_of_getElem? (i := 252) (by decide +kernel)⟩
theorem lw_p1 : lw_okq (⟨"RingProcessor", "takeInterrupt", "()I"⟩, 15) := ⟨⟨by decide +kernel, by decide +kernel⟩, List.mem_of_getElem? (i := 14) (by decide +kernel), List.mem_of_getElem? (i := 331) (by decide +kernel), List.mem_of_getElem? (i := 332) (by decide +kernel)⟩
theorem lw_p2 : lw_okq (⟨"RingProcessor", "perform", "()I"⟩, 15) := ⟨⟨by decide +kernel, by decide +kernel⟩, List.mem_of_getElem? (i := 14) (by decide +kernel), List.mem_of_getElem? (i := 335) (by decide +kernel), List.mem_of_getElem? (i := 336) (by decide +kernel)⟩
theorem lw_p3 : lw_okq (⟨"RingProcessor$Store", "lookForPage", "(IIZ)J"⟩, 4) := ⟨⟨by decide +kernel, by decide +kernel⟩, List.mem_of_getElem? (i := 22) (by decide +kernel), List.mem_of_getElem? (i := 383) (by decide +kernel), List.mem_of_getElem? (i := 384) (by decide +kernel)⟩
theorem lw_p4 : lw_okq (⟨"RingProcessor", "performWithoutAddress", "(I)I"⟩, 15) := ⟨⟨by decide +kernel, by decide +kernel⟩, List.mem_of_getElem? (i := 14) (by decide +kernel), List.mem_of_getElem? (i := 394) (by decide +kernel), List.mem_of_getElem? (i := 395) (by decide +kernel)⟩
theorem lw_p5 : lw_okq (⟨"RingProcessor", "advance", "()I"⟩, 15) := ⟨⟨by decide +kernel, by decide +kernel⟩, List.mem_of_getElem? (i := 14) (by decide +kernel), List.mem_of_getElem? (i := 398) (by decide +kernel), List.mem_of_getElem? (i := 399) (by decide +kernel)⟩
theorem lw_p6 : lw_okq (⟨"RingProcessor", "exchange", "()I"⟩, 15) := ⟨⟨by decide +kernel, by decide +kernel⟩, List.mem_of_getElem? (i := 14) (by decide +kernel), List.mem_of_getElem? (i := 403) (by decide +kernel), List.mem_of_getElem? (i := 404) (by decide +kernel)⟩
theorem lw_p7 : lw_okq (⟨"RingProcessor", "performInRing0", "(I)I"⟩, 15) := ⟨⟨by decide +kernel, by decide +kernel⟩, List.mem_of_getElem? (i := 14) (by decide +kernel), List.mem_of_getElem? (i := 407) (by decide +kernel), List.mem_of_getElem? (i := 408) (by decide +kernel)⟩
theorem lw_p8 : lw_okq (⟨"RingProcessor", "goBack", "()I"⟩, 15) := ⟨⟨by decide +kernel, by decide +kernel⟩, List.mem_of_getElem? (i := 14) (by decide +kernel), List.mem_of_getElem? (i := 411) (by decide +kernel), List.mem_of_getElem? (i := 412) (by decide +kernel)⟩
theorem lw_p9 : lw_okq (⟨"RingProcessor", "startAddress", "(J)V"⟩, 15) := ⟨⟨by decide +kernel, by decide +kernel⟩, List.mem_of_getElem? (i := 14) (by decide +kernel), List.mem_of_getElem? (i := 419) (by decide +kernel), List.mem_of_getElem? (i := 420) (by decide +kernel)⟩
theorem lw_p10 : lw_okq (⟨"RingProcessor", "followChain", "()I"⟩, 15) := ⟨⟨by decide +kernel, by decide +kernel⟩, List.mem_of_getElem? (i := 14) (by decide +kernel), List.mem_of_getElem? (i := 428) (by decide +kernel), List.mem_of_getElem? (i := 429) (by decide +kernel)⟩
theorem lw_p11 : lw_okq (⟨"RingProcessor", "followWord", "(J)Z"⟩, 15) := ⟨⟨by decide +kernel, by decide +kernel⟩, List.mem_of_getElem? (i := 14) (by decide +kernel), List.mem_of_getElem? (i := 432) (by decide +kernel), List.mem_of_getElem? (i := 433) (by decide +kernel)⟩
theorem lw_p12 : lw_okq (⟨"RingProcessor", "performAtAddress", "(I)I"⟩, 15) := ⟨⟨by decide +kernel, by decide +kernel⟩, List.mem_of_getElem? (i := 14) (by decide +kernel), List.mem_of_getElem? (i := 437) (by decide +kernel), List.mem_of_getElem? (i := 438) (by decide +kernel)⟩
theorem lw_p13 : lw_okq (⟨"RingProcessor", "put", "(J)I"⟩, 15) := ⟨⟨by decide +kernel, by decide +kernel⟩, List.mem_of_getElem? (i := 14) (by decide +kernel), List.mem_of_getElem? (i := 441) (by decide +kernel), List.mem_of_getElem? (i := 442) (by decide +kernel)⟩
theorem lw_p14 : lw_okq (⟨"RingProcessor$Store", "markChanged", "(I)V"⟩, 4) := ⟨⟨by decide +kernel, by decide +kernel⟩, List.mem_of_getElem? (i := 22) (by decide +kernel), List.mem_of_getElem? (i := 450) (by decide +kernel), List.mem_of_getElem? (i := 451) (by decide +kernel)⟩
theorem lw_p15 : lw_okq (⟨"RingProcessor", "addOne", "()I"⟩, 15) := ⟨⟨by decide +kernel, by decide +kernel⟩, List.mem_of_getElem? (i := 14) (by decide +kernel), List.mem_of_getElem? (i := 455) (by decide +kernel), List.mem_of_getElem? (i := 456) (by decide +kernel)⟩
def lw_privs_1 : List (MethodName × Nat) := [(⟨"java/lang/Throwable", "fillInStackTrace", "(I)Ljava/lang/Throwable;"⟩, 6), (⟨"RingProcessor", "takeInterrupt", "()I"⟩, 15), (⟨"RingProcessor", "perform", "()I"⟩, 15), (⟨"RingProcessor$Store", "lookForPage", "(IIZ)J"⟩, 4), (⟨"RingProcessor", "performWithoutAddress", "(I)I"⟩, 15), (⟨"RingProcessor", "advance", "()I"⟩, 15), (⟨"RingProcessor", "exchange", "()I"⟩, 15), (⟨"RingProcessor", "performInRing0", "(I)I"⟩, 15), (⟨"RingProcessor", "goBack", "()I"⟩, 15), (⟨"RingProcessor", "startAddress", "(J)V"⟩, 15), (⟨"RingProcessor", "followChain", "()I"⟩, 15), (⟨"RingProcessor", "followWord", "(J)Z"⟩, 15), (⟨"RingProcessor", "performAtAddress", "(I)I"⟩, 15), (⟨"RingProcessor", "put", "(J)I"⟩, 15), (⟨"RingProcessor$Store", "markChanged", "(I)V"⟩, 4), (⟨"RingProcessor", "addOne", "()I"⟩, 15)]
theorem lw_r1 : ∀ q ∈ lw_privs_1, lw_okq q := List.forall_mem_cons.mpr ⟨lw_p0, List.forall_mem_cons.mpr ⟨lw_p1, List.forall_mem_cons.mpr ⟨lw_p2, List.forall_mem_cons.mpr ⟨lw_p3, List.forall_mem_cons.mpr ⟨lw_p4, List.forall_mem_cons.mpr ⟨lw_p5, List.forall_mem_cons.mpr ⟨lw_p6, List.forall_mem_cons.mpr ⟨lw_p7, List.forall_mem_cons.mpr ⟨lw_p8, List.forall_mem_cons.mpr ⟨lw_p9, List.forall_mem_cons.mpr ⟨lw_p10, List.forall_mem_cons.mpr ⟨lw_p11, List.forall_mem_cons.mpr ⟨lw_p12, List.forall_mem_cons.mpr ⟨lw_p13, List.forall_mem_cons.mpr ⟨lw_p14, List.forall_mem_cons.mpr ⟨lw_p15, fun _ h => absurd h List.not_mem_nil⟩⟩⟩⟩⟩⟩⟩⟩⟩⟩⟩⟩⟩⟩⟩⟩
theorem lw_p16 : lw_okq (⟨"RingProcessor", "transfer", "(Z)I"⟩, 15) := ⟨⟨by decide +kernel, by decide +kernel⟩, List.mem_of_getElem? (i := 14) (by decide +kernel), List.mem_of_getElem? (i := 459) (by decide +kernel), List.mem_of_getElem? (i := 460) (by decide +kernel)⟩
theorem lw_p17 : lw_okq (⟨"RingProcessor", "callAddress", "()I"⟩, 15) := ⟨⟨by decide +kernel, by decide +kernel⟩, List.mem_of_getElem? (i := 14) (by decide +kernel), List.mem_of_getElem? (i := 464) (by decide +kernel), List.mem_of_getElem? (i := 465) (by decide +kernel)⟩
theorem lw_p18 : lw_okq (⟨"RingProcessor", "returnByWord", "()I"⟩, 15) := ⟨⟨by decide +kernel, by decide +kernel⟩, List.mem_of_getElem? (i := 14) (by decide +kernel), List.mem_of_getElem? (i := 473) (by decide +kernel), List.mem_of_getElem? (i := 474) (by decide +kernel)⟩
theorem lw_p19 : lw_okq (⟨"RingProcessor", "load", "(I)I"⟩, 15) := ⟨⟨by decide +kernel, by decide +kernel⟩, List.mem_of_getElem? (i := 14) (by decide +kernel), List.mem_of_getElem? (i := 477) (by decide +kernel), List.mem_of_getElem? (i := 478) (by decide +kernel)⟩
theorem lw_p20 : lw_okq (⟨"RingProcessor", "combined", "(IJ)J"⟩, 15) := ⟨⟨by decide +kernel, by decide +kernel⟩, List.mem_of_getElem? (i := 14) (by decide +kernel), List.mem_of_getElem? (i := 481) (by decide +kernel), List.mem_of_getElem? (i := 482) (by decide +kernel)⟩
theorem lw_p21 : lw_okq (⟨"RingProcessor", "enter", "(I)V"⟩, 15) := ⟨⟨by decide +kernel, by decide +kernel⟩, List.mem_of_getElem? (i := 14) (by decide +kernel), List.mem_of_getElem? (i := 485) (by decide +kernel), List.mem_of_getElem? (i := 486) (by decide +kernel)⟩
theorem lw_p22 : lw_okq (⟨"RingProcessorModel", "findDescriptor", "(I)I"⟩, 37) := ⟨⟨by decide +kernel, by decide +kernel⟩, List.mem_of_getElem? (i := 504) (by decide +kernel), List.mem_of_getElem? (i := 630) (by decide +kernel), List.mem_of_getElem? (i := 631) (by decide +kernel)⟩
theorem lw_p23 : lw_okq (⟨"RingProcessorModel", "findPage", "(II)I"⟩, 37) := ⟨⟨by decide +kernel, by decide +kernel⟩, List.mem_of_getElem? (i := 504) (by decide +kernel), List.mem_of_getElem? (i := 642) (by decide +kernel), List.mem_of_getElem? (i := 643) (by decide +kernel)⟩
theorem lw_p24 : lw_okq (⟨"RingProcessorModel", "step", "()V"⟩, 37) := ⟨⟨by decide +kernel, by decide +kernel⟩, List.mem_of_getElem? (i := 504) (by decide +kernel), List.mem_of_getElem? (i := 650) (by decide +kernel), List.mem_of_getElem? (i := 651) (by decide +kernel)⟩
theorem lw_p25 : lw_okq (⟨"RingProcessorModel", "save", "(III)V"⟩, 37) := ⟨⟨by decide +kernel, by decide +kernel⟩, List.mem_of_getElem? (i := 504) (by decide +kernel), List.mem_of_getElem? (i := 654) (by decide +kernel), List.mem_of_getElem? (i := 655) (by decide +kernel)⟩
theorem lw_p26 : lw_okq (⟨"RingProcessorModel", "place", "(IIII)I"⟩, 37) := ⟨⟨by decide +kernel, by decide +kernel⟩, List.mem_of_getElem? (i := 504) (by decide +kernel), List.mem_of_getElem? (i := 658) (by decide +kernel), List.mem_of_getElem? (i := 659) (by decide +kernel)⟩
theorem lw_p27 : lw_okq (⟨"RingProcessorModel", "look", "(I)V"⟩, 37) := ⟨⟨by decide +kernel, by decide +kernel⟩, List.mem_of_getElem? (i := 504) (by decide +kernel), List.mem_of_getElem? (i := 662) (by decide +kernel), List.mem_of_getElem? (i := 663) (by decide +kernel)⟩
theorem lw_p28 : lw_okq (⟨"RingProcessorModel", "lookPage", "(III)J"⟩, 37) := ⟨⟨by decide +kernel, by decide +kernel⟩, List.mem_of_getElem? (i := 504) (by decide +kernel), List.mem_of_getElem? (i := 666) (by decide +kernel), List.mem_of_getElem? (i := 667) (by decide +kernel)⟩
theorem lw_p29 : lw_okq (⟨"RingProcessorModel", "wrong", "(III)V"⟩, 37) := ⟨⟨by decide +kernel, by decide +kernel⟩, List.mem_of_getElem? (i := 504) (by decide +kernel), List.mem_of_getElem? (i := 670) (by decide +kernel), List.mem_of_getElem? (i := 671) (by decide +kernel)⟩
theorem lw_p30 : lw_okq (⟨"RingProcessorModel", "system", "(I)V"⟩, 37) := ⟨⟨by decide +kernel, by decide +kernel⟩, List.mem_of_getElem? (i := 504) (by decide +kernel), List.mem_of_getElem? (i := 674) (by decide +kernel), List.mem_of_getElem? (i := 675) (by decide +kernel)⟩
theorem lw_p31 : lw_okq (⟨"RingProcessorModel", "wrongHere", "(I)V"⟩, 37) := ⟨⟨by decide +kernel, by decide +kernel⟩, List.mem_of_getElem? (i := 504) (by decide +kernel), List.mem_of_getElem? (i := 678) (by decide +kernel), List.mem_of_getElem? (i := 679) (by decide +kernel)⟩
def lw_privs_2 : List (MethodName × Nat) := [(⟨"RingProcessor", "transfer", "(Z)I"⟩, 15), (⟨"RingProcessor", "callAddress", "()I"⟩, 15), (⟨"RingProcessor", "returnByWord", "()I"⟩, 15), (⟨"RingProcessor", "load", "(I)I"⟩, 15), (⟨"RingProcessor", "combined", "(IJ)J"⟩, 15), (⟨"RingProcessor", "enter", "(I)V"⟩, 15), (⟨"RingProcessorModel", "findDescriptor", "(I)I"⟩, 37), (⟨"RingProcessorModel", "findPage", "(II)I"⟩, 37), (⟨"RingProcessorModel", "step", "()V"⟩, 37), (⟨"RingProcessorModel", "save", "(III)V"⟩, 37), (⟨"RingProcessorModel", "place", "(IIII)I"⟩, 37), (⟨"RingProcessorModel", "look", "(I)V"⟩, 37), (⟨"RingProcessorModel", "lookPage", "(III)J"⟩, 37), (⟨"RingProcessorModel", "wrong", "(III)V"⟩, 37), (⟨"RingProcessorModel", "system", "(I)V"⟩, 37), (⟨"RingProcessorModel", "wrongHere", "(I)V"⟩, 37)]
theorem lw_r2 : ∀ q ∈ lw_privs_2, lw_okq q := List.forall_mem_cons.mpr ⟨lw_p16, List.forall_mem_cons.mpr ⟨lw_p17, List.forall_mem_cons.mpr ⟨lw_p18, List.forall_mem_cons.mpr ⟨lw_p19, List.forall_mem_cons.mpr ⟨lw_p20, List.forall_mem_cons.mpr ⟨lw_p21, List.forall_mem_cons.mpr ⟨lw_p22, List.forall_mem_cons.mpr ⟨lw_p23, List.forall_mem_cons.mpr ⟨lw_p24, List.forall_mem_cons.mpr ⟨lw_p25, List.forall_mem_cons.mpr ⟨lw_p26, List.forall_mem_cons.mpr ⟨lw_p27, List.forall_mem_cons.mpr ⟨lw_p28, List.forall_mem_cons.mpr ⟨lw_p29, List.forall_mem_cons.mpr ⟨lw_p30, List.forall_mem_cons.mpr ⟨lw_p31, fun _ h => absurd h List.not_mem_nil⟩⟩⟩⟩⟩⟩⟩⟩⟩⟩⟩⟩⟩⟩⟩⟩
theorem lw_p32 : lw_okq (⟨"RingProcessorModel", "address", "(J)V"⟩, 37) := ⟨⟨by decide +kernel, by decide +kernel⟩, List.mem_of_getElem? (i := 504) (by decide +kernel), List.mem_of_getElem? (i := 682) (by decide +kernel), List.mem_of_getElem? (i := 683) (by decide +kernel)⟩
theorem lw_p33 : lw_okq (⟨"RingProcessorModel", "read", "(III)J"⟩, 37) := ⟨⟨by decide +kernel, by decide +kernel⟩, List.mem_of_getElem? (i := 504) (by decide +kernel), List.mem_of_getElem? (i := 689) (by decide +kernel), List.mem_of_getElem? (i := 690) (by decide +kernel)⟩
theorem lw_p34 : lw_okq (⟨"RingProcessorModel", "indirect", "(J)V"⟩, 37) := ⟨⟨by decide +kernel, by decide +kernel⟩, List.mem_of_getElem? (i := 504) (by decide +kernel), List.mem_of_getElem? (i := 693) (by decide +kernel), List.mem_of_getElem? (i := 694) (by decide +kernel)⟩
theorem lw_p35 : lw_okq (⟨"RingProcessorModel", "act", "(I)V"⟩, 37) := ⟨⟨by decide +kernel, by decide +kernel⟩, List.mem_of_getElem? (i := 504) (by decide +kernel), List.mem_of_getElem? (i := 697) (by decide +kernel), List.mem_of_getElem? (i := 698) (by decide +kernel)⟩
theorem lw_p36 : lw_okq (⟨"RingProcessorModel", "reckon", "(I)V"⟩, 37) := ⟨⟨by decide +kernel, by decide +kernel⟩, List.mem_of_getElem? (i := 504) (by decide +kernel), List.mem_of_getElem? (i := 701) (by decide +kernel), List.mem_of_getElem? (i := 702) (by decide +kernel)⟩
theorem lw_p37 : lw_okq (⟨"RingProcessorModel", "here", "()J"⟩, 37) := ⟨⟨by decide +kernel, by decide +kernel⟩, List.mem_of_getElem? (i := 504) (by decide +kernel), List.mem_of_getElem? (i := 705) (by decide +kernel), List.mem_of_getElem? (i := 706) (by decide +kernel)⟩
theorem lw_p38 : lw_okq (⟨"RingProcessorModel", "write", "(J)V"⟩, 37) := ⟨⟨by decide +kernel, by decide +kernel⟩, List.mem_of_getElem? (i := 504) (by decide +kernel), List.mem_of_getElem? (i := 710) (by decide +kernel), List.mem_of_getElem? (i := 711) (by decide +kernel)⟩
theorem lw_p39 : lw_okq (⟨"RingProcessorModel", "jump", "()V"⟩, 37) := ⟨⟨by decide +kernel, by decide +kernel⟩, List.mem_of_getElem? (i := 504) (by decide +kernel), List.mem_of_getElem? (i := 715) (by decide +kernel), List.mem_of_getElem? (i := 716) (by decide +kernel)⟩
theorem lw_p40 : lw_okq (⟨"RingProcessorModel", "call", "()V"⟩, 37) := ⟨⟨by decide +kernel, by decide +kernel⟩, List.mem_of_getElem? (i := 504) (by decide +kernel), List.mem_of_getElem? (i := 722) (by decide +kernel), List.mem_of_getElem? (i := 723) (by decide +kernel)⟩
theorem lw_p41 : lw_okq (⟨"RingProcessorModel", "back", "()V"⟩, 37) := ⟨⟨by decide +kernel, by decide +kernel⟩, List.mem_of_getElem? (i := 504) (by decide +kernel), List.mem_of_getElem? (i := 726) (by decide +kernel), List.mem_of_getElem? (i := 727) (by decide +kernel)⟩
def lw_privs_3 : List (MethodName × Nat) := [(⟨"RingProcessorModel", "address", "(J)V"⟩, 37), (⟨"RingProcessorModel", "read", "(III)J"⟩, 37), (⟨"RingProcessorModel", "indirect", "(J)V"⟩, 37), (⟨"RingProcessorModel", "act", "(I)V"⟩, 37), (⟨"RingProcessorModel", "reckon", "(I)V"⟩, 37), (⟨"RingProcessorModel", "here", "()J"⟩, 37), (⟨"RingProcessorModel", "write", "(J)V"⟩, 37), (⟨"RingProcessorModel", "jump", "()V"⟩, 37), (⟨"RingProcessorModel", "call", "()V"⟩, 37), (⟨"RingProcessorModel", "back", "()V"⟩, 37)]
theorem lw_r3 : ∀ q ∈ lw_privs_3, lw_okq q := List.forall_mem_cons.mpr ⟨lw_p32, List.forall_mem_cons.mpr ⟨lw_p33, List.forall_mem_cons.mpr ⟨lw_p34, List.forall_mem_cons.mpr ⟨lw_p35, List.forall_mem_cons.mpr ⟨lw_p36, List.forall_mem_cons.mpr ⟨lw_p37, List.forall_mem_cons.mpr ⟨lw_p38, List.forall_mem_cons.mpr ⟨lw_p39, List.forall_mem_cons.mpr ⟨lw_p40, List.forall_mem_cons.mpr ⟨lw_p41, fun _ h => absurd h List.not_mem_nil⟩⟩⟩⟩⟩⟩⟩⟩⟩⟩
def lw_privs : List (MethodName × Nat) := lw_privs_1 ++ (lw_privs_2 ++ (lw_privs_3))
def lw_tbl : List Cond := k2_sels lw_privs ++ tables_1
theorem lw_privs_ok : ∀ q ∈ lw_privs, lw_okq q := by
  show ∀ q ∈ lw_privs_1 ++ (lw_privs_2 ++ (lw_privs_3)), lw_okq q
  exact List.forall_mem_append.mpr ⟨lw_r1, List.forall_mem_append.mpr ⟨lw_r2, lw_r3⟩⟩
def RX0 : String := "RingProcessor$Copies"
def TX0 : u_T := fun k => match k with
  | 0 => ("RingProcessor$Copies", "names", "[I", true)
  | 1 => ("RingProcessor$Copies", "firsts", "[J", true)
  | 2 => ("RingProcessor$Copies", "seconds", "[J", true)
  | _ => ("RingProcessor$Copies", "count", "I", false)
def tyX0 : Nat → FieldType := fun k => match k with
  | 0 => .array .int
  | 1 => .array .long
  | 2 => .array .long
  | _ => .int
theorem nmX0 : ∀ a, a < 4 → ∀ b, b < 4 → a ≠ b → (TX0 a).2.1 ≠ (TX0 b).2.1 := by decide +kernel
theorem tyokX0 : ∀ k, k < 4 → parseFieldDescriptor (TX0 k).2.2.1 = some (tyX0 k) := by decide +kernel
def RX1 : String := "RingProcessor$Descriptor"
def TX1 : u_T := fun k => match k with
  | 0 => ("RingProcessor$Descriptor", "isThere", "Z", false)
  | 1 => ("RingProcessor$Descriptor", "isPaged", "Z", false)
  | 2 => ("RingProcessor$Descriptor", "base", "I", false)
  | 3 => ("RingProcessor$Descriptor", "bound", "I", false)
  | 4 => ("RingProcessor$Descriptor", "r1", "I", false)
  | 5 => ("RingProcessor$Descriptor", "r2", "I", false)
  | 6 => ("RingProcessor$Descriptor", "r3", "I", false)
  | 7 => ("RingProcessor$Descriptor", "mayBeRead", "Z", false)
  | 8 => ("RingProcessor$Descriptor", "mayBeWritten", "Z", false)
  | 9 => ("RingProcessor$Descriptor", "mayBeExecuted", "Z", false)
  | _ => ("RingProcessor$Descriptor", "gates", "I", false)
def tyX1 : Nat → FieldType := fun k => match k with
  | 0 => .boolean
  | 1 => .boolean
  | 2 => .int
  | 3 => .int
  | 4 => .int
  | 5 => .int
  | 6 => .int
  | 7 => .boolean
  | 8 => .boolean
  | 9 => .boolean
  | _ => .int
theorem nmX1 : ∀ a, a < 11 → ∀ b, b < 11 → a ≠ b → (TX1 a).2.1 ≠ (TX1 b).2.1 := by decide +kernel
theorem tyokX1 : ∀ k, k < 11 → parseFieldDescriptor (TX1 k).2.2.1 = some (tyX1 k) := by decide +kernel
def RX2 : String := "RingProcessor$Pointer"
def TX2 : u_T := fun k => match k with
  | 0 => ("RingProcessor$Pointer", "segment", "I", false)
  | 1 => ("RingProcessor$Pointer", "word", "I", false)
  | _ => ("RingProcessor$Pointer", "ring", "I", false)
def tyX2 : Nat → FieldType := fun k => match k with
  | 0 => .int
  | 1 => .int
  | _ => .int
theorem nmX2 : ∀ a, a < 3 → ∀ b, b < 3 → a ≠ b → (TX2 a).2.1 ≠ (TX2 b).2.1 := by decide +kernel
theorem tyokX2 : ∀ k, k < 3 → parseFieldDescriptor (TX2 k).2.2.1 = some (tyX2 k) := by decide +kernel
def RX3 : String := "RingProcessor$Store"
def TX3 : u_T := fun k => match k with
  | 0 => ("RingProcessor$Store", "words", "[J", true)
  | 1 => ("RingProcessor$Store", "descriptors", "LRingProcessor$Copies;", true)
  | 2 => ("RingProcessor$Store", "pages", "LRingProcessor$Copies;", true)
  | _ => ("RingProcessor$Store", "descriptor", "LRingProcessor$Descriptor;", true)
def tyX3 : Nat → FieldType := fun k => match k with
  | 0 => .array .long
  | 1 => .object "RingProcessor$Copies"
  | 2 => .object "RingProcessor$Copies"
  | _ => .object "RingProcessor$Descriptor"
theorem nmX3 : ∀ a, a < 4 → ∀ b, b < 4 → a ≠ b → (TX3 a).2.1 ≠ (TX3 b).2.1 := by decide +kernel
theorem tyokX3 : ∀ k, k < 4 → parseFieldDescriptor (TX3 k).2.2.1 = some (tyX3 k) := by decide +kernel
def RX4 : String := "RingProcessor"
def TX4 : u_T := fun k => match k with
  | 0 => ("RingProcessor", "store", "LRingProcessor$Store;", true)
  | 1 => ("RingProcessor", "a", "J", false)
  | 2 => ("RingProcessor", "q", "J", false)
  | 3 => ("RingProcessor", "indexes", "[I", true)
  | 4 => ("RingProcessor", "pointers", "[LRingProcessor$Pointer;", true)
  | 5 => ("RingProcessor", "counter", "LRingProcessor$Pointer;", true)
  | 6 => ("RingProcessor", "target", "LRingProcessor$Pointer;", true)
  | 7 => ("RingProcessor", "savedCounter", "LRingProcessor$Pointer;", true)
  | 8 => ("RingProcessor", "hasSaved", "Z", false)
  | 9 => ("RingProcessor", "handles", "Z", false)
  | 10 => ("RingProcessor", "stopped", "Z", false)
  | 11 => ("RingProcessor", "latestFault", "I", false)
  | 12 => ("RingProcessor", "faultSegment", "I", false)
  | 13 => ("RingProcessor", "faultWord", "I", false)
  | _ => ("RingProcessor", "asked", "I", false)
def tyX4 : Nat → FieldType := fun k => match k with
  | 0 => .object "RingProcessor$Store"
  | 1 => .long
  | 2 => .long
  | 3 => .array .int
  | 4 => .array (.object "RingProcessor$Pointer")
  | 5 => .object "RingProcessor$Pointer"
  | 6 => .object "RingProcessor$Pointer"
  | 7 => .object "RingProcessor$Pointer"
  | 8 => .boolean
  | 9 => .boolean
  | 10 => .boolean
  | 11 => .int
  | 12 => .int
  | 13 => .int
  | _ => .int
theorem nmX4 : ∀ a, a < 15 → ∀ b, b < 15 → a ≠ b → (TX4 a).2.1 ≠ (TX4 b).2.1 := by decide +kernel
theorem tyokX4 : ∀ k, k < 15 → parseFieldDescriptor (TX4 k).2.2.1 = some (tyX4 k) := by decide +kernel
def RX5 : String := "RingProcessorModel"
def TX5 : u_T := fun k => match k with
  | 0 => ("RingProcessorModel", "thrown", "I", false)
  | 1 => ("RingProcessorModel", "memory", "[J", true)
  | 2 => ("RingProcessorModel", "descriptors", "I", false)
  | 3 => ("RingProcessorModel", "pages", "I", false)
  | 4 => ("RingProcessorModel", "segmentOf", "[I", true)
  | 5 => ("RingProcessorModel", "pageOf", "[I", true)
  | 6 => ("RingProcessorModel", "first", "[J", true)
  | 7 => ("RingProcessorModel", "second", "[J", true)
  | 8 => ("RingProcessorModel", "pageWord", "[J", true)
  | 9 => ("RingProcessorModel", "a", "J", false)
  | 10 => ("RingProcessorModel", "q", "J", false)
  | 11 => ("RingProcessorModel", "x", "[I", true)
  | 12 => ("RingProcessorModel", "segment", "[I", true)
  | 13 => ("RingProcessorModel", "word", "[I", true)
  | 14 => ("RingProcessorModel", "rings", "[I", true)
  | 15 => ("RingProcessorModel", "counterSegment", "I", false)
  | 16 => ("RingProcessorModel", "counterWord", "I", false)
  | 17 => ("RingProcessorModel", "ring", "I", false)
  | 18 => ("RingProcessorModel", "handles", "Z", false)
  | 19 => ("RingProcessorModel", "stopped", "Z", false)
  | 20 => ("RingProcessorModel", "asked", "I", false)
  | 21 => ("RingProcessorModel", "isSaved", "Z", false)
  | 22 => ("RingProcessorModel", "savedSegment", "I", false)
  | 23 => ("RingProcessorModel", "savedWord", "I", false)
  | 24 => ("RingProcessorModel", "savedRing", "I", false)
  | 25 => ("RingProcessorModel", "faultTold", "I", false)
  | 26 => ("RingProcessorModel", "segmentTold", "I", false)
  | 27 => ("RingProcessorModel", "wordTold", "I", false)
  | 28 => ("RingProcessorModel", "fault", "I", false)
  | 29 => ("RingProcessorModel", "badSegment", "I", false)
  | 30 => ("RingProcessorModel", "badWord", "I", false)
  | 31 => ("RingProcessorModel", "atSegment", "I", false)
  | 32 => ("RingProcessorModel", "atWord", "I", false)
  | 33 => ("RingProcessorModel", "effective", "I", false)
  | 34 => ("RingProcessorModel", "one", "J", false)
  | 35 => ("RingProcessorModel", "two", "J", false)
  | _ => ("RingProcessorModel", "jumped", "Z", false)
def tyX5 : Nat → FieldType := fun k => match k with
  | 0 => .int
  | 1 => .array .long
  | 2 => .int
  | 3 => .int
  | 4 => .array .int
  | 5 => .array .int
  | 6 => .array .long
  | 7 => .array .long
  | 8 => .array .long
  | 9 => .long
  | 10 => .long
  | 11 => .array .int
  | 12 => .array .int
  | 13 => .array .int
  | 14 => .array .int
  | 15 => .int
  | 16 => .int
  | 17 => .int
  | 18 => .boolean
  | 19 => .boolean
  | 20 => .int
  | 21 => .boolean
  | 22 => .int
  | 23 => .int
  | 24 => .int
  | 25 => .int
  | 26 => .int
  | 27 => .int
  | 28 => .int
  | 29 => .int
  | 30 => .int
  | 31 => .int
  | 32 => .int
  | 33 => .int
  | 34 => .long
  | 35 => .long
  | _ => .boolean
theorem nmX5 : ∀ a, a < 37 → ∀ b, b < 37 → a ≠ b → (TX5 a).2.1 ≠ (TX5 b).2.1 := by decide +kernel
theorem tyokX5 : ∀ k, k < 37 → parseFieldDescriptor (TX5 k).2.2.1 = some (tyX5 k) := by decide +kernel
def RL : String := "RingProcessorLaw"
abbrev vwCl : List vw_C := [(RX0, TX0, 4), (RX1, TX1, 11), (RX2, TX2, 3), (RX3, TX3, 4), (RX4, TX4, 15), (RX5, TX5, 37)]
abbrev cX4_init : ByteArray := prog_1_method_1_code
def yX4_init : MethodName := ⟨RX4, "<init>", "()V"⟩
abbrev cX3_init : ByteArray := prog_5_method_1_code
def yX3_init : MethodName := ⟨RX3, "<init>", "()V"⟩
abbrev cX0_init : ByteArray := prog_2_method_1_code
def yX0_init : MethodName := ⟨RX0, "<init>", "()V"⟩
abbrev cX1_init : ByteArray := prog_3_method_1_code
def yX1_init : MethodName := ⟨RX1, "<init>", "()V"⟩
abbrev cX2_init : ByteArray := prog_4_method_1_code
def yX2_init : MethodName := ⟨RX2, "<init>", "()V"⟩
abbrev cX4_go : ByteArray := prog_1_method_7_code
def yX4_go : MethodName := ⟨RX4, "go", "()V"⟩
abbrev cX4_state : ByteArray := prog_1_method_9_code
def yX4_state : MethodName := ⟨RX4, "state", "(I)I"⟩
abbrev cX4_saved : ByteArray := prog_1_method_10_code
def yX4_saved : MethodName := ⟨RX4, "saved", "()J"⟩
abbrev cX2_asWord : ByteArray := prog_4_method_4_code
def yX2_asWord : MethodName := ⟨RX2, "asWord", "()J"⟩
abbrev cX4_copy : ByteArray := prog_1_method_11_code
def yX4_copy : MethodName := ⟨RX4, "copy", "(II)I"⟩
abbrev cX0_nameAt : ByteArray := prog_2_method_3_code
def yX0_nameAt : MethodName := ⟨RX0, "nameAt", "(I)I"⟩
abbrev cL_poke : ByteArray := method_3_code
def yL_poke : MethodName := ⟨RL, "poke", "(LRingProcessor;IJ)I"⟩
abbrev cX4_poke : ByteArray := prog_1_method_2_code
def yX4_poke : MethodName := ⟨RX4, "poke", "(IJ)V"⟩
abbrev cL_peek : ByteArray := method_4_code
def yL_peek : MethodName := ⟨RL, "peek", "(LRingProcessor;I[J)I"⟩
abbrev cX4_peek : ByteArray := prog_1_method_3_code
def yX4_peek : MethodName := ⟨RX4, "peek", "(I)J"⟩
abbrev cL_set : ByteArray := method_5_code
def yL_set : MethodName := ⟨RL, "set", "(LRingProcessor;IJ)I"⟩
abbrev cX4_set : ByteArray := prog_1_method_4_code
def yX4_set : MethodName := ⟨RX4, "set", "(IJ)V"⟩
abbrev cX4_field : ByteArray := prog_1_method_34_code
def yX4_field : MethodName := ⟨RX4, "field", "(JII)I"⟩
abbrev cX2_takeFrom : ByteArray := prog_4_method_3_code
def yX2_takeFrom : MethodName := ⟨RX2, "takeFrom", "(J)V"⟩
abbrev cL_get : ByteArray := method_6_code
def yL_get : MethodName := ⟨RL, "get", "(LRingProcessor;I[J)I"⟩
abbrev cX4_get : ByteArray := prog_1_method_5_code
def yX4_get : MethodName := ⟨RX4, "get", "(I)J"⟩
abbrev cL_run : ByteArray := method_7_code
def yL_run : MethodName := ⟨RL, "run", "(LRingProcessor;I[J)I"⟩
abbrev cX4_run : ByteArray := prog_1_method_6_code
def yX4_run : MethodName := ⟨RX4, "run", "(I)I"⟩
abbrev cX4_takeInterrupt : ByteArray := prog_1_method_13_code
def yX4_takeInterrupt : MethodName := ⟨RX4, "takeInterrupt", "()I"⟩
abbrev cX4_perform : ByteArray := prog_1_method_15_code
def yX4_perform : MethodName := ⟨RX4, "perform", "()I"⟩
abbrev cX2_become : ByteArray := prog_4_method_2_code
def yX2_become : MethodName := ⟨RX2, "become", "(LRingProcessor$Pointer;)V"⟩
abbrev cX3_read : ByteArray := prog_5_method_2_code
def yX3_read : MethodName := ⟨RX3, "read", "(LRingProcessor$Pointer;I)J"⟩
abbrev cX3_locate : ByteArray := prog_5_method_5_code
def yX3_locate : MethodName := ⟨RX3, "locate", "(IIIIZ)I"⟩
abbrev cX3_lookForDescriptor : ByteArray := prog_5_method_6_code
def yX3_lookForDescriptor : MethodName := ⟨RX3, "lookForDescriptor", "(IZ)LRingProcessor$Descriptor;"⟩
abbrev cX0_placeOf : ByteArray := prog_2_method_4_code
def yX0_placeOf : MethodName := ⟨RX0, "placeOf", "(I)I"⟩
abbrev cX1_become : ByteArray := prog_3_method_2_code
def yX1_become : MethodName := ⟨RX1, "become", "(JJ)V"⟩
abbrev cX0_add : ByteArray := prog_2_method_5_code
def yX0_add : MethodName := ⟨RX0, "add", "(IJJ)I"⟩
abbrev cX0_moveToFront : ByteArray := prog_2_method_6_code
def yX0_moveToFront : MethodName := ⟨RX0, "moveToFront", "(I)V"⟩
abbrev cX1_refusal : ByteArray := prog_3_method_3_code
def yX1_refusal : MethodName := ⟨RX1, "refusal", "(III)I"⟩
abbrev cX4_sum : ByteArray := prog_1_method_33_code
def yX4_sum : MethodName := ⟨RX4, "sum", "(II)I"⟩
abbrev cX3_lookForPage : ByteArray := prog_5_method_7_code
def yX3_lookForPage : MethodName := ⟨RX3, "lookForPage", "(IIZ)J"⟩
abbrev cX4_faultOf : ByteArray := prog_1_method_32_code
def yX4_faultOf : MethodName := ⟨RX4, "faultOf", "(J)I"⟩
abbrev cX4_performWithoutAddress : ByteArray := prog_1_method_19_code
def yX4_performWithoutAddress : MethodName := ⟨RX4, "performWithoutAddress", "(I)I"⟩
abbrev cX4_advance : ByteArray := prog_1_method_31_code
def yX4_advance : MethodName := ⟨RX4, "advance", "()I"⟩
abbrev cX4_exchange : ByteArray := prog_1_method_20_code
def yX4_exchange : MethodName := ⟨RX4, "exchange", "()I"⟩
abbrev cX4_performInRing0 : ByteArray := prog_1_method_21_code
def yX4_performInRing0 : MethodName := ⟨RX4, "performInRing0", "(I)I"⟩
abbrev cX4_goBack : ByteArray := prog_1_method_22_code
def yX4_goBack : MethodName := ⟨RX4, "goBack", "()I"⟩
abbrev cX0_clear : ByteArray := prog_2_method_2_code
def yX0_clear : MethodName := ⟨RX0, "clear", "()V"⟩
abbrev cX4_startAddress : ByteArray := prog_1_method_16_code
def yX4_startAddress : MethodName := ⟨RX4, "startAddress", "(J)V"⟩
abbrev cX4_followChain : ByteArray := prog_1_method_17_code
def yX4_followChain : MethodName := ⟨RX4, "followChain", "()I"⟩
abbrev cX4_followWord : ByteArray := prog_1_method_18_code
def yX4_followWord : MethodName := ⟨RX4, "followWord", "(J)Z"⟩
abbrev cX4_performAtAddress : ByteArray := prog_1_method_23_code
def yX4_performAtAddress : MethodName := ⟨RX4, "performAtAddress", "(I)I"⟩
abbrev cX4_put : ByteArray := prog_1_method_27_code
def yX4_put : MethodName := ⟨RX4, "put", "(J)I"⟩
abbrev cX3_write : ByteArray := prog_5_method_3_code
def yX3_write : MethodName := ⟨RX3, "write", "(LRingProcessor$Pointer;J)I"⟩
abbrev cX3_markChanged : ByteArray := prog_5_method_4_code
def yX3_markChanged : MethodName := ⟨RX3, "markChanged", "(I)V"⟩
abbrev cX4_addOne : ByteArray := prog_1_method_26_code
def yX4_addOne : MethodName := ⟨RX4, "addOne", "()I"⟩
abbrev cX4_transfer : ByteArray := prog_1_method_28_code
def yX4_transfer : MethodName := ⟨RX4, "transfer", "(Z)I"⟩
abbrev cX4_callAddress : ByteArray := prog_1_method_29_code
def yX4_callAddress : MethodName := ⟨RX4, "callAddress", "()I"⟩
abbrev cX1_ringOfCall : ByteArray := prog_3_method_4_code
def yX1_ringOfCall : MethodName := ⟨RX1, "ringOfCall", "(II)I"⟩
abbrev cX4_returnByWord : ByteArray := prog_1_method_30_code
def yX4_returnByWord : MethodName := ⟨RX4, "returnByWord", "()I"⟩
abbrev cX4_load : ByteArray := prog_1_method_24_code
def yX4_load : MethodName := ⟨RX4, "load", "(I)I"⟩
abbrev cX4_combined : ByteArray := prog_1_method_25_code
def yX4_combined : MethodName := ⟨RX4, "combined", "(IJ)J"⟩
abbrev cX4_enter : ByteArray := prog_1_method_14_code
def yX4_enter : MethodName := ⟨RX4, "enter", "(I)V"⟩
abbrev cL_interrupt : ByteArray := method_8_code
def yL_interrupt : MethodName := ⟨RL, "interrupt", "(LRingProcessor;I)I"⟩
abbrev cX4_interrupt : ByteArray := prog_1_method_8_code
def yX4_interrupt : MethodName := ⟨RX4, "interrupt", "(I)V"⟩
abbrev cL_reach : ByteArray := method_9_code
def yL_reach : MethodName := ⟨RL, "reach", "(LRingProcessor;IIII[J)I"⟩
abbrev cX4_reach : ByteArray := prog_1_method_12_code
def yX4_reach : MethodName := ⟨RX4, "reach", "(IIII)I"⟩
abbrev cX5_init : ByteArray := prog_7_method_1_code
def yX5_init : MethodName := ⟨RX5, "<init>", "()V"⟩
abbrev cX5_thrown : ByteArray := prog_7_method_2_code
def yX5_thrown : MethodName := ⟨RX5, "thrown", "()I"⟩
abbrev cX5_reach : ByteArray := prog_7_method_14_code
def yX5_reach : MethodName := ⟨RX5, "reach", "(IIII)I"⟩
abbrev cX5_findDescriptor : ByteArray := prog_7_method_6_code
def yX5_findDescriptor : MethodName := ⟨RX5, "findDescriptor", "(I)I"⟩
abbrev cX5_barred : ByteArray := prog_7_method_10_code
def yX5_barred : MethodName := ⟨RX5, "barred", "(JJIII)I"⟩
abbrev cX5_bits : ByteArray := prog_7_method_3_code
def yX5_bits : MethodName := ⟨RX5, "bits", "(JII)I"⟩
abbrev cX5_findPage : ByteArray := prog_7_method_8_code
def yX5_findPage : MethodName := ⟨RX5, "findPage", "(II)I"⟩
abbrev cX5_run : ByteArray := prog_7_method_28_code
def yX5_run : MethodName := ⟨RX5, "run", "(I)I"⟩
abbrev cX5_step : ByteArray := prog_7_method_27_code
def yX5_step : MethodName := ⟨RX5, "step", "()V"⟩
abbrev cX5_save : ByteArray := prog_7_method_26_code
def yX5_save : MethodName := ⟨RX5, "save", "(III)V"⟩
abbrev cX5_place : ByteArray := prog_7_method_11_code
def yX5_place : MethodName := ⟨RX5, "place", "(IIII)I"⟩
abbrev cX5_look : ByteArray := prog_7_method_7_code
def yX5_look : MethodName := ⟨RX5, "look", "(I)V"⟩
abbrev cX5_lookPage : ByteArray := prog_7_method_9_code
def yX5_lookPage : MethodName := ⟨RX5, "lookPage", "(III)J"⟩
abbrev cX5_wrong : ByteArray := prog_7_method_4_code
def yX5_wrong : MethodName := ⟨RX5, "wrong", "(III)V"⟩
abbrev cX5_system : ByteArray := prog_7_method_24_code
def yX5_system : MethodName := ⟨RX5, "system", "(I)V"⟩
abbrev cX5_wrongHere : ByteArray := prog_7_method_5_code
def yX5_wrongHere : MethodName := ⟨RX5, "wrongHere", "(I)V"⟩
abbrev cX5_address : ByteArray := prog_7_method_16_code
def yX5_address : MethodName := ⟨RX5, "address", "(J)V"⟩
abbrev cX5_greater : ByteArray := prog_7_method_15_code
def yX5_greater : MethodName := ⟨RX5, "greater", "(II)I"⟩
abbrev cX5_read : ByteArray := prog_7_method_12_code
def yX5_read : MethodName := ⟨RX5, "read", "(III)J"⟩
abbrev cX5_indirect : ByteArray := prog_7_method_17_code
def yX5_indirect : MethodName := ⟨RX5, "indirect", "(J)V"⟩
abbrev cX5_act : ByteArray := prog_7_method_25_code
def yX5_act : MethodName := ⟨RX5, "act", "(I)V"⟩
abbrev cX5_reckon : ByteArray := prog_7_method_20_code
def yX5_reckon : MethodName := ⟨RX5, "reckon", "(I)V"⟩
abbrev cX5_here : ByteArray := prog_7_method_19_code
def yX5_here : MethodName := ⟨RX5, "here", "()J"⟩
abbrev cX5_write : ByteArray := prog_7_method_13_code
def yX5_write : MethodName := ⟨RX5, "write", "(J)V"⟩
abbrev cX5_jump : ByteArray := prog_7_method_21_code
def yX5_jump : MethodName := ⟨RX5, "jump", "()V"⟩
abbrev cX5_pointer : ByteArray := prog_7_method_18_code
def yX5_pointer : MethodName := ⟨RX5, "pointer", "(III)J"⟩
abbrev cX5_call : ByteArray := prog_7_method_22_code
def yX5_call : MethodName := ⟨RX5, "call", "()V"⟩
abbrev cX5_back : ByteArray := prog_7_method_23_code
def yX5_back : MethodName := ⟨RX5, "back", "()V"⟩
abbrev cX5_poke : ByteArray := prog_7_method_29_code
def yX5_poke : MethodName := ⟨RX5, "poke", "(IJ)V"⟩
abbrev cX5_peek : ByteArray := prog_7_method_30_code
def yX5_peek : MethodName := ⟨RX5, "peek", "(I)J"⟩
abbrev cX5_set : ByteArray := prog_7_method_31_code
def yX5_set : MethodName := ⟨RX5, "set", "(IJ)V"⟩
abbrev cX5_get : ByteArray := prog_7_method_32_code
def yX5_get : MethodName := ⟨RX5, "get", "(I)J"⟩
abbrev cX5_go : ByteArray := prog_7_method_33_code
def yX5_go : MethodName := ⟨RX5, "go", "()V"⟩
abbrev cX5_interrupt : ByteArray := prog_7_method_34_code
def yX5_interrupt : MethodName := ⟨RX5, "interrupt", "(I)V"⟩
abbrev cX5_state : ByteArray := prog_7_method_35_code
def yX5_state : MethodName := ⟨RX5, "state", "(I)I"⟩
abbrev cX5_saved : ByteArray := prog_7_method_36_code
def yX5_saved : MethodName := ⟨RX5, "saved", "()J"⟩
abbrev cX5_copy : ByteArray := prog_7_method_37_code
def yX5_copy : MethodName := ⟨RX5, "copy", "(II)I"⟩
def nwl : List (String × Nat × MethodName × String) := [(RX4, 9, yX3_init, "RingProcessor"), (RX3, 17, yX0_init, "RingProcessor"), (RX3, 27, yX1_init, "RingProcessor"), (RX4, 22, yX2_init, "RingProcessor"), (RX2, 21, yX4_field, "RingProcessor"), (RX3, 68, yX4_sum, "RingProcessor"), (RX3, 48, yX4_faultOf, "RingProcessor")]
