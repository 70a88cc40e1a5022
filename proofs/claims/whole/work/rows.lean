section
-- ===== PART A: goes FIRST, ahead of the names: the tables' words, and 'selects' of the private methods out of them =====
/-- a private method of a class that the tables say can be made, by its rows of tables_1 -/
def lw_okq (q : MethodName × Nat) : Prop := (q.1.cls ≠ "java/lang/invoke/MethodHandle" ∧ q.1.cls ≠ "java/lang/invoke/VarHandle") ∧ Cond.instantiable q.1.cls q.2 ∈ tables_1 ∧ Cond.privateMethod q.1 ∈ tables_1 ∧ Cond.instanceMethod q.1 ∈ tables_1
theorem lw_p0 : lw_okq (⟨"java/lang/Throwable", "fillInStackTrace", "(I)Ljava/lang/Throwable;"⟩, 6) := ⟨⟨by decide +kernel, by decide +kernel⟩, List.mem_of_getElem? (i := 253) (by decide +kernel), List.mem_of_getElem? (i := 251) (by decide +kernel), List.mem_of_getElem? (i := 252) (by decide +kernel)⟩
theorem lw_p1 : lw_okq (⟨"RingProcessor", "takeInterrupt", "()I"⟩, 15) := ⟨⟨by decide +kernel, by decide +kernel⟩, List.mem_of_getElem? (i := 14) (by decide +kernel), List.mem_of_getElem? (i := 331) (by decide +kernel), List.mem_of_getElem? (i := 332) (by decide +kernel)⟩
theorem lw_p2 : lw_okq (⟨"RingProcessor", "perform", "()I"⟩, 15) := ⟨⟨by decide +kernel, by decide +kernel⟩, List.mem_of_getElem? (i := 14) (by decide +kernel), List.mem_of_getElem? (i := 335) (by decide +kernel), List.mem_of_getElem? (i := 336) (by decide +kernel)⟩
theorem lw_p3 : lw_okq (⟨"RingProcessor$Store", "lookForPage", "(IIZ)J"⟩, 4) := ⟨⟨by decide +kernel, by decide +kernel⟩, List.mem_of_getElem? (i := 22) (by decide +kernel), List.mem_of_getElem? (i := 383) (by decide +kernel), List.mem_of_getElem? (i := 384) (by decide +kernel)⟩
theorem lw_p4 : lw_okq (⟨"RingProcessor", "performWithoutAddress", "(I)I"⟩, 15) := ⟨⟨by decide +kernel, by decide +kernel⟩, List.mem_of_getElem? (i := 14) (by decide +kernel), List.mem_of_getElem? (i := 394) (by decide +kernel), List.mem_of_getElem? (i := 395) (by decide +kernel)⟩
theorem lw_p5 : lw_okq (⟨"RingProcessor", "advance", "()I"⟩, 15) := ⟨⟨by decide +kernel, by decide +kernel⟩, List.mem_of_getElem? (i := 14) (by decide +kernel), List.mem_of_getElem? (i := 398) (by decide +kernel), List.mem_of_getElem? (i := 399) (by decide +kernel)⟩
theorem lw_p6 : lw_okq (⟨"RingProcessor", "exchange", "()I"⟩, 15) := ⟨⟨by decide +kernel, by decide +kernel⟩, List.mem_of_getElem? (i := 14) (by decide +kernel), List.mem_of_getElem? (i := 403) (by decide +kernel), List.mem_of_getElem? (i := 404) (by decide +kernel)⟩
theorem lw_p7 : lw_okq (⟨"RingProcessor", "performInRing0", "(I)I"⟩, 15) := ⟨⟨by decide +kernel, by decide +kernel⟩, List.mem_of_getElem? (i := 14) (by decide +kernel), List.mem_of_getElem? (i := 407) (by decide +kernel), List.mem_of_getElem? (i := 408) (by decide +kernel)⟩
theorem lw_p8 : lw_okq (⟨"RingProcessor", "goBack", "()I"⟩, 15) := ⟨⟨by decide +kernel, by decide +kernel⟩, List.mem_of_getElem? (i := 14) (by decide +kernel), List.mem_of_getElem? (i := 411) (by decide +kernel), List.mem_of_getElem? (i := 412) (by decide +kernel)⟩
theorem lw_p9 : lw_okq (⟨"RingProcessor", "startAddress", "(J)V"⟩, 15) := ⟨⟨by decide +kernel, by decide +kernel⟩, List.mem_of_getElem? (i := 14) (by decide +kernel), List.mem_of_getElem? (i := 419) (by decide +kernel), List.mem_of_getElem? (i := 420) (by decide +kernel)⟩
theorem lw_p10 : lw_okq (⟨"RingProcessor", "followChain", "()I"⟩, 15) := ⟨⟨by decide +kernel, by decide +kernel⟩, List.mem_of_getElem? (i := 14) (by decide +kernel), List.mem_of_getElem? (i := 428) (by decide +kernel), List.mem_of_getElem? (i := 429) (by decide +kernel)⟩
theorem lw_p11 : lw_okq (⟨"RingProcessor", "followWord", "(J)Z"⟩, 15) := ⟨⟨by decide +kernel, by decide +kernel⟩, List.mem_of_getElem? (i := 14) (by decide +kernel), List.mem_of_getElem? (i := 432) (by decide +kernel), List.mem_of_getElem? (i := 433) (by decide +kernel)⟩
theorem lw_p12 : lw_okq (⟨"RingProcessor", "performAtAddress", "(I)I"⟩, 15) := ⟨⟨by decide +kernel, by decide +kernel⟩, List.mem_of_getElem? (i := 14) (by decide +kernel), List.mem_of_getElem? (i := 437) (by decide +kernel), List.mem_of_getElem? (i := 438) (by decide +kernel)⟩
theorem lw_p13 : lw_okq (⟨"RingProcessor", "put", "(J)I"⟩, 15) := ⟨⟨by decide +kernel, by decide +kernel⟩, List.mem_of_getElem? (i := 14) (by decide +kernel), List.mem_of_getElem? (i := 441) (by decide +kernel), List.mem_of_getElem? (i := 442) (by decide +kernel)⟩
theorem lw_p14 : lw_okq (⟨"RingProcessor$Store", "markChanged", "(I)V"⟩, 4) := ⟨⟨by decide +kernel, by decide +kernel⟩, List.mem_of_getElem? (i := 22) (by decide +kernel), List.mem_of_getElem? (i := 450) (by decide +kernel), List.mem_of_getElem? (i := 451) (by decide +kernel)⟩
theorem lw_p15 : lw_okq (⟨"RingProcessor", "addOne", "()I"⟩, 15) := ⟨⟨by decide +kernel, by decide +kernel⟩, List.mem_of_getElem? (i := 14) (by decide +kernel), List.mem_of_getElem? (i := 455) (by decide +kernel), List.mem_of_getElem? (i := 456) (by decide +kernel)⟩
def lw_privs_1 : List (MethodName × Nat) := [(⟨"java/lang/Throwable", "fillInStackTrace", "(I)Ljava/lang/Throwable;"⟩, 6), (⟨"RingProcessor", "takeInterrupt", "()I"⟩, 15), (⟨"RingProcessor", "perform", "()I"⟩, 15), (⟨"RingProcessor$Store", "lookForPage", "(IIZ)J"⟩, 4), (⟨"RingProcessor", "performWithoutAddress", "(I)I"⟩, 15), (⟨"RingProcessor", "advance", "()I"⟩, 15), (⟨"RingProcessor", "exchange", "()I"⟩, 15), (⟨"RingProcessor", "performInRing0", "(I)I"⟩, 15), (⟨"RingProcessor", "goBack", "()I"⟩, 15), (⟨"RingProcessor", "startAddress", "(J)V"⟩, 15), (⟨"RingProcessor", "followChain", "()I"⟩, 15), (⟨"RingProcessor", "followWord", "(J)Z"⟩, 15), (⟨"RingProcessor", "performAtAddress", "(I)I"⟩, 15), (⟨"RingProcessor", "put", "(J)I"⟩, 15), (⟨"RingProcessor$Store", "markChanged", "(I)V"⟩, 4), (⟨"RingProcessor", "addOne", "()I"⟩, 15)]
theorem lw_r1 : ∀ q ∈ lw_privs_1, lw_okq q := List.forall_mem_cons.mpr ⟨lw_p0, List.forall_mem_cons.mpr ⟨lw_p1, List.forall_mem_cons.mpr ⟨lw_p2, List.forall_mem_cons.mpr ⟨lw_p3, List.forall_mem_cons.mpr ⟨lw_p4, List.forall_mem_cons.mpr ⟨lw_p5, List.forall_mem_cons.mpr ⟨lw_p6, List.forall_mem_cons.mpr ⟨lw_p7, List.forall_mem_cons.mpr ⟨lw_p8, List.forall_mem_cons.mpr ⟨lw_p9, List.forall_mem_cons.mpr ⟨lw_p10, List.forall_mem_cons.mpr ⟨lw_p11, List.forall_mem_cons.mpr ⟨lw_p12, List.forall_mem_cons.mpr ⟨lw_p13, List.forall_mem_cons.mpr ⟨lw_p14, List.forall_mem_cons.mpr ⟨lw_p15, fun _ h => absurd h List.not_mem_nil⟩⟩⟩⟩⟩⟩⟩⟩⟩⟩⟩⟩⟩⟩⟩⟩
theorem lw_p16 : lw_okq (⟨"RingProcessor", "transfer", "(Z)I"⟩, 15) := ⟨⟨by decide +kernel, by decide +kernel⟩, List.mem_of_getElem? (i := 14) (by decide +kernel), List.mem_of_getElem? (i := 459) (by decide +kernel), List.mem_of_getElem? (i := 460) (by decide +kernel)⟩
theorem lw_p17 : lw_okq (⟨"RingProcessor", "callAddress", "()I"⟩, 15) := ⟨⟨by decide +kernel, by decide +kernel⟩, List.mem_of_getElem? (i := 14) (by decide +kernel), List.mem_of_getElem? (i := 464) (by decide +kernel), List.mem_of_getElem? (i := 465) (by decide +kernel)⟩
theorem lw_p18 : lw_okq (⟨"RingProcessor", "returnByWord", "()I"⟩, 15) := ⟨⟨by decide +kernel, by decide +kernel⟩, List.mem_of_getElem? (i := 14) (by decide +kernel), List.mem_of_getElem? (i := 473) (by decide +kernel), List.mem_of_getElem? (i := 474) (by decide +kernel)⟩
theorem lw_p19 : lw_okq (⟨"RingProcessor", "load", "(I)I"⟩, 15) := ⟨⟨by decide +kernel, by decide +kernel⟩, List.mem_of_getElem? (i := 14) (by decide +kernel), List.mem_of_getElem? (i := 477) (by decide +kernel), List.mem_of_getElem? (i := 478) (by decide +kernel)⟩
theorem lw_p20 : lw_okq (⟨"RingProcessor", "combined", "(IJ)J"⟩, 15) := ⟨⟨by decide +kernel, by decide +kernel⟩, List.mem_of_getElem? (i := 14) (by decide +kernel), List.mem_of_getElem? (i := 481) (by decide +kernel), List.mem_of_getElem? (i := 482) (by decide +kernel)⟩
theorem lw_p21 : lw_okq (⟨"RingProcessor", "enter", "(I)V"⟩, 15) := ⟨⟨by decide +kernel, by decide +kernel⟩, List.mem_of_getElem? (i := 14) (by decide +kernel), List.mem_of_getElem? (i := 485) (by decide +kernel), List.mem_of_getElem? (i := 486) (by decide +kernel)⟩
theorem lw_p22 : lw_okq (⟨"RingProcessorModel", "findDescriptor", "(I)I"⟩, 37) := ⟨⟨by decide +kernel, by decide +kernel⟩, List.mem_of_getElem? (i := 504) (by decide +kernel), List.mem_of_getElem? (i := 630) (by decide +kernel), List.mem_of_getElem? (i := 631) (by decide +kernel)⟩
theorem lw_p23 : lw_okq (⟨"RingProcessorModel", "findPage", "(II)I"⟩, 37) := ⟨⟨by decide +kernel, by decide +kernel⟩, List.mem_of_getElem? (i := 504) (by decide +kernel), List.mem_of_getElem? (i := 642) (by decide +kernel), List.mem_of_getElem? (i := 643) (by decide +kernel)⟩
theorem lw_p24 : lw_okq (⟨"RingProcessorModel", "step", "()V"⟩, 37) := ⟨⟨by decide +kernel, by decide +kernel⟩, List.mem_of_getElem? (i := 504) (by decide +kernel), List.mem_of_getElem? (i := 650) (by decide +kernel), List.mem_of_getElem? (i := 651) (by decide +kernel)⟩
theorem lw_p25 : lw_okq (⟨"RingProcessorModel", "save", "(III)V"⟩, 37) := ⟨⟨by decide +kernel, by decide +kernel⟩, List.mem_of_getElem? (i := 504) (by decide +kernel), List.mem_of_getElem? (i := 654) (by decide +kernel), List.mem_of_getElem? (i := 655) (by decide +kernel)⟩
theorem lw_p26 : lw_okq (⟨"RingProcessorModel", "place", "(IIII)I"⟩, 37) := ⟨⟨by decide +kernel, by decide +kernel⟩, List.mem_of_getElem? (i := 504) (by decide +kernel), List.mem_of_getElem? (i := 658) (by decide +kernel), List.mem_of_getElem? (i := 659) (by decide +kernel)⟩
theorem lw_p27 : lw_okq (⟨"RingProcessorModel", "look", "(I)V"⟩, 37) := ⟨⟨by decide +kernel, by decide +kernel⟩, List.mem_of_getElem? (i := 504) (by decide +kernel), List.mem_of_getElem? (i := 662) (by decide +kernel), List.mem_of_getElem? (i := 663) (by decide +kernel)⟩
theorem lw_p28 : lw_okq (⟨"RingProcessorModel", "lookPage", "(III)J"⟩, 37) := ⟨⟨by decide +kernel, by decide +kernel⟩, List.mem_of_getElem? (i := 504) (by decide +kernel), List.mem_of_getElem? (i := 666) (by decide +kernel), List.mem_of_getElem? (i := 667) (by decide +kernel)⟩
theorem lw_p29 : lw_okq (⟨"RingProcessorModel", "wrong", "(III)V"⟩, 37) := ⟨⟨by decide +kernel, by decide +kernel⟩, List.mem_of_getElem? (i := 504) (by decide +kernel), List.mem_of_getElem? (i := 670) (by decide +kernel), List.mem_of_getElem? (i := 671) (by decide +kernel)⟩
theorem lw_p30 : lw_okq (⟨"RingProcessorModel", "system", "(I)V"⟩, 37) := ⟨⟨by decide +kernel, by decide +kernel⟩, List.mem_of_getElem? (i := 504) (by decide +kernel), List.mem_of_getElem? (i := 674) (by decide +kernel), List.mem_of_getElem? (i := 675) (by decide +kernel)⟩
theorem lw_p31 : lw_okq (⟨"RingProcessorModel", "wrongHere", "(I)V"⟩, 37) := ⟨⟨by decide +kernel, by decide +kernel⟩, List.mem_of_getElem? (i := 504) (by decide +kernel), List.mem_of_getElem? (i := 678) (by decide +kernel), List.mem_of_getElem? (i := 679) (by decide +kernel)⟩
def lw_privs_2 : List (MethodName × Nat) := [(⟨"RingProcessor", "transfer", "(Z)I"⟩, 15), (⟨"RingProcessor", "callAddress", "()I"⟩, 15), (⟨"RingProcessor", "returnByWord", "()I"⟩, 15), (⟨"RingProcessor", "load", "(I)I"⟩, 15), (⟨"RingProcessor", "combined", "(IJ)J"⟩, 15), (⟨"RingProcessor", "enter", "(I)V"⟩, 15), (⟨"RingProcessorModel", "findDescriptor", "(I)I"⟩, 37), (⟨"RingProcessorModel", "findPage", "(II)I"⟩, 37), (⟨"RingProcessorModel", "step", "()V"⟩, 37), (⟨"RingProcessorModel", "save", "(III)V"⟩, 37), (⟨"RingProcessorModel", "place", "(IIII)I"⟩, 37), (⟨"RingProcessorModel", "look", "(I)V"⟩, 37), (⟨"RingProcessorModel", "lookPage", "(III)J"⟩, 37), (⟨"RingProcessorModel", "wrong", "(III)V"⟩, 37), (⟨"RingProcessorModel", "system", "(I)V"⟩, 37), (⟨"RingProcessorModel", "wrongHere", "(I)V"⟩, 37)]
theorem lw_r2 : ∀ q ∈ lw_privs_2, lw_okq q := List.forall_mem_cons.mpr ⟨lw_p16, List.forall_mem_cons.mpr ⟨lw_p17, List.forall_mem_cons.mpr ⟨lw_p18, List.forall_mem_cons.mpr ⟨lw_p19, List.forall_mem_cons.mpr ⟨lw_p20, List.forall_mem_cons.mpr ⟨lw_p21, List.forall_mem_cons.mpr ⟨lw_p22, List.forall_mem_cons.mpr ⟨lw_p23, List.forall_mem_cons.mpr ⟨lw_p24, List.forall_mem_cons.mpr ⟨lw_p25, List.forall_mem_cons.mpr ⟨lw_p26, List.forall_mem_cons.mpr ⟨lw_p27, List.forall_mem_cons.mpr ⟨lw_p28, List.forall_mem_cons.mpr ⟨lw_p29, List.forall_mem_cons.mpr ⟨lw_p30, List.forall_mem_cons.mpr ⟨lw_p31, fun _ h => absurd h List.not_mem_nil⟩⟩⟩⟩⟩⟩⟩⟩⟩⟩⟩⟩⟩⟩⟩⟩
theorem lw_p32 : lw_okq (⟨"RingProcessorModel", "address", "(J)V"⟩, 37) := ⟨⟨by decide +kernel, by decide +kernel⟩, List.mem_of_getElem? (i := 504) (by decide +kernel), List.mem_of_getElem? (i := 682) (by decide +kernel), List.mem_of_getElem? (i := 683) (by decide +kernel)⟩
theorem lw_p33 : lw_okq (⟨"RingProcessorModel", "read", "(III)J"⟩, 37) := ⟨⟨by decide +kernel, by decide +kernel⟩, List.mem_of_getElem? (i := 504) (by decide +kernel), List.mem_of_getElem? (i := 689) (by decide +kernel), List.mem_of_getElem? (i := 690) (by decide +kernel)⟩
theorem lw_p34 : lw_okq (⟨"RingProcessorModel", "indirect", "(J)V"⟩, 37) := ⟨⟨by decide +kernel, by decide +kernel⟩, List.mem_of_getElem? (i := 504) (by decide +kernel), List.mem_of_getElem? (i := 693) (by decide +kernel), List.mem_of_getElem? (i := 694) (by decide +kernel)⟩
theorem lw_p35 : lw_okq (⟨"RingProcessorModel", "act", "(I)V"⟩, 37) := ⟨⟨by decide +kernel, by decide +kernel⟩, List.mem_of_getElem? (i := 504) (by decide +kernel), List.mem_of_getElem? (i := 697) (by decide +kernel), List.mem_of_getElem? (i := 698) (by decide +kernel)⟩
theorem lw_p36 : lw_okq (⟨"RingProcessorModel", "reckon", "(I)V"⟩, 37) := ⟨⟨by decide +kernel, by decide +kernel⟩, List.mem_of_getElem? (i := 504) (by decide +kernel), List.mem_of_getElem? (i := 701) (by decide +kernel), List.mem_of_getElem? (i := 702) (by decide +kernel)⟩
theorem lw_p37 : lw_okq (⟨"RingProcessorModel", "here", "()J"⟩, 37) := ⟨⟨by decide +kernel, by decide +kernel⟩, List.mem_of_getElem? (i := 504) (by decide +kernel), List.mem_of_getElem? (i := 705) (by decide +kernel), List.mem_of_getElem? (i := 706) (by decide +kernel)⟩
theorem lw_p38 : lw_okq (⟨"RingProcessorModel", "write", "(J)V"⟩, 37) := ⟨⟨by decide +kernel, by decide +kernel⟩, List.mem_of_getElem? (i := 504) (by decide +kernel), List.mem_of_getElem? (i := 710) (by decide +kernel), List.mem_of_getElem? (i := 711) (by decide +kernel)⟩
theorem lw_p39 : lw_okq (⟨"RingProcessorModel", "jump", "()V"⟩, 37) := ⟨⟨by decide +kernel, by decide +kernel⟩, List.mem_of_getElem? (i := 504) (by decide +kernel), List.mem_of_getElem? (i := 715) (by decide +kernel), List.mem_of_getElem? (i := 716) (by decide +kernel)⟩
theorem lw_p40 : lw_okq (⟨"RingProcessorModel", "call", "()V"⟩, 37) := ⟨⟨by decide +kernel, by decide +kernel⟩, List.mem_of_getElem? (i := 504) (by decide +kernel), List.mem_of_getElem? (i := 722) (by decide +kernel), List.mem_of_getElem? (i := 723) (by decide +kernel)⟩
theorem lw_p41 : lw_okq (⟨"RingProcessorModel", "back", "()V"⟩, 37) := ⟨⟨by decide +kernel, by decide +kernel⟩, List.mem_of_getElem? (i := 504) (by decide +kernel), List.mem_of_getElem? (i := 726) (by decide +kernel), List.mem_of_getElem? (i := 727) (by decide +kernel)⟩
def lw_privs_3 : List (MethodName × Nat) := [(⟨"RingProcessorModel", "address", "(J)V"⟩, 37), (⟨"RingProcessorModel", "read", "(III)J"⟩, 37), (⟨"RingProcessorModel", "indirect", "(J)V"⟩, 37), (⟨"RingProcessorModel", "act", "(I)V"⟩, 37), (⟨"RingProcessorModel", "reckon", "(I)V"⟩, 37), (⟨"RingProcessorModel", "here", "()J"⟩, 37), (⟨"RingProcessorModel", "write", "(J)V"⟩, 37), (⟨"RingProcessorModel", "jump", "()V"⟩, 37), (⟨"RingProcessorModel", "call", "()V"⟩, 37), (⟨"RingProcessorModel", "back", "()V"⟩, 37)]
theorem lw_r3 : ∀ q ∈ lw_privs_3, lw_okq q := List.forall_mem_cons.mpr ⟨lw_p32, List.forall_mem_cons.mpr ⟨lw_p33, List.forall_mem_cons.mpr ⟨lw_p34, List.forall_mem_cons.mpr ⟨lw_p35, List.forall_mem_cons.mpr ⟨lw_p36, List.forall_mem_cons.mpr ⟨lw_p37, List.forall_mem_cons.mpr ⟨lw_p38, List.forall_mem_cons.mpr ⟨lw_p39, List.forall_mem_cons.mpr ⟨lw_p40, List.forall_mem_cons.mpr ⟨lw_p41, fun _ h => absurd h List.not_mem_nil⟩⟩⟩⟩⟩⟩⟩⟩⟩⟩
def lw_privs : List (MethodName × Nat) := lw_privs_1 ++ (lw_privs_2 ++ (lw_privs_3))
def lw_tbl : List Cond := k2_sels lw_privs ++ tables_1
theorem lw_privs_ok : ∀ q ∈ lw_privs, lw_okq q := by
  show ∀ q ∈ lw_privs_1 ++ (lw_privs_2 ++ (lw_privs_3)), lw_okq q
  exact List.forall_mem_append.mpr ⟨lw_r1, List.forall_mem_append.mpr ⟨lw_r2, lw_r3⟩⟩
def RX0 : String := "RingProcessor$Copies"
def TX0 : u_T := fun k => match k with
  | 0 => ("RingProcessor$Copies", "names", "[I", true)
  | 1 => ("RingProcessor$Copies", "firsts", "[J", true)
  | 2 => ("RingProcessor$Copies", "seconds", "[J", true)
  | _ => ("RingProcessor$Copies", "count", "I", false)
def tyX0 : Nat → FieldType := fun k => match k with
  | 0 => .array .int
  | 1 => .array .long
  | 2 => .array .long
  | _ => .int
theorem nmX0 : ∀ a, a < 4 → ∀ b, b < 4 → a ≠ b → (TX0 a).2.1 ≠ (TX0 b).2.1 := by decide +kernel
theorem tyokX0 : ∀ k, k < 4 → parseFieldDescriptor (TX0 k).2.2.1 = some (tyX0 k) := by decide +kernel
def RX1 : String := "RingProcessor$Descriptor"
def TX1 : u_T := fun k => match k with
  | 0 => ("RingProcessor$Descriptor", "isThere", "Z", false)
  | 1 => ("RingProcessor$Descriptor", "isPaged", "Z", false)
  | 2 => ("RingProcessor$Descriptor", "base", "I", false)
  | 3 => ("RingProcessor$Descriptor", "bound", "I", false)
  | 4 => ("RingProcessor$Descriptor", "r1", "I", false)
  | 5 => ("RingProcessor$Descriptor", "r2", "I", false)
  | 6 => ("RingProcessor$Descriptor", "r3", "I", false)
  | 7 => ("RingProcessor$Descriptor", "mayBeRead", "Z", false)
  | 8 => ("RingProcessor$Descriptor", "mayBeWritten", "Z", false)
  | 9 => ("RingProcessor$Descriptor", "mayBeExecuted", "Z", false)
  | _ => ("RingProcessor$Descriptor", "gates", "I", false)
def tyX1 : Nat → FieldType := fun k => match k with
  | 0 => .boolean
  | 1 => .boolean
  | 2 => .int
  | 3 => .int
  | 4 => .int
  | 5 => .int
  | 6 => .int
  | 7 => .boolean
  | 8 => .boolean
  | 9 => .boolean
  | _ => .int
theorem nmX1 : ∀ a, a < 11 → ∀ b, b < 11 → a ≠ b → (TX1 a).2.1 ≠ (TX1 b).2.1 := by decide +kernel
theorem tyokX1 : ∀ k, k < 11 → parseFieldDescriptor (TX1 k).2.2.1 = some (tyX1 k) := by decide +kernel
def RX2 : String := "RingProcessor$Pointer"
def TX2 : u_T := fun k => match k with
  | 0 => ("RingProcessor$Pointer", "segment", "I", false)
  | 1 => ("RingProcessor$Pointer", "word", "I", false)
  | _ => ("RingProcessor$Pointer", "ring", "I", false)
def tyX2 : Nat → FieldType := fun k => match k with
  | 0 => .int
  | 1 => .int
  | _ => .int
theorem nmX2 : ∀ a, a < 3 → ∀ b, b < 3 → a ≠ b → (TX2 a).2.1 ≠ (TX2 b).2.1 := by decide +kernel
theorem tyokX2 : ∀ k, k < 3 → parseFieldDescriptor (TX2 k).2.2.1 = some (tyX2 k) := by decide +kernel
def RX3 : String := "RingProcessor$Store"
def TX3 : u_T := fun k => match k with
  | 0 => ("RingProcessor$Store", "words", "[J", true)
  | 1 => ("RingProcessor$Store", "descriptors", "LRingProcessor$Copies;", true)
  | 2 => ("RingProcessor$Store", "pages", "LRingProcessor$Copies;", true)
  | _ => ("RingProcessor$Store", "descriptor", "LRingProcessor$Descriptor;", true)
def tyX3 : Nat → FieldType := fun k => match k with
  | 0 => .array .long
  | 1 => .object "RingProcessor$Copies"
  | 2 => .object "RingProcessor$Copies"
  | _ => .object "RingProcessor$Descriptor"
theorem nmX3 : ∀ a, a < 4 → ∀ b, b < 4 → a ≠ b → (TX3 a).2.1 ≠ (TX3 b).2.1 := by decide +kernel
theorem tyokX3 : ∀ k, k < 4 → parseFieldDescriptor (TX3 k).2.2.1 = some (tyX3 k) := by decide +kernel
def RX4 : String := "RingProcessor"
def TX4 : u_T := fun k => match k with
  | 0 => ("RingProcessor", "store", "LRingProcessor$Store;", true)
  | 1 => ("RingProcessor", "a", "J", false)
  | 2 => ("RingProcessor", "q", "J", false)
  | 3 => ("RingProcessor", "indexes", "[I", true)
  | 4 => ("RingProcessor", "pointers", "[LRingProcessor$Pointer;", true)
  | 5 => ("RingProcessor", "counter", "LRingProcessor$Pointer;", true)
  | 6 => ("RingProcessor", "target", "LRingProcessor$Pointer;", true)
  | 7 => ("RingProcessor", "savedCounter", "LRingProcessor$Pointer;", true)
  | 8 => ("RingProcessor", "hasSaved", "Z", false)
  | 9 => ("RingProcessor", "handles", "Z", false)
  | 10 => ("RingProcessor", "stopped", "Z", false)
  | 11 => ("RingProcessor", "latestFault", "I", false)
  | 12 => ("RingProcessor", "faultSegment", "I", false)
  | 13 => ("RingProcessor", "faultWord", "I", false)
  | _ => ("RingProcessor", "asked", "I", false)
def tyX4 : Nat → FieldType := fun k => match k with
  | 0 => .object "RingProcessor$Store"
  | 1 => .long
  | 2 => .long
  | 3 => .array .int
  | 4 => .array (.object "RingProcessor$Pointer")
  | 5 => .object "RingProcessor$Pointer"
  | 6 => .object "RingProcessor$Pointer"
  | 7 => .object "RingProcessor$Pointer"
  | 8 => .boolean
  | 9 => .boolean
  | 10 => .boolean
  | 11 => .int
  | 12 => .int
  | 13 => .int
  | _ => .int
theorem nmX4 : ∀ a, a < 15 → ∀ b, b < 15 → a ≠ b → (TX4 a).2.1 ≠ (TX4 b).2.1 := by decide +kernel
theorem tyokX4 : ∀ k, k < 15 → parseFieldDescriptor (TX4 k).2.2.1 = some (tyX4 k) := by decide +kernel
def RX5 : String := "RingProcessorModel"
def TX5 : u_T := fun k => match k with
  | 0 => ("RingProcessorModel", "thrown", "I", false)
  | 1 => ("RingProcessorModel", "memory", "[J", true)
  | 2 => ("RingProcessorModel", "descriptors", "I", false)
  | 3 => ("RingProcessorModel", "pages", "I", false)
  | 4 => ("RingProcessorModel", "segmentOf", "[I", true)
  | 5 => ("RingProcessorModel", "pageOf", "[I", true)
  | 6 => ("RingProcessorModel", "first", "[J", true)
  | 7 => ("RingProcessorModel", "second", "[J", true)
  | 8 => ("RingProcessorModel", "pageWord", "[J", true)
  | 9 => ("RingProcessorModel", "a", "J", false)
  | 10 => ("RingProcessorModel", "q", "J", false)
  | 11 => ("RingProcessorModel", "x", "[I", true)
  | 12 => ("RingProcessorModel", "segment", "[I", true)
  | 13 => ("RingProcessorModel", "word", "[I", true)
  | 14 => ("RingProcessorModel", "rings", "[I", true)
  | 15 => ("RingProcessorModel", "counterSegment", "I", false)
  | 16 => ("RingProcessorModel", "counterWord", "I", false)
  | 17 => ("RingProcessorModel", "ring", "I", false)
  | 18 => ("RingProcessorModel", "handles", "Z", false)
  | 19 => ("RingProcessorModel", "stopped", "Z", false)
  | 20 => ("RingProcessorModel", "asked", "I", false)
  | 21 => ("RingProcessorModel", "isSaved", "Z", false)
  | 22 => ("RingProcessorModel", "savedSegment", "I", false)
  | 23 => ("RingProcessorModel", "savedWord", "I", false)
  | 24 => ("RingProcessorModel", "savedRing", "I", false)
  | 25 => ("RingProcessorModel", "faultTold", "I", false)
  | 26 => ("RingProcessorModel", "segmentTold", "I", false)
  | 27 => ("RingProcessorModel", "wordTold", "I", false)
  | 28 => ("RingProcessorModel", "fault", "I", false)
  | 29 => ("RingProcessorModel", "badSegment", "I", false)
  | 30 => ("RingProcessorModel", "badWord", "I", false)
  | 31 => ("RingProcessorModel", "atSegment", "I", false)
  | 32 => ("RingProcessorModel", "atWord", "I", false)
  | 33 => ("RingProcessorModel", "effective", "I", false)
  | 34 => ("RingProcessorModel", "one", "J", false)
  | 35 => ("RingProcessorModel", "two", "J", false)
  | _ => ("RingProcessorModel", "jumped", "Z", false)
def tyX5 : Nat → FieldType := fun k => match k with
  | 0 => .int
  | 1 => .array .long
  | 2 => .int
  | 3 => .int
  | 4 => .array .int
  | 5 => .array .int
  | 6 => .array .long
  | 7 => .array .long
  | 8 => .array .long
  | 9 => .long
  | 10 => .long
  | 11 => .array .int
  | 12 => .array .int
  | 13 => .array .int
  | 14 => .array .int
  | 15 => .int
  | 16 => .int
  | 17 => .int
  | 18 => .boolean
  | 19 => .boolean
  | 20 => .int
  | 21 => .boolean
  | 22 => .int
  | 23 => .int
  | 24 => .int
  | 25 => .int
  | 26 => .int
  | 27 => .int
  | 28 => .int
  | 29 => .int
  | 30 => .int
  | 31 => .int
  | 32 => .int
  | 33 => .int
  | 34 => .long
  | 35 => .long
  | _ => .boolean
theorem nmX5 : ∀ a, a < 37 → ∀ b, b < 37 → a ≠ b → (TX5 a).2.1 ≠ (TX5 b).2.1 := by decide +kernel
theorem tyokX5 : ∀ k, k < 37 → parseFieldDescriptor (TX5 k).2.2.1 = some (tyX5 k) := by decide +kernel
def RL : String := "RingProcessorLaw"
abbrev vwCl : List vw_C := [(RX0, TX0, 4), (RX1, TX1, 11), (RX2, TX2, 3), (RX3, TX3, 4), (RX4, TX4, 15), (RX5, TX5, 37)]
abbrev cX4_init : ByteArray := prog_1_method_1_code
def yX4_init : MethodName := ⟨RX4, "<init>", "()V"⟩
abbrev cX3_init : ByteArray := prog_5_method_1_code
def yX3_init : MethodName := ⟨RX3, "<init>", "()V"⟩
abbrev cX0_init : ByteArray := prog_2_method_1_code
def yX0_init : MethodName := ⟨RX0, "<init>", "()V"⟩
abbrev cX1_init : ByteArray := prog_3_method_1_code
def yX1_init : MethodName := ⟨RX1, "<init>", "()V"⟩
abbrev cX2_init : ByteArray := prog_4_method_1_code
def yX2_init : MethodName := ⟨RX2, "<init>", "()V"⟩
abbrev cX4_go : ByteArray := prog_1_method_7_code
def yX4_go : MethodName := ⟨RX4, "go", "()V"⟩
abbrev cX4_state : ByteArray := prog_1_method_9_code
def yX4_state : MethodName := ⟨RX4, "state", "(I)I"⟩
abbrev cX4_saved : ByteArray := prog_1_method_10_code
def yX4_saved : MethodName := ⟨RX4, "saved", "()J"⟩
abbrev cX2_asWord : ByteArray := prog_4_method_4_code
def yX2_asWord : MethodName := ⟨RX2, "asWord", "()J"⟩
abbrev cX4_copy : ByteArray := prog_1_method_11_code
def yX4_copy : MethodName := ⟨RX4, "copy", "(II)I"⟩
abbrev cX0_nameAt : ByteArray := prog_2_method_3_code
def yX0_nameAt : MethodName := ⟨RX0, "nameAt", "(I)I"⟩
abbrev cL_poke : ByteArray := method_3_code
def yL_poke : MethodName := ⟨RL, "poke", "(LRingProcessor;IJ)I"⟩
abbrev cX4_poke : ByteArray := prog_1_method_2_code
def yX4_poke : MethodName := ⟨RX4, "poke", "(IJ)V"⟩
abbrev cL_peek : ByteArray := method_4_code
def yL_peek : MethodName := ⟨RL, "peek", "(LRingProcessor;I[J)I"⟩
abbrev cX4_peek : ByteArray := prog_1_method_3_code
def yX4_peek : MethodName := ⟨RX4, "peek", "(I)J"⟩
abbrev cL_set : ByteArray := method_5_code
def yL_set : MethodName := ⟨RL, "set", "(LRingProcessor;IJ)I"⟩
abbrev cX4_set : ByteArray := prog_1_method_4_code
def yX4_set : MethodName := ⟨RX4, "set", "(IJ)V"⟩
abbrev cX4_field : ByteArray := prog_1_method_34_code
def yX4_field : MethodName := ⟨RX4, "field", "(JII)I"⟩
abbrev cX2_takeFrom : ByteArray := prog_4_method_3_code
def yX2_takeFrom : MethodName := ⟨RX2, "takeFrom", "(J)V"⟩
abbrev cL_get : ByteArray := method_6_code
def yL_get : MethodName := ⟨RL, "get", "(LRingProcessor;I[J)I"⟩
abbrev cX4_get : ByteArray := prog_1_method_5_code
def yX4_get : MethodName := ⟨RX4, "get", "(I)J"⟩
abbrev cL_run : ByteArray := method_7_code
def yL_run : MethodName := ⟨RL, "run", "(LRingProcessor;I[J)I"⟩
abbrev cX4_run : ByteArray := prog_1_method_6_code
def yX4_run : MethodName := ⟨RX4, "run", "(I)I"⟩
abbrev cX4_takeInterrupt : ByteArray := prog_1_method_13_code
def yX4_takeInterrupt : MethodName := ⟨RX4, "takeInterrupt", "()I"⟩
abbrev cX4_perform : ByteArray := prog_1_method_15_code
def yX4_perform : MethodName := ⟨RX4, "perform", "()I"⟩
abbrev cX2_become : ByteArray := prog_4_method_2_code
def yX2_become : MethodName := ⟨RX2, "become", "(LRingProcessor$Pointer;)V"⟩
abbrev cX3_read : ByteArray := prog_5_method_2_code
def yX3_read : MethodName := ⟨RX3, "read", "(LRingProcessor$Pointer;I)J"⟩
abbrev cX3_locate : ByteArray := prog_5_method_5_code
def yX3_locate : MethodName := ⟨RX3, "locate", "(IIIIZ)I"⟩
abbrev cX3_lookForDescriptor : ByteArray := prog_5_method_6_code
def yX3_lookForDescriptor : MethodName := ⟨RX3, "lookForDescriptor", "(IZ)LRingProcessor$Descriptor;"⟩
abbrev cX0_placeOf : ByteArray := prog_2_method_4_code
def yX0_placeOf : MethodName := ⟨RX0, "placeOf", "(I)I"⟩
abbrev cX1_become : ByteArray := prog_3_method_2_code
def yX1_become : MethodName := ⟨RX1, "become", "(JJ)V"⟩
abbrev cX0_add : ByteArray := prog_2_method_5_code
def yX0_add : MethodName := ⟨RX0, "add", "(IJJ)I"⟩
abbrev cX0_moveToFront : ByteArray := prog_2_method_6_code
def yX0_moveToFront : MethodName := ⟨RX0, "moveToFront", "(I)V"⟩
abbrev cX1_refusal : ByteArray := prog_3_method_3_code
def yX1_refusal : MethodName := ⟨RX1, "refusal", "(III)I"⟩
abbrev cX4_sum : ByteArray := prog_1_method_33_code
def yX4_sum : MethodName := ⟨RX4, "sum", "(II)I"⟩
abbrev cX3_lookForPage : ByteArray := prog_5_method_7_code
def yX3_lookForPage : MethodName := ⟨RX3, "lookForPage", "(IIZ)J"⟩
abbrev cX4_faultOf : ByteArray := prog_1_method_32_code
def yX4_faultOf : MethodName := ⟨RX4, "faultOf", "(J)I"⟩
abbrev cX4_performWithoutAddress : ByteArray := prog_1_method_19_code
def yX4_performWithoutAddress : MethodName := ⟨RX4, "performWithoutAddress", "(I)I"⟩
abbrev cX4_advance : ByteArray := prog_1_method_31_code
def yX4_advance : MethodName := ⟨RX4, "advance", "()I"⟩
abbrev cX4_exchange : ByteArray := prog_1_method_20_code
def yX4_exchange : MethodName := ⟨RX4, "exchange", "()I"⟩
abbrev cX4_performInRing0 : ByteArray := prog_1_method_21_code
def yX4_performInRing0 : MethodName := ⟨RX4, "performInRing0", "(I)I"⟩
abbrev cX4_goBack : ByteArray := prog_1_method_22_code
def yX4_goBack : MethodName := ⟨RX4, "goBack", "()I"⟩
abbrev cX0_clear : ByteArray := prog_2_method_2_code
def yX0_clear : MethodName := ⟨RX0, "clear", "()V"⟩
abbrev cX4_startAddress : ByteArray := prog_1_method_16_code
def yX4_startAddress : MethodName := ⟨RX4, "startAddress", "(J)V"⟩
abbrev cX4_followChain : ByteArray := prog_1_method_17_code
def yX4_followChain : MethodName := ⟨RX4, "followChain", "()I"⟩
abbrev cX4_followWord : ByteArray := prog_1_method_18_code
def yX4_followWord : MethodName := ⟨RX4, "followWord", "(J)Z"⟩
abbrev cX4_performAtAddress : ByteArray := prog_1_method_23_code
def yX4_performAtAddress : MethodName := ⟨RX4, "performAtAddress", "(I)I"⟩
abbrev cX4_put : ByteArray := prog_1_method_27_code
def yX4_put : MethodName := ⟨RX4, "put", "(J)I"⟩
abbrev cX3_write : ByteArray := prog_5_method_3_code
def yX3_write : MethodName := ⟨RX3, "write", "(LRingProcessor$Pointer;J)I"⟩
abbrev cX3_markChanged : ByteArray := prog_5_method_4_code
def yX3_markChanged : MethodName := ⟨RX3, "markChanged", "(I)V"⟩
abbrev cX4_addOne : ByteArray := prog_1_method_26_code
def yX4_addOne : MethodName := ⟨RX4, "addOne", "()I"⟩
abbrev cX4_transfer : ByteArray := prog_1_method_28_code
def yX4_transfer : MethodName := ⟨RX4, "transfer", "(Z)I"⟩
abbrev cX4_callAddress : ByteArray := prog_1_method_29_code
def yX4_callAddress : MethodName := ⟨RX4, "callAddress", "()I"⟩
abbrev cX1_ringOfCall : ByteArray := prog_3_method_4_code
def yX1_ringOfCall : MethodName := ⟨RX1, "ringOfCall", "(II)I"⟩
abbrev cX4_returnByWord : ByteArray := prog_1_method_30_code
def yX4_returnByWord : MethodName := ⟨RX4, "returnByWord", "()I"⟩
abbrev cX4_load : ByteArray := prog_1_method_24_code
def yX4_load : MethodName := ⟨RX4, "load", "(I)I"⟩
abbrev cX4_combined : ByteArray := prog_1_method_25_code
def yX4_combined : MethodName := ⟨RX4, "combined", "(IJ)J"⟩
abbrev cX4_enter : ByteArray := prog_1_method_14_code
def yX4_enter : MethodName := ⟨RX4, "enter", "(I)V"⟩
abbrev cL_interrupt : ByteArray := method_8_code
def yL_interrupt : MethodName := ⟨RL, "interrupt", "(LRingProcessor;I)I"⟩
abbrev cX4_interrupt : ByteArray := prog_1_method_8_code
def yX4_interrupt : MethodName := ⟨RX4, "interrupt", "(I)V"⟩
abbrev cL_reach : ByteArray := method_9_code
def yL_reach : MethodName := ⟨RL, "reach", "(LRingProcessor;IIII[J)I"⟩
abbrev cX4_reach : ByteArray := prog_1_method_12_code
def yX4_reach : MethodName := ⟨RX4, "reach", "(IIII)I"⟩
abbrev cX5_init : ByteArray := prog_7_method_1_code
def yX5_init : MethodName := ⟨RX5, "<init>", "()V"⟩
abbrev cX5_thrown : ByteArray := prog_7_method_2_code
def yX5_thrown : MethodName := ⟨RX5, "thrown", "()I"⟩
abbrev cX5_reach : ByteArray := prog_7_method_14_code
def yX5_reach : MethodName := ⟨RX5, "reach", "(IIII)I"⟩
abbrev cX5_findDescriptor : ByteArray := prog_7_method_6_code
def yX5_findDescriptor : MethodName := ⟨RX5, "findDescriptor", "(I)I"⟩
abbrev cX5_barred : ByteArray := prog_7_method_10_code
def yX5_barred : MethodName := ⟨RX5, "barred", "(JJIII)I"⟩
abbrev cX5_bits : ByteArray := prog_7_method_3_code
def yX5_bits : MethodName := ⟨RX5, "bits", "(JII)I"⟩
abbrev cX5_findPage : ByteArray := prog_7_method_8_code
def yX5_findPage : MethodName := ⟨RX5, "findPage", "(II)I"⟩
abbrev cX5_run : ByteArray := prog_7_method_28_code
def yX5_run : MethodName := ⟨RX5, "run", "(I)I"⟩
abbrev cX5_step : ByteArray := prog_7_method_27_code
def yX5_step : MethodName := ⟨RX5, "step", "()V"⟩
abbrev cX5_save : ByteArray := prog_7_method_26_code
def yX5_save : MethodName := ⟨RX5, "save", "(III)V"⟩
abbrev cX5_place : ByteArray := prog_7_method_11_code
def yX5_place : MethodName := ⟨RX5, "place", "(IIII)I"⟩
abbrev cX5_look : ByteArray := prog_7_method_7_code
def yX5_look : MethodName := ⟨RX5, "look", "(I)V"⟩
abbrev cX5_lookPage : ByteArray := prog_7_method_9_code
def yX5_lookPage : MethodName := ⟨RX5, "lookPage", "(III)J"⟩
abbrev cX5_wrong : ByteArray := prog_7_method_4_code
def yX5_wrong : MethodName := ⟨RX5, "wrong", "(III)V"⟩
abbrev cX5_system : ByteArray := prog_7_method_24_code
def yX5_system : MethodName := ⟨RX5, "system", "(I)V"⟩
abbrev cX5_wrongHere : ByteArray := prog_7_method_5_code
def yX5_wrongHere : MethodName := ⟨RX5, "wrongHere", "(I)V"⟩
abbrev cX5_address : ByteArray := prog_7_method_16_code
def yX5_address : MethodName := ⟨RX5, "address", "(J)V"⟩
abbrev cX5_greater : ByteArray := prog_7_method_15_code
def yX5_greater : MethodName := ⟨RX5, "greater", "(II)I"⟩
abbrev cX5_read : ByteArray := prog_7_method_12_code
def yX5_read : MethodName := ⟨RX5, "read", "(III)J"⟩
abbrev cX5_indirect : ByteArray := prog_7_method_17_code
def yX5_indirect : MethodName := ⟨RX5, "indirect", "(J)V"⟩
abbrev cX5_act : ByteArray := prog_7_method_25_code
def yX5_act : MethodName := ⟨RX5, "act", "(I)V"⟩
abbrev cX5_reckon : ByteArray := prog_7_method_20_code
def yX5_reckon : MethodName := ⟨RX5, "reckon", "(I)V"⟩
abbrev cX5_here : ByteArray := prog_7_method_19_code
def yX5_here : MethodName := ⟨RX5, "here", "()J"⟩
abbrev cX5_write : ByteArray := prog_7_method_13_code
def yX5_write : MethodName := ⟨RX5, "write", "(J)V"⟩
abbrev cX5_jump : ByteArray := prog_7_method_21_code
def yX5_jump : MethodName := ⟨RX5, "jump", "()V"⟩
abbrev cX5_pointer : ByteArray := prog_7_method_18_code
def yX5_pointer : MethodName := ⟨RX5, "pointer", "(III)J"⟩
abbrev cX5_call : ByteArray := prog_7_method_22_code
def yX5_call : MethodName := ⟨RX5, "call", "()V"⟩
abbrev cX5_back : ByteArray := prog_7_method_23_code
def yX5_back : MethodName := ⟨RX5, "back", "()V"⟩
abbrev cX5_poke : ByteArray := prog_7_method_29_code
def yX5_poke : MethodName := ⟨RX5, "poke", "(IJ)V"⟩
abbrev cX5_peek : ByteArray := prog_7_method_30_code
def yX5_peek : MethodName := ⟨RX5, "peek", "(I)J"⟩
abbrev cX5_set : ByteArray := prog_7_method_31_code
def yX5_set : MethodName := ⟨RX5, "set", "(IJ)V"⟩
abbrev cX5_get : ByteArray := prog_7_method_32_code
def yX5_get : MethodName := ⟨RX5, "get", "(I)J"⟩
abbrev cX5_go : ByteArray := prog_7_method_33_code
def yX5_go : MethodName := ⟨RX5, "go", "()V"⟩
abbrev cX5_interrupt : ByteArray := prog_7_method_34_code
def yX5_interrupt : MethodName := ⟨RX5, "interrupt", "(I)V"⟩
abbrev cX5_state : ByteArray := prog_7_method_35_code
def yX5_state : MethodName := ⟨RX5, "state", "(I)I"⟩
abbrev cX5_saved : ByteArray := prog_7_method_36_code
def yX5_saved : MethodName := ⟨RX5, "saved", "()J"⟩
abbrev cX5_copy : ByteArray := prog_7_method_37_code
def yX5_copy : MethodName := ⟨RX5, "copy", "(II)I"⟩
def nwl : List (String × Nat × MethodName × String) := [(RX4, 9, yX3_init, "RingProcessor"), (RX3, 17, yX0_init, "RingProcessor"), (RX3, 27, yX1_init, "RingProcessor"), (RX4, 22, yX2_init, "RingProcessor"), (RX2, 21, yX4_field, "RingProcessor"), (RX3, 68, yX4_sum, "RingProcessor"), (RX3, 48, yX4_faultOf, "RingProcessor")]
end
section
/-! my own rows over the kit's: one list of words for all contracts (gG); a contract's start (mo) and its ends (reti ..); a row for a put, a read, a call with the frame rule in it -/
def gG : List Cond := lw_tbl.filter goodWord
theorem inG {w : Cond} (i : Nat) (h : lw_tbl[i]? = some w) (hg : goodWord w = true) : w ∈ gG := List.mem_filter.mpr ⟨List.mem_of_getElem? h, hg⟩
theorem goodG {w : Cond} (hc : w ∈ gG) : GoodIn gG (w :: gG) := by
  intro x hx
  rcases List.mem_cons.mp hx with rfl | h
  · exact ⟨hc, good_of_word (List.mem_filter.mp hc).2⟩
  · exact ⟨h, good_of_word (List.mem_filter.mp h).2⟩
theorem pq {α β : Type} {a : α} {b : β} {p : α × β} (h : (a, b) = p) : a = p.1 ∧ b = p.2 := by subst h; exact ⟨rfl, rfl⟩
theorem neI {x k : Int32} {n : Int} (h : ¬ x = k) (hk : k.toInt = n) : ¬ x.toInt = n := fun z => h (Int32.toInt_inj.mp (z.trans hk.symm))
theorem inL {i : Int32} {n : Nat} (h : (!(decide (i < 0) || decide (n ≤ i.toNatClampNeg))) = true) : vp_in i n := by
  intro hz
  rcases hz with hz | hz
  · rw [decide_eq_true hz] at h; cases h
  · rw [decide_eq_true hz, Bool.or_true] at h; cases h
theorem mapSub {ws ws' : va_W} {is : List Nat} (h : is.map (fun i => ws[i]?) = ws'.map some) : is.filterMap (fun i => ws[i]?) = ws' := by
  have h2 := congrArg (List.filterMap id) h
  simpa [List.filterMap_map, Function.comp_def] using h2
/-- the links across the nest: they stand in every state that is warmed from here -/
def NST (U : State) : Prop := ∀ q ∈ nwl, va_Nw (.methodLinkNest q.1 q.2.1 q.2.2.1 q.2.2.2) U
theorem NST.warm {s U : State} (hW : s.WarmedH U.vm) (h : NST s) : NST U := fun q hq => va_Nw.warmM hW (h q hq)
theorem NST.same {s U : State} (hv : s.vm = U.vm) (h : NST s) : NST U := fun q hq => va_Nw.same rfl hv (h q hq)
abbrev PRE (D : va_G) (tys : List (ClassId × FieldType)) (sz : Nat) (Wc : va_W) : State → Prop := fun U => U.heap.size = sz ∧ va_P D vwCl Wc U.heap ∧ va_K D vwCl tys U ∧ va_D (fun _ => True) Wc ∧ NST U
abbrev AT {S : Type} (D : va_G) (tys : List (ClassId × FieldType)) (A : Nat → Prop) (w1 : S → va_W) : S → State → Prop := fun u t => va_P D vwCl (w1 u) t.heap ∧ va_K D vwCl tys t ∧ va_D A (w1 u)
theorem mo {l : Launch} {y : MethodName} {cc : ByteArray} {maxL : Nat} {ret : Option FieldType} {rm : Room} {av : List Value} {D : va_G} {tys : List (ClassId × FieldType)} {Wc : va_W} {sz mc ms : Nat} {QA : (Nat → Prop) → Array Value → State → Outcome → State → Prop}
    (hy : plainName y.cls = true) (hlen : (lg_sl av).length ≤ maxL)
    (body : ∀ (p : Program) (e : Env) (s : State) (m : MethodId) (below : List Frame) (meth : Method) (c : Code) (A : Nat → Prop) (ls : Array Slot) (H : Heap), p.tables.exec = Jvm.exec → c.code = cc → meth.sig.returnType = ret → c.maxLocals = maxL → s.vm.findClass y.cls = some m.cls → (∀ w ∈ gG, w.before av.toArray s = true) → meth.locks = false → meth.name = y.name →
      (∀ q : Nat, s.heap.size ≤ q → A q) → va_S A s.heap H [] → va_P D vwCl Wc H → va_K D vwCl tys s → va_D A Wc → lv_has ls maxL (lv_args 0 av) → NST s → W p l e rm s m av.toArray below meth c H [] 0 0 (MQ below (QA A) av.toArray s mc ms A) (F0 m 0 ls [])) :
    Met l y (Cond.code y cc maxL ret :: gG) rm (va_Pc av (PRE D tys sz Wc)) (QA (va_A Wc sz)) mc ms (va_A Wc sz) := by
  refine Met.ofW (cc := cc) (maxL := maxL) (ret := ret) hy rfl ?_
  intro p e s m args below meth c s₁ B hml hv
  obtain ⟨rfl, hsz, hP, hK, hD0, hN⟩ := hv
  have hts := atoms_spec (ws := Cond.code y cc maxL ret :: gG) B.pre
  subst hsz
  have hl := lv_entry av (n := maxL) hlen
  rw [lg_entry_eq]
  exact body p e s m below meth c (va_A Wc s.heap.size) _ s.heap B.exec B.bytes B.returns hml (findClass_of_methodNamed B.named) (fun w h => hts w (List.mem_cons_of_mem _ h)) B.notSynchronized (name_of_methodNamed B.named B.method).1 (fun q h => Or.inr h) va_S.rf hP hK hD0.self hl hN
theorem nb1 {q : Prop} [Decidable q] : narrow .boolean (.int (if q then (0 : Int32) else 1)) = .int (if q then (0 : Int32) else 1) := by split <;> rfl
theorem nb2 {q : Prop} [Decidable q] : fits .boolean (.int (if q then (0 : Int32) else 1)) = true := by split <;> rfl
section CW
variable {R : Room} {s : State} {args : Array Value} {own : String} {index maxL : Nat} {y : MethodName} {bytes : ByteArray} {ret : Option FieldType} {rm : Room}
theorem cV (n : Nat) (hG : ∀ w ∈ gG, w.before args s = true) (hc : Cond.code y bytes maxL ret ∈ gG) (hl : Cond.methodLink own index y ∈ gG) (hi : Cond.instanceMethod y ∈ gG) (hs : Cond.selects y.cls y y ∈ gG) (hini : Cond.initialized y.cls ∈ gG) (hd : y.cls ≠ "java/lang/invoke/MethodHandle" ∧ y.cls ≠ "java/lang/invoke/VarHandle" ∧ (parseMethodDescriptor y.desc).map (fun d => d.parameters.length) = some n)
    (hR : rm.frames + 1 ≤ R.frames ∧ 8 + (maxL + 11) + rm.locals ≤ R.locals) : CallW R s args own y.cls index y bytes maxL ret (Cond.code y bytes maxL ret :: gG) rm rm.cells rm.slots n := ⟨callB_of n hG (goodG hc) rfl rfl rfl (hG _ hini) (hG _ hl) hd hR, hG _ hi, hG _ hs⟩
theorem cS (n : Nat) (hG : ∀ w ∈ gG, w.before args s = true) (hc : Cond.code y bytes maxL ret ∈ gG) (hl : Cond.methodLink own index y ∈ gG) (hs : Cond.static y ∈ gG) (hini : Cond.initialized y.cls ∈ gG) (hd : y.cls ≠ "java/lang/invoke/MethodHandle" ∧ y.cls ≠ "java/lang/invoke/VarHandle" ∧ (parseMethodDescriptor y.desc).map (fun d => d.parameters.length) = some n)
    (hR : rm.frames + 1 ≤ R.frames ∧ 8 + (maxL + 11) + rm.locals ≤ R.locals) : CallB R s args own index y bytes maxL ret (Cond.code y bytes maxL ret :: gG) rm rm.cells rm.slots n ∧ (Cond.static y).before args s = true := ⟨callB_of n hG (goodG hc) rfl rfl rfl (hG _ hini) (hG _ hl) hd hR, hG _ hs⟩
theorem cSN {host : String} (n : Nat) (hG : ∀ w ∈ gG, w.before args s = true) (hc : Cond.code y bytes maxL ret ∈ gG) (hl : va_Nw (.methodLinkNest own index y host) s) (hs : Cond.static y ∈ gG) (hini : Cond.initialized y.cls ∈ gG) (hd : y.cls ≠ "java/lang/invoke/MethodHandle" ∧ y.cls ≠ "java/lang/invoke/VarHandle" ∧ (parseMethodDescriptor y.desc).map (fun d => d.parameters.length) = some n)
    (hR : rm.frames + 1 ≤ R.frames ∧ 8 + (maxL + 11) + rm.locals ≤ R.locals) : va_CN R s args own index y host bytes maxL ret (Cond.code y bytes maxL ret :: gG) rm rm.cells rm.slots n ∧ (Cond.static y).before args s = true ∧ True := ⟨va_cnB n hG (goodG hc) rfl rfl rfl hl (hG _ hini) hd hR, hG _ hs, trivial⟩
theorem cI (n : Nat) (hG : ∀ w ∈ gG, w.before args s = true) (hc : Cond.code y bytes maxL none ∈ gG) (hl : Cond.methodLink own index y ∈ gG) (hi : Cond.instanceMethod y ∈ gG) (hini : Cond.initialized y.cls ∈ gG) (hy : y.name = "<init>") (hd : y.cls ≠ "java/lang/invoke/MethodHandle" ∧ y.cls ≠ "java/lang/invoke/VarHandle" ∧ (parseMethodDescriptor y.desc).map (fun d => d.parameters.length) = some n)
    (hR : rm.frames + 1 ≤ R.frames ∧ 8 + (maxL + 11) + rm.locals ≤ R.locals) : CallB R s args own index y bytes maxL none (Cond.code y bytes maxL none :: gG) rm rm.cells rm.slots n ∧ y.name = "<init>" ∧ (Cond.instanceMethod y).before args s = true := ⟨callB_of n hG (goodG hc) rfl rfl rfl (hG _ hini) (hG _ hl) hd hR, hy, hG _ hi⟩
theorem cIN {host : String} (n : Nat) (hG : ∀ w ∈ gG, w.before args s = true) (hc : Cond.code y bytes maxL none ∈ gG) (hl : va_Nw (.methodLinkNest own index y host) s) (hi : Cond.instanceMethod y ∈ gG) (hini : Cond.initialized y.cls ∈ gG) (hy : y.name = "<init>") (hd : y.cls ≠ "java/lang/invoke/MethodHandle" ∧ y.cls ≠ "java/lang/invoke/VarHandle" ∧ (parseMethodDescriptor y.desc).map (fun d => d.parameters.length) = some n)
    (hR : rm.frames + 1 ≤ R.frames ∧ 8 + (maxL + 11) + rm.locals ≤ R.locals) : va_CN R s args own index y host bytes maxL none (Cond.code y bytes maxL none :: gG) rm rm.cells rm.slots n ∧ y.name = "<init>" ∧ (Cond.instanceMethod y).before args s = true := ⟨va_cnB n hG (goodG hc) rfl rfl rfl hl (hG _ hini) hd hR, hy, hG _ hi⟩
end CW
theorem preB {av : List Value} {D : va_G} {tys : List (ClassId × FieldType)} {sz : Nat} {Wc : va_W} : FrameBlind (va_Pc av (PRE D tys sz Wc)) := fun a U g mk q => by
  obtain ⟨q0, q1, qP, qK, qD, qN⟩ := q
  exact ⟨q0, q1, qP, va_K.moved (u := U) (U := U.calling g mk a) (Vm.Alike.refl U.vm) qK, qD, NST.same (U := U.calling g mk a) rfl qN⟩
theorem preU {av : List Value} {D : va_G} {tys : List (ClassId × FieldType)} {Wc ws : va_W} {A : Nat → Prop} {s : State} {H : Heap} {isC : List Nat} (hN : NST s) (hK : va_K D vwCl tys s) (hP : va_P D vwCl ws H) (hD : va_D A ws) (hnC : va_nd isC = true) (hC : isC.map (fun i => ws[i]?) = Wc.map some) :
    ∀ U : State, U.heap = H → s.WarmedH U.vm → va_Pc av (PRE D tys H.size Wc) av.toArray U := fun U hU hW =>
  ⟨rfl, by rw [hU], by rw [hU]; exact hP.sub isC (mapSub hC), va_K.moved hW.alike hK, (hD.sub isC hnC hC).weaken (fun _ _ _ _ => trivial), NST.warm hW hN⟩
/-- cells of a world put back at their places -/
def setL : va_W → List Nat → va_W → va_W
  | ws, i :: is, q :: qs => setL (ws.set i q) is qs
  | ws, _, _ => ws
theorem setL_get : ∀ (is : List Nat) (qs ws : va_W) (k : Nat) (q : Nat × va_E), (setL ws is qs)[k]? = some q → is.length = qs.length → (∃ j : Nat, is[j]? = some k ∧ qs[j]? = some q) ∨ (k ∉ is ∧ ws[k]? = some q) := by
  intro is
  induction is with
  | nil => intro qs ws k q h hl; exact Or.inr ⟨List.not_mem_nil, by cases qs <;> exact h⟩
  | cons i is ih =>
    intro qs ws k q h hl
    cases qs with
    | nil => simp at hl
    | cons q0 qs =>
      rcases ih qs (ws.set i q0) k q h (by simpa using hl) with ⟨j, h1, h2⟩ | ⟨h1, h2⟩
      · exact Or.inl ⟨j + 1, by simpa using h1, by simpa using h2⟩
      · by_cases e : k = i
        · subst e
          refine Or.inl ⟨0, rfl, ?_⟩
          rw [List.getElem?_set] at h2
          simp only [if_true] at h2
          split at h2
          · exact h2
          · cases h2
        · refine Or.inr ⟨fun h => (List.mem_cons.mp h).elim e h1, ?_⟩
          rw [List.getElem?_set, if_neg (fun z => e z.symm)] at h2
          exact h2
theorem pickAt {ws : va_W} : ∀ (is : List Nat) (wc : va_W), is.filterMap (fun i => ws[i]?) = wc → wc.length = is.length → is.map (fun i => ws[i]?) = wc.map some := by
  intro is
  induction is with
  | nil => intro wc h hl; subst h; rfl
  | cons i is ih =>
    intro wc h hl
    subst h
    cases hi : ws[i]? with
    | none =>
      rw [List.filterMap_cons_none hi] at hl
      have := List.length_filterMap_le (fun i => ws[i]?) is
      have h2 : (is.filterMap (fun i => ws[i]?)).length = is.length + 1 := hl
      exact absurd (h2 ▸ this) (Nat.not_succ_le_self _)
    | some q =>
      rw [List.filterMap_cons_some hi] at hl ⊢
      simp only [List.map_cons, hi]
      exact congrArg _ (ih _ rfl (by simpa using hl))
theorem backAt {A0 : Nat → Prop} {D : va_G} {cl : List vw_C} {ws wc w1 : va_W} {H H1 : Heap} (hP : va_P D cl ws H) (hD : va_D A0 ws) (isC : List Nat) (hC : isC.map (fun i => ws[i]?) = wc.map some) (hl : isC.length = w1.length)
    (hk : ∀ q : Nat, q < H.size → ¬ va_A wc H.size q → H1[q]? = H[q]?) (hF : ∀ q, va_A wc H.size q → A0 q) (hP1 : va_P D cl w1 H1) (hD1 : va_D (va_A wc H.size) w1) : va_P D cl (setL ws isC w1) H1 ∧ va_D A0 (setL ws isC w1) := by
  have at' : ∀ (k : Nat) (q : Nat × va_E), wc[k]? = some q → ∃ i, isC[k]? = some i ∧ ws[i]? = some q := by
    intro k q hq
    have h1 : (isC.map (fun i => ws[i]?))[k]? = some (some q) := by rw [hC, List.getElem?_map, hq]; rfl
    rw [List.getElem?_map] at h1
    cases hi : isC[k]? with
    | none => rw [hi] at h1; cases h1
    | some i => rw [hi] at h1; exact ⟨i, rfl, Option.some.inj h1⟩
  have apart : ∀ (k : Nat) (q : Nat × va_E), k ∉ isC → ws[k]? = some q → q.1 < H.size ∧ ¬ va_A wc H.size q.1 := by
    intro k q hn hq
    have hlt := (hP k q hq).lt
    refine ⟨hlt, fun h => ?_⟩
    rcases h with ⟨k2, e, h⟩ | h
    · obtain ⟨i, h3, h4⟩ := at' k2 (q.1, e) h
      have hij := hD.1 i k (q.1, e) q h4 hq rfl
      subst hij
      exact hn (List.mem_of_getElem? h3)
    · omega
  refine ⟨fun k q hq => ?_, fun i j x y hx hy hxy => ?_, fun k q hq => ?_⟩
  · rcases setL_get isC w1 ws k q hq hl with ⟨j, -, h2⟩ | ⟨h1, h2⟩
    · exact hP1 j q h2
    · obtain ⟨g1, g2⟩ := apart k q h1 h2
      exact (hP k q h2).kept (hk q.1 g1 g2)
  · rcases setL_get isC w1 ws i x hx hl with ⟨a, a1, a2⟩ | ⟨a1, a2⟩ <;> rcases setL_get isC w1 ws j y hy hl with ⟨b, b1, b2⟩ | ⟨b1, b2⟩
    · have := hD1.1 a b x y a2 b2 hxy
      subst this
      exact Option.some.inj (a1.symm.trans b1)
    · exact absurd (hxy ▸ hD1.2 a x a2) (apart j y b1 b2).2
    · exact absurd (hxy ▸ hD1.2 b y b2) (apart i x a1 a2).2
    · exact hD.1 i j x y a2 b2 hxy
  · rcases setL_get isC w1 ws k q hq hl with ⟨j, -, h2⟩ | ⟨h1, h2⟩
    · exact hF _ (hD1.2 j q h2)
    · exact hD.2 k q h2
section RW
variable {p : Program} {l : Launch} {e : Env} {R : Room} {s : State} {m : MethodId} {args : Array Value} {below : List Frame} {meth : Method} {c : Code} {H : Heap} {locs : List Loc} {cells slots : Nat} {Q : State → Prop}
variable {cc : ByteArray} {pc : Nat} {ls : Array Slot} {rest : List Value} {D : va_G} {A : Nat → Prop} {tys : List (ClassId × FieldType)} {ws : va_W}
theorem tI {x y : Int32} (h : x = y) (k : W p l e R s m args below meth c H locs cells slots Q (F0 m pc ls (.int y :: rest))) : W p l e R s m args below meth c H locs cells slots Q (F0 m pc ls (.int x :: rest)) := h ▸ k
theorem tL {x y : Int64} (h : x = y) (k : W p l e R s m args below meth c H locs cells slots Q (F0 m pc ls (.long y :: rest))) : W p l e R s m args below meth c H locs cells slots Q (F0 m pc ls (.long x :: rest)) := h ▸ k
section LQ
variable {x y : Int64} {off : Int} {tgt : Nat}
theorem lq_eq (hx : p.tables.exec = Jvm.exec) (hb : c.code = cc) (d1 : decode cc pc = .ok (.lcmp, 1)) (d2 : decode cc (pc + 1) = .ok (.ifCond .eq off, 3)) (ht : ((pc + 1 : Nat) : Int) + off = (tgt : Int))
    (kt : x = y → W p l e R s m args below meth c H locs cells slots Q (F0 m tgt ls rest)) (kf : ¬ x = y → W p l e R s m args below meth c H locs cells slots Q (F0 m (pc + 1 + 3) ls rest)) : W p l e R s m args below meth c H locs cells slots Q (F0 m pc ls (.long y :: .long x :: rest)) :=
  W.lcmp hx hb d1 (lv_if_eq hx hb d2 ht (fun h => kt ((lg_cmp_eq x y).mp h)) (fun h => kf (fun z => h ((lg_cmp_eq x y).mpr z))))
theorem lq_ne (hx : p.tables.exec = Jvm.exec) (hb : c.code = cc) (d1 : decode cc pc = .ok (.lcmp, 1)) (d2 : decode cc (pc + 1) = .ok (.ifCond .ne off, 3)) (ht : ((pc + 1 : Nat) : Int) + off = (tgt : Int))
    (kt : ¬ x = y → W p l e R s m args below meth c H locs cells slots Q (F0 m tgt ls rest)) (kf : x = y → W p l e R s m args below meth c H locs cells slots Q (F0 m (pc + 1 + 3) ls rest)) : W p l e R s m args below meth c H locs cells slots Q (F0 m pc ls (.long y :: .long x :: rest)) :=
  W.lcmp hx hb d1 (lv_if_ne hx hb d2 ht (fun h => kt (fun z => h ((lg_cmp_eq x y).mpr z))) (fun h => kf ((lg_cmp_eq x y).mp h)))
theorem lq_lt (hx : p.tables.exec = Jvm.exec) (hb : c.code = cc) (d1 : decode cc pc = .ok (.lcmp, 1)) (d2 : decode cc (pc + 1) = .ok (.ifCond .lt off, 3)) (ht : ((pc + 1 : Nat) : Int) + off = (tgt : Int))
    (kt : x < y → W p l e R s m args below meth c H locs cells slots Q (F0 m tgt ls rest)) (kf : ¬ x < y → W p l e R s m args below meth c H locs cells slots Q (F0 m (pc + 1 + 3) ls rest)) : W p l e R s m args below meth c H locs cells slots Q (F0 m pc ls (.long y :: .long x :: rest)) :=
  W.lcmp hx hb d1 (lv_if_lt hx hb d2 ht (fun h => kt ((lg_cmp_lt x y).mp h)) (fun h => kf (fun z => h ((lg_cmp_lt x y).mpr z))))
theorem lq_ge (hx : p.tables.exec = Jvm.exec) (hb : c.code = cc) (d1 : decode cc pc = .ok (.lcmp, 1)) (d2 : decode cc (pc + 1) = .ok (.ifCond .ge off, 3)) (ht : ((pc + 1 : Nat) : Int) + off = (tgt : Int))
    (kt : y ≤ x → W p l e R s m args below meth c H locs cells slots Q (F0 m tgt ls rest)) (kf : ¬ y ≤ x → W p l e R s m args below meth c H locs cells slots Q (F0 m (pc + 1 + 3) ls rest)) : W p l e R s m args below meth c H locs cells slots Q (F0 m pc ls (.long y :: .long x :: rest)) :=
  W.lcmp hx hb d1 (lv_if_ge hx hb d2 ht (fun h => kt ((lg_cmp_ge x y).mp h)) (fun h => kf (fun z => h ((lg_cmp_ge x y).mpr z))))
theorem lq_b (hx : p.tables.exec = Jvm.exec) (hb : c.code = cc) (d1 : decode cc pc = .ok (.lcmp, 1)) (d2 : decode cc (pc + 1) = .ok (.ifCond .eq 7, 3)) (d3 : decode cc (pc + 1 + 3) = .ok (.iconst 1, 1)) (d4 : decode cc (pc + 1 + 3 + 1) = .ok (.goto 4, 3)) (d5 : decode cc (pc + 8) = .ok (.iconst 0, 1))
    (k : W p l e R s m args below meth c H locs cells slots Q (F0 m (pc + 9) ls (.int (if x = y then 0 else 1) :: rest))) : W p l e R s m args below meth c H locs cells slots Q (F0 m pc ls (.long y :: .long x :: rest)) := by
  refine lq_eq (tgt := pc + 8) hx hb d1 d2 (by omega) (fun h => ?_) (fun h => ?_)
  · rw [if_pos h] at k
    exact lv_iconst (v := 0) hx hb d5 (by decide) k
  · rw [if_neg h] at k
    exact lv_iconst (v := 1) hx hb d3 (by decide) (lv_goto (tgt := pc + 9) hx hb d4 (by omega) k)
end LQ
/-- a put: the world behind it by its name -/
theorem pu {a : Nat} {H0 : Heap} {W' : va_W} (hx : p.tables.exec = Jvm.exec) (hb : c.code = cc) {own ref C : String} {T : u_T} {N ci index : Nat} (hts : ∀ w ∈ gG, w.before args s = true) (hin : ∀ w ∈ u_ws C T N, w ∈ gG) (ty0 : Nat → FieldType) (hty : ∀ k, k < N → parseFieldDescriptor (T k).2.2.1 = some (ty0 k)) (hnm : ∀ a, a < N → ∀ b, b < N → a ≠ b → (T a).2.1 ≠ (T b).2.1) (hown : s.vm.findClass own = some m.cls)
    (hK : va_K D vwCl tys s) (hP : va_P D vwCl ws H) (hD : va_D A ws) (hS0 : va_S A H0 H locs) (q0 : Nat) {fs : List Value} (he : ws[q0]? = some (a, .inr (ci, fs))) (hc : vwCl[ci]? = some (C, T, N)) (k : Nat) (hk : k < N) (hlink : (Cond.fieldLink own index ref (T k).2.1 (T k).2.2.1).before args s = true) (hsame : ∀ x, s.fieldFound? (T k).1 (T k).2.1 (T k).2.2.1 = some x → s.fieldFound? ref (T k).2.1 (T k).2.2.1 = some x) (hfin : (T k).2.2.2 = false)
    {ty : FieldType} {v : Value} (hd : parseFieldDescriptor (T k).2.2.1 = some ty) (hn : narrow ty v = v) (hfit : fits ty v = true) (hl : k < fs.length) (hdg : decode cc pc = .ok (.putfield index, 3)) (hW' : ws.set q0 (a, .inr (ci, fs.set k v)) = W')
    (kk : ∀ (H1 : Heap) (locs1 : List Loc), va_P D vwCl W' H1 → va_D A W' → va_S A H0 H1 locs1 → W p l e R s m args below meth c H1 locs1 cells slots Q (F0 m (pc + 3) ls rest)) : W p l e R s m args below meth c H locs cells slots Q (F0 m pc ls (v :: .ref a :: rest)) := by
  subst hW'
  exact va_put hx hb hts hin ty0 hty hnm hown hK hP hD hS0 q0 he hc k hk hlink hsame hfin hd hn hfit hl hdg kk
theorem gi {a : Nat} (hx : p.tables.exec = Jvm.exec) (hb : c.code = cc) (hK : va_K D vwCl tys s) (hP : va_P D vwCl ws H) (q0 t0 : Nat) {cA : ClassId} {n : Nat} {f : Nat → Int32} (ha : ws[q0]? = some (a, .inl (cA, n, .inl f))) (ht : tys[t0]? = some (cA, .int)) {i : Int32} {j : Nat} (hin : vp_in i n) (hj : i.toNatClampNeg = j) (hdg : decode cc pc = .ok (.iaload, 1))
    (kk : W p l e R s m args below meth c H locs cells slots Q (F0 m (pc + 1) ls (.int (f j) :: rest))) : W p l e R s m args below meth c H locs cells slots Q (F0 m pc ls (.int i :: .ref a :: rest)) := by
  subst hj
  exact va_iald hx hb hK hP q0 t0 ha ht hin hdg kk
theorem gl {a : Nat} (hx : p.tables.exec = Jvm.exec) (hb : c.code = cc) (hK : va_K D vwCl tys s) (hP : va_P D vwCl ws H) (q0 t0 : Nat) {cA : ClassId} {n : Nat} {f : Nat → Int64} (ha : ws[q0]? = some (a, .inl (cA, n, .inr (.inl f)))) (ht : tys[t0]? = some (cA, .long)) {i : Int32} {j : Nat} (hin : vp_in i n) (hj : i.toNatClampNeg = j) (hdg : decode cc pc = .ok (.laload, 1))
    (kk : W p l e R s m args below meth c H locs cells slots Q (F0 m (pc + 1) ls (.long (f j) :: rest))) : W p l e R s m args below meth c H locs cells slots Q (F0 m pc ls (.int i :: .ref a :: rest)) := by
  subst hj
  exact va_lald hx hb hK hP q0 t0 ha ht hin hdg kk
theorem gq {a : Nat} (hx : p.tables.exec = Jvm.exec) (hb : c.code = cc) (hK : va_K D vwCl tys s) (hP : va_P D vwCl ws H) (q0 t0 : Nat) {cA : ClassId} {C : String} {n x : Nat} {f : Nat → Option Nat} (ha : ws[q0]? = some (a, .inl (cA, n, .inr (.inr (.inr (.inr f)))))) (ht : tys[t0]? = some (cA, .object C)) {i : Int32} {j : Nat} (hin : vp_in i n) (hj : i.toNatClampNeg = j) (hf : f j = some x) (hdg : decode cc pc = .ok (.aaload, 1))
    (kk : W p l e R s m args below meth c H locs cells slots Q (F0 m (pc + 1) ls (.ref x :: rest))) : W p l e R s m args below meth c H locs cells slots Q (F0 m pc ls (.int i :: .ref a :: rest)) := by
  subst hj
  refine va_aldq hx hb hK hP q0 t0 ha ht hin hdg ?_
  rw [hf]
  exact kk
theorem si {a : Nat} {H0 : Heap} {W' : va_W} (hx : p.tables.exec = Jvm.exec) (hb : c.code = cc) (hK : va_K D vwCl tys s) (hP : va_P D vwCl ws H) (hD : va_D A ws) (hS : va_S A H0 H locs) (q0 t0 : Nat) {cA : ClassId} {n : Nat} {f : Nat → Int32} (ha : ws[q0]? = some (a, .inl (cA, n, .inl f))) (ht : tys[t0]? = some (cA, .int)) {i x : Int32} {j : Nat} (hin : vp_in i n) (hj : i.toNatClampNeg = j) (hdg : decode cc pc = .ok (.iastore, 1)) (hW' : ws.set q0 (a, .inl (cA, n, .inl (upd f j x))) = W')
    (kk : ∀ (H1 : Heap) (locs1 : List Loc), va_P D vwCl W' H1 → va_D A W' → va_S A H0 H1 locs1 → W p l e R s m args below meth c H1 locs1 cells slots Q (F0 m (pc + 1) ls rest)) : W p l e R s m args below meth c H locs cells slots Q (F0 m pc ls (.int x :: .int i :: .ref a :: rest)) := by
  subst hj; subst hW'
  exact va_iast hx hb hK hP hD hS q0 t0 ha ht hin hdg kk
theorem sl {a : Nat} {H0 : Heap} {W' : va_W} (hx : p.tables.exec = Jvm.exec) (hb : c.code = cc) (hK : va_K D vwCl tys s) (hP : va_P D vwCl ws H) (hD : va_D A ws) (hS : va_S A H0 H locs) (q0 t0 : Nat) {cA : ClassId} {n : Nat} {f : Nat → Int64} (ha : ws[q0]? = some (a, .inl (cA, n, .inr (.inl f)))) (ht : tys[t0]? = some (cA, .long)) {i : Int32} {x : Int64} {j : Nat} (hin : vp_in i n) (hj : i.toNatClampNeg = j) (hdg : decode cc pc = .ok (.lastore, 1)) (hW' : ws.set q0 (a, .inl (cA, n, .inr (.inl (vp_updL f j x)))) = W')
    (kk : ∀ (H1 : Heap) (locs1 : List Loc), va_P D vwCl W' H1 → va_D A W' → va_S A H0 H1 locs1 → W p l e R s m args below meth c H1 locs1 cells slots Q (F0 m (pc + 1) ls rest)) : W p l e R s m args below meth c H locs cells slots Q (F0 m pc ls (.long x :: .int i :: .ref a :: rest)) := by
  subst hj; subst hW'
  exact va_last hx hb hK hP hD hS q0 t0 ha ht hin hdg kk
section ENDS
variable {S : Type} {w1 : S → va_W} {u : S}
theorem reti {post : Int32 → S → Prop} {r : Int32} (hx : p.tables.exec = Jvm.exec) (hb : c.code = cc) (hr : meth.sig.returnType = some .int) (hlocks : meth.locks = false) (hK : va_K D vwCl tys s) (hP : va_P D vwCl (w1 u) H) (hD : va_D A (w1 u)) (hS : va_S A s.heap H locs) (hdg : decode cc pc = .ok (.ireturn, 1)) (hp : post r u) :
    W p l e R s m args below meth c H locs cells slots (MQ below (va_Qi post (AT D tys A w1) A) args s cells slots A) (F0 m pc ls [.int r]) :=
  W.iret hx hb hr (fun t ht hW => ⟨⟨r, u, rfl, hp, by rw [ht]; exact hP, va_K.moved hW.alike hK, hD⟩, hS.F ht⟩) hS.2.2 hdg hlocks
theorem retz {post : Int32 → S → Prop} {r : Int32} (hx : p.tables.exec = Jvm.exec) (hb : c.code = cc) (hr : meth.sig.returnType = some .boolean) (hlocks : meth.locks = false) (hn : narrow .boolean (.int r) = .int r) (hK : va_K D vwCl tys s) (hP : va_P D vwCl (w1 u) H) (hD : va_D A (w1 u)) (hS : va_S A s.heap H locs) (hdg : decode cc pc = .ok (.ireturn, 1)) (hp : post r u) :
    W p l e R s m args below meth c H locs cells slots (MQ below (va_Qi post (AT D tys A w1) A) args s cells slots A) (F0 m pc ls [.int r]) :=
  W.zret hx hb hr hn (fun t ht hW => ⟨⟨r, u, rfl, hp, by rw [ht]; exact hP, va_K.moved hW.alike hK, hD⟩, hS.F ht⟩) hS.2.2 hdg hlocks
theorem retl {post : Int64 → S → Prop} {r : Int64} (hx : p.tables.exec = Jvm.exec) (hb : c.code = cc) (hr : meth.sig.returnType = some .long) (hlocks : meth.locks = false) (hK : va_K D vwCl tys s) (hP : va_P D vwCl (w1 u) H) (hD : va_D A (w1 u)) (hS : va_S A s.heap H locs) (hdg : decode cc pc = .ok (.lreturn, 1)) (hp : post r u) :
    W p l e R s m args below meth c H locs cells slots (MQ below (va_Ql post (AT D tys A w1) A) args s cells slots A) (F0 m pc ls [.long r]) :=
  W.lret hx hb hr (fun t ht hW => ⟨⟨r, u, rfl, hp, by rw [ht]; exact hP, va_K.moved hW.alike hK, hD⟩, hS.F ht⟩) hS.2.2 hdg hlocks
theorem retv {post : S → Prop} (hx : p.tables.exec = Jvm.exec) (hb : c.code = cc) (hr : meth.sig.returnType = none) (hlocks : meth.locks = false) (hK : va_K D vwCl tys s) (hP : va_P D vwCl (w1 u) H) (hD : va_D A (w1 u)) (hS : va_S A s.heap H locs) (hdg : decode cc pc = .ok (.return_, 1)) (hp : post u) :
    W p l e R s m args below meth c H locs cells slots (MQ below (va_Qv post (AT D tys A w1) A) args s cells slots A) (F0 m pc ls []) :=
  W.vret hx hb hr (fun t ht hW => ⟨⟨u, rfl, hp, by rw [ht]; exact hP, va_K.moved hW.alike hK, hD⟩, hS.F ht⟩) hS.2.2 hdg hlocks
theorem retr {post : S → Prop} {rt : FieldType} {ra : Nat} (hx : p.tables.exec = Jvm.exec) (hb : c.code = cc) (hr : meth.sig.returnType = some rt) (hlocks : meth.locks = false) (hrt : (∃ n, rt = .object n) ∨ ∃ t, rt = .array t) (hK : va_K D vwCl tys s) (hP : va_P D vwCl (w1 u) H) (hD : va_D A (w1 u)) (hS : va_S A s.heap H locs) (hdg : decode cc pc = .ok (.areturn, 1)) (hp : post u) :
    W p l e R s m args below meth c H locs cells slots (MQ below (va_Qr post (fun u a t => a = ra ∧ AT D tys A w1 u t) A) args s cells slots A) (F0 m pc ls [.ref ra]) :=
  W.aret hx hb hr hrt (Or.inr ⟨ra, rfl⟩) (fun t ht hW => ⟨⟨u, ra, rfl, hp, rfl, by rw [ht]; exact hP, va_K.moved hW.alike hK, hD⟩, hS.F ht⟩) hS.2.2 hdg hlocks
end ENDS
theorem kVi {S : Type} {post : Int32 → S → Prop} {w1 W' : S → va_W} {Wc : va_W} {rm : Room} {y : MethodName} {bytes : ByteArray} {maxL nL n index : Nat} {ret : Option FieldType} {own : String} {b : Nat} {As st0 : List Value} {lv : List (Nat × Value)} {T : u_T} {N : Nat} {fs : List Value}
    (hx : p.tables.exec = Jvm.exec) (hb : c.code = cc) (hml : c.maxLocals = nL) (hown : s.vm.findClass own = some m.cls) (hG : ∀ w ∈ gG, w.before args s = true) (hl : lv_has ls nL lv)
    (hM : Met l y (Cond.code y bytes maxL ret :: gG) rm (va_Pc (.ref b :: As) (PRE D tys H.size Wc)) (va_Qi post (AT D tys (va_A Wc H.size) w1) (va_A Wc H.size)) 0 0 (va_A Wc H.size)) (cw : CallW R s args own y.cls index y bytes maxL ret (Cond.code y bytes maxL ret :: gG) rm 0 0 n) (q0 ci : Nat) (hc : vwCl[ci]? = some (y.cls, T, N)) (he : ws[q0]? = some (b, .inr (ci, fs))) (hK : va_K D vwCl tys s) (hP : va_P D vwCl ws H) (hD : va_D A ws) (hS : va_S A s.heap H locs) (hA : ∀ q : Nat, s.heap.size ≤ q → A q) (hN : NST s)
    (isC : List Nat) (hC0 : isC.filterMap (fun i => ws[i]?) = Wc) (hCl : Wc.length = isC.length) (hnC : va_nd isC = true) (hl1 : ∀ u, isC.length = (w1 u).length) (hW : ∀ u, setL ws isC (w1 u) = W' u)
    (hnn : As.length = n) (hst : st0 = As.reverse ++ .ref b :: rest) (hro : (rest.map fun v => v.category).sum ≤ 8) (hdg : decode cc pc = .ok (.invokevirtual index, 3)) (hf : cells ≤ R.cells ∧ slots ≤ R.slots)
    (kk : ∀ (r : Int32) (u : S), post r u → ∀ (H1 : Heap) (locs1 : List Loc), va_P D vwCl (W' u) H1 → va_D A (W' u) → va_S A s.heap H1 locs1 → W p l e R s m args below meth c H1 locs1 cells slots Q (F0 m (pc + 3) ls (.int r :: rest))) : W p l e R s m args below meth c H locs cells slots Q (F0 m pc ls st0) := by
  have hC := pickAt isC Wc hC0 hCl
  have hF := va_free (wc := Wc) hD hS hA isC hC
  refine va_calli (va_runV ⟨hx, hb, hml, hown, hG⟩ hM cw ⟨preB, va_recv hK hP hc he, preU hN hK hP hD hnC hC⟩ rfl hnn hl.1 hst (lv_room hro) hdg hf) hS (fun q _ h => hF q h) hF (fun r u t H1 locs1 ht hvm hw hB hz1 hk1 hS1 => ?_)
  obtain ⟨hP1, hK1, hD1⟩ := hB
  rw [ht] at hP1
  obtain ⟨hP2, hD2⟩ := backAt hP hD isC hC (hl1 u) hk1 hF hP1 hD1
  rw [hW u] at hP2 hD2
  exact kk r u hw H1 locs1 hP2 hD2 hS1
theorem kVl {S : Type} {post : Int64 → S → Prop} {w1 W' : S → va_W} {Wc : va_W} {rm : Room} {y : MethodName} {bytes : ByteArray} {maxL nL n index : Nat} {ret : Option FieldType} {own : String} {b : Nat} {As st0 : List Value} {lv : List (Nat × Value)} {T : u_T} {N : Nat} {fs : List Value}
    (hx : p.tables.exec = Jvm.exec) (hb : c.code = cc) (hml : c.maxLocals = nL) (hown : s.vm.findClass own = some m.cls) (hG : ∀ w ∈ gG, w.before args s = true) (hl : lv_has ls nL lv)
    (hM : Met l y (Cond.code y bytes maxL ret :: gG) rm (va_Pc (.ref b :: As) (PRE D tys H.size Wc)) (va_Ql post (AT D tys (va_A Wc H.size) w1) (va_A Wc H.size)) 0 0 (va_A Wc H.size)) (cw : CallW R s args own y.cls index y bytes maxL ret (Cond.code y bytes maxL ret :: gG) rm 0 0 n) (q0 ci : Nat) (hc : vwCl[ci]? = some (y.cls, T, N)) (he : ws[q0]? = some (b, .inr (ci, fs))) (hK : va_K D vwCl tys s) (hP : va_P D vwCl ws H) (hD : va_D A ws) (hS : va_S A s.heap H locs) (hA : ∀ q : Nat, s.heap.size ≤ q → A q) (hN : NST s)
    (isC : List Nat) (hC0 : isC.filterMap (fun i => ws[i]?) = Wc) (hCl : Wc.length = isC.length) (hnC : va_nd isC = true) (hl1 : ∀ u, isC.length = (w1 u).length) (hW : ∀ u, setL ws isC (w1 u) = W' u)
    (hnn : As.length = n) (hst : st0 = As.reverse ++ .ref b :: rest) (hro : (rest.map fun v => v.category).sum ≤ 8) (hdg : decode cc pc = .ok (.invokevirtual index, 3)) (hf : cells ≤ R.cells ∧ slots ≤ R.slots)
    (kk : ∀ (r : Int64) (u : S), post r u → ∀ (H1 : Heap) (locs1 : List Loc), va_P D vwCl (W' u) H1 → va_D A (W' u) → va_S A s.heap H1 locs1 → W p l e R s m args below meth c H1 locs1 cells slots Q (F0 m (pc + 3) ls (.long r :: rest))) : W p l e R s m args below meth c H locs cells slots Q (F0 m pc ls st0) := by
  have hC := pickAt isC Wc hC0 hCl
  have hF := va_free (wc := Wc) hD hS hA isC hC
  refine va_calll (va_runV ⟨hx, hb, hml, hown, hG⟩ hM cw ⟨preB, va_recv hK hP hc he, preU hN hK hP hD hnC hC⟩ rfl hnn hl.1 hst (lv_room hro) hdg hf) hS (fun q _ h => hF q h) hF (fun r u t H1 locs1 ht hvm hw hB hz1 hk1 hS1 => ?_)
  obtain ⟨hP1, hK1, hD1⟩ := hB
  rw [ht] at hP1
  obtain ⟨hP2, hD2⟩ := backAt hP hD isC hC (hl1 u) hk1 hF hP1 hD1
  rw [hW u] at hP2 hD2
  exact kk r u hw H1 locs1 hP2 hD2 hS1
theorem kVv {S : Type} {post : S → Prop} {w1 W' : S → va_W} {Wc : va_W} {rm : Room} {y : MethodName} {bytes : ByteArray} {maxL nL n index : Nat} {ret : Option FieldType} {own : String} {b : Nat} {As st0 : List Value} {lv : List (Nat × Value)} {T : u_T} {N : Nat} {fs : List Value}
    (hx : p.tables.exec = Jvm.exec) (hb : c.code = cc) (hml : c.maxLocals = nL) (hown : s.vm.findClass own = some m.cls) (hG : ∀ w ∈ gG, w.before args s = true) (hl : lv_has ls nL lv)
    (hM : Met l y (Cond.code y bytes maxL ret :: gG) rm (va_Pc (.ref b :: As) (PRE D tys H.size Wc)) (va_Qv post (AT D tys (va_A Wc H.size) w1) (va_A Wc H.size)) 0 0 (va_A Wc H.size)) (cw : CallW R s args own y.cls index y bytes maxL ret (Cond.code y bytes maxL ret :: gG) rm 0 0 n) (q0 ci : Nat) (hc : vwCl[ci]? = some (y.cls, T, N)) (he : ws[q0]? = some (b, .inr (ci, fs))) (hK : va_K D vwCl tys s) (hP : va_P D vwCl ws H) (hD : va_D A ws) (hS : va_S A s.heap H locs) (hA : ∀ q : Nat, s.heap.size ≤ q → A q) (hN : NST s)
    (isC : List Nat) (hC0 : isC.filterMap (fun i => ws[i]?) = Wc) (hCl : Wc.length = isC.length) (hnC : va_nd isC = true) (hl1 : ∀ u, isC.length = (w1 u).length) (hW : ∀ u, setL ws isC (w1 u) = W' u)
    (hnn : As.length = n) (hst : st0 = As.reverse ++ .ref b :: rest) (hro : (rest.map fun v => v.category).sum ≤ 8) (hdg : decode cc pc = .ok (.invokevirtual index, 3)) (hf : cells ≤ R.cells ∧ slots ≤ R.slots)
    (kk : ∀ (u : S), post u → ∀ (H1 : Heap) (locs1 : List Loc), va_P D vwCl (W' u) H1 → va_D A (W' u) → va_S A s.heap H1 locs1 → W p l e R s m args below meth c H1 locs1 cells slots Q (F0 m (pc + 3) ls (rest))) : W p l e R s m args below meth c H locs cells slots Q (F0 m pc ls st0) := by
  have hC := pickAt isC Wc hC0 hCl
  have hF := va_free (wc := Wc) hD hS hA isC hC
  refine va_callv (va_runV ⟨hx, hb, hml, hown, hG⟩ hM cw ⟨preB, va_recv hK hP hc he, preU hN hK hP hD hnC hC⟩ rfl hnn hl.1 hst (lv_room hro) hdg hf) hS (fun q _ h => hF q h) hF (fun u t H1 locs1 ht hvm hw hB hz1 hk1 hS1 => ?_)
  obtain ⟨hP1, hK1, hD1⟩ := hB
  rw [ht] at hP1
  obtain ⟨hP2, hD2⟩ := backAt hP hD isC hC (hl1 u) hk1 hF hP1 hD1
  rw [hW u] at hP2 hD2
  exact kk u hw H1 locs1 hP2 hD2 hS1
theorem kVr {S : Type} {post : S → Prop} {w1 W' : S → va_W} {Wc : va_W} {rm : Room} {y : MethodName} {bytes : ByteArray} {maxL nL n index : Nat} {ret : Option FieldType} {own : String} {ra : Nat} {b : Nat} {As st0 : List Value} {lv : List (Nat × Value)} {T : u_T} {N : Nat} {fs : List Value}
    (hx : p.tables.exec = Jvm.exec) (hb : c.code = cc) (hml : c.maxLocals = nL) (hown : s.vm.findClass own = some m.cls) (hG : ∀ w ∈ gG, w.before args s = true) (hl : lv_has ls nL lv)
    (hM : Met l y (Cond.code y bytes maxL ret :: gG) rm (va_Pc (.ref b :: As) (PRE D tys H.size Wc)) (va_Qr post (fun u a t => a = ra ∧ AT D tys (va_A Wc H.size) w1 u t) (va_A Wc H.size)) 0 0 (va_A Wc H.size)) (cw : CallW R s args own y.cls index y bytes maxL ret (Cond.code y bytes maxL ret :: gG) rm 0 0 n) (q0 ci : Nat) (hc : vwCl[ci]? = some (y.cls, T, N)) (he : ws[q0]? = some (b, .inr (ci, fs))) (hK : va_K D vwCl tys s) (hP : va_P D vwCl ws H) (hD : va_D A ws) (hS : va_S A s.heap H locs) (hA : ∀ q : Nat, s.heap.size ≤ q → A q) (hN : NST s)
    (isC : List Nat) (hC0 : isC.filterMap (fun i => ws[i]?) = Wc) (hCl : Wc.length = isC.length) (hnC : va_nd isC = true) (hl1 : ∀ u, isC.length = (w1 u).length) (hW : ∀ u, setL ws isC (w1 u) = W' u)
    (hnn : As.length = n) (hst : st0 = As.reverse ++ .ref b :: rest) (hro : (rest.map fun v => v.category).sum ≤ 8) (hdg : decode cc pc = .ok (.invokevirtual index, 3)) (hf : cells ≤ R.cells ∧ slots ≤ R.slots)
    (kk : ∀ (u : S), post u → ∀ (H1 : Heap) (locs1 : List Loc), va_P D vwCl (W' u) H1 → va_D A (W' u) → va_S A s.heap H1 locs1 → W p l e R s m args below meth c H1 locs1 cells slots Q (F0 m (pc + 3) ls (.ref ra :: rest))) : W p l e R s m args below meth c H locs cells slots Q (F0 m pc ls st0) := by
  have hC := pickAt isC Wc hC0 hCl
  have hF := va_free (wc := Wc) hD hS hA isC hC
  refine va_callr (va_runV ⟨hx, hb, hml, hown, hG⟩ hM cw ⟨preB, va_recv hK hP hc he, preU hN hK hP hD hnC hC⟩ rfl hnn hl.1 hst (lv_room hro) hdg hf) hS (fun q _ h => hF q h) hF (fun u a9 t H1 locs1 ht hvm hw hB hz1 hk1 hS1 => ?_)
  obtain ⟨rfl, hP1, hK1, hD1⟩ := hB
  rw [ht] at hP1
  obtain ⟨hP2, hD2⟩ := backAt hP hD isC hC (hl1 u) hk1 hF hP1 hD1
  rw [hW u] at hP2 hD2
  exact kk u hw H1 locs1 hP2 hD2 hS1
theorem kSi {S : Type} {post : Int32 → S → Prop} {w1 W' : S → va_W} {Wc : va_W} {rm : Room} {y : MethodName} {bytes : ByteArray} {maxL nL n index : Nat} {ret : Option FieldType} {own : String} {b : Nat} {As st0 : List Value} {lv : List (Nat × Value)} {T : u_T} {N : Nat} {fs : List Value}
    (hx : p.tables.exec = Jvm.exec) (hb : c.code = cc) (hml : c.maxLocals = nL) (hown : s.vm.findClass own = some m.cls) (hG : ∀ w ∈ gG, w.before args s = true) (hl : lv_has ls nL lv)
    (hM : Met l y (Cond.code y bytes maxL ret :: gG) rm (va_Pc As (PRE D tys H.size Wc)) (va_Qi post (AT D tys (va_A Wc H.size) w1) (va_A Wc H.size)) 0 0 (va_A Wc H.size)) (cw : CallB R s args own index y bytes maxL ret (Cond.code y bytes maxL ret :: gG) rm 0 0 n ∧ (Cond.static y).before args s = true) (hK : va_K D vwCl tys s) (hP : va_P D vwCl ws H) (hD : va_D A ws) (hS : va_S A s.heap H locs) (hA : ∀ q : Nat, s.heap.size ≤ q → A q) (hN : NST s)
    (isC : List Nat) (hC0 : isC.filterMap (fun i => ws[i]?) = Wc) (hCl : Wc.length = isC.length) (hnC : va_nd isC = true) (hl1 : ∀ u, isC.length = (w1 u).length) (hW : ∀ u, setL ws isC (w1 u) = W' u)
    (hnn : As.length = n) (hst : st0 = As.reverse ++ rest) (hro : (rest.map fun v => v.category).sum ≤ 8) (hdg : decode cc pc = .ok (.invokestatic index, 3)) (hf : cells ≤ R.cells ∧ slots ≤ R.slots)
    (kk : ∀ (r : Int32) (u : S), post r u → ∀ (H1 : Heap) (locs1 : List Loc), va_P D vwCl (W' u) H1 → va_D A (W' u) → va_S A s.heap H1 locs1 → W p l e R s m args below meth c H1 locs1 cells slots Q (F0 m (pc + 3) ls (.int r :: rest))) : W p l e R s m args below meth c H locs cells slots Q (F0 m pc ls st0) := by
  have hC := pickAt isC Wc hC0 hCl
  have hF := va_free (wc := Wc) hD hS hA isC hC
  refine va_calli (va_runS ⟨hx, hb, hml, hown, hG⟩ hM cw ⟨preB, preU hN hK hP hD hnC hC⟩ rfl hnn hl.1 hst (lv_room hro) hdg hf) hS (fun q _ h => hF q h) hF (fun r u t H1 locs1 ht hvm hw hB hz1 hk1 hS1 => ?_)
  obtain ⟨hP1, hK1, hD1⟩ := hB
  rw [ht] at hP1
  obtain ⟨hP2, hD2⟩ := backAt hP hD isC hC (hl1 u) hk1 hF hP1 hD1
  rw [hW u] at hP2 hD2
  exact kk r u hw H1 locs1 hP2 hD2 hS1
theorem kSl {S : Type} {post : Int64 → S → Prop} {w1 W' : S → va_W} {Wc : va_W} {rm : Room} {y : MethodName} {bytes : ByteArray} {maxL nL n index : Nat} {ret : Option FieldType} {own : String} {b : Nat} {As st0 : List Value} {lv : List (Nat × Value)} {T : u_T} {N : Nat} {fs : List Value}
    (hx : p.tables.exec = Jvm.exec) (hb : c.code = cc) (hml : c.maxLocals = nL) (hown : s.vm.findClass own = some m.cls) (hG : ∀ w ∈ gG, w.before args s = true) (hl : lv_has ls nL lv)
    (hM : Met l y (Cond.code y bytes maxL ret :: gG) rm (va_Pc As (PRE D tys H.size Wc)) (va_Ql post (AT D tys (va_A Wc H.size) w1) (va_A Wc H.size)) 0 0 (va_A Wc H.size)) (cw : CallB R s args own index y bytes maxL ret (Cond.code y bytes maxL ret :: gG) rm 0 0 n ∧ (Cond.static y).before args s = true) (hK : va_K D vwCl tys s) (hP : va_P D vwCl ws H) (hD : va_D A ws) (hS : va_S A s.heap H locs) (hA : ∀ q : Nat, s.heap.size ≤ q → A q) (hN : NST s)
    (isC : List Nat) (hC0 : isC.filterMap (fun i => ws[i]?) = Wc) (hCl : Wc.length = isC.length) (hnC : va_nd isC = true) (hl1 : ∀ u, isC.length = (w1 u).length) (hW : ∀ u, setL ws isC (w1 u) = W' u)
    (hnn : As.length = n) (hst : st0 = As.reverse ++ rest) (hro : (rest.map fun v => v.category).sum ≤ 8) (hdg : decode cc pc = .ok (.invokestatic index, 3)) (hf : cells ≤ R.cells ∧ slots ≤ R.slots)
    (kk : ∀ (r : Int64) (u : S), post r u → ∀ (H1 : Heap) (locs1 : List Loc), va_P D vwCl (W' u) H1 → va_D A (W' u) → va_S A s.heap H1 locs1 → W p l e R s m args below meth c H1 locs1 cells slots Q (F0 m (pc + 3) ls (.long r :: rest))) : W p l e R s m args below meth c H locs cells slots Q (F0 m pc ls st0) := by
  have hC := pickAt isC Wc hC0 hCl
  have hF := va_free (wc := Wc) hD hS hA isC hC
  refine va_calll (va_runS ⟨hx, hb, hml, hown, hG⟩ hM cw ⟨preB, preU hN hK hP hD hnC hC⟩ rfl hnn hl.1 hst (lv_room hro) hdg hf) hS (fun q _ h => hF q h) hF (fun r u t H1 locs1 ht hvm hw hB hz1 hk1 hS1 => ?_)
  obtain ⟨hP1, hK1, hD1⟩ := hB
  rw [ht] at hP1
  obtain ⟨hP2, hD2⟩ := backAt hP hD isC hC (hl1 u) hk1 hF hP1 hD1
  rw [hW u] at hP2 hD2
  exact kk r u hw H1 locs1 hP2 hD2 hS1
theorem kSv {S : Type} {post : S → Prop} {w1 W' : S → va_W} {Wc : va_W} {rm : Room} {y : MethodName} {bytes : ByteArray} {maxL nL n index : Nat} {ret : Option FieldType} {own : String} {b : Nat} {As st0 : List Value} {lv : List (Nat × Value)} {T : u_T} {N : Nat} {fs : List Value}
    (hx : p.tables.exec = Jvm.exec) (hb : c.code = cc) (hml : c.maxLocals = nL) (hown : s.vm.findClass own = some m.cls) (hG : ∀ w ∈ gG, w.before args s = true) (hl : lv_has ls nL lv)
    (hM : Met l y (Cond.code y bytes maxL ret :: gG) rm (va_Pc As (PRE D tys H.size Wc)) (va_Qv post (AT D tys (va_A Wc H.size) w1) (va_A Wc H.size)) 0 0 (va_A Wc H.size)) (cw : CallB R s args own index y bytes maxL ret (Cond.code y bytes maxL ret :: gG) rm 0 0 n ∧ (Cond.static y).before args s = true) (hK : va_K D vwCl tys s) (hP : va_P D vwCl ws H) (hD : va_D A ws) (hS : va_S A s.heap H locs) (hA : ∀ q : Nat, s.heap.size ≤ q → A q) (hN : NST s)
    (isC : List Nat) (hC0 : isC.filterMap (fun i => ws[i]?) = Wc) (hCl : Wc.length = isC.length) (hnC : va_nd isC = true) (hl1 : ∀ u, isC.length = (w1 u).length) (hW : ∀ u, setL ws isC (w1 u) = W' u)
    (hnn : As.length = n) (hst : st0 = As.reverse ++ rest) (hro : (rest.map fun v => v.category).sum ≤ 8) (hdg : decode cc pc = .ok (.invokestatic index, 3)) (hf : cells ≤ R.cells ∧ slots ≤ R.slots)
    (kk : ∀ (u : S), post u → ∀ (H1 : Heap) (locs1 : List Loc), va_P D vwCl (W' u) H1 → va_D A (W' u) → va_S A s.heap H1 locs1 → W p l e R s m args below meth c H1 locs1 cells slots Q (F0 m (pc + 3) ls (rest))) : W p l e R s m args below meth c H locs cells slots Q (F0 m pc ls st0) := by
  have hC := pickAt isC Wc hC0 hCl
  have hF := va_free (wc := Wc) hD hS hA isC hC
  refine va_callv (va_runS ⟨hx, hb, hml, hown, hG⟩ hM cw ⟨preB, preU hN hK hP hD hnC hC⟩ rfl hnn hl.1 hst (lv_room hro) hdg hf) hS (fun q _ h => hF q h) hF (fun u t H1 locs1 ht hvm hw hB hz1 hk1 hS1 => ?_)
  obtain ⟨hP1, hK1, hD1⟩ := hB
  rw [ht] at hP1
  obtain ⟨hP2, hD2⟩ := backAt hP hD isC hC (hl1 u) hk1 hF hP1 hD1
  rw [hW u] at hP2 hD2
  exact kk u hw H1 locs1 hP2 hD2 hS1
theorem kSr {S : Type} {post : S → Prop} {w1 W' : S → va_W} {Wc : va_W} {rm : Room} {y : MethodName} {bytes : ByteArray} {maxL nL n index : Nat} {ret : Option FieldType} {own : String} {ra : Nat} {b : Nat} {As st0 : List Value} {lv : List (Nat × Value)} {T : u_T} {N : Nat} {fs : List Value}
    (hx : p.tables.exec = Jvm.exec) (hb : c.code = cc) (hml : c.maxLocals = nL) (hown : s.vm.findClass own = some m.cls) (hG : ∀ w ∈ gG, w.before args s = true) (hl : lv_has ls nL lv)
    (hM : Met l y (Cond.code y bytes maxL ret :: gG) rm (va_Pc As (PRE D tys H.size Wc)) (va_Qr post (fun u a t => a = ra ∧ AT D tys (va_A Wc H.size) w1 u t) (va_A Wc H.size)) 0 0 (va_A Wc H.size)) (cw : CallB R s args own index y bytes maxL ret (Cond.code y bytes maxL ret :: gG) rm 0 0 n ∧ (Cond.static y).before args s = true) (hK : va_K D vwCl tys s) (hP : va_P D vwCl ws H) (hD : va_D A ws) (hS : va_S A s.heap H locs) (hA : ∀ q : Nat, s.heap.size ≤ q → A q) (hN : NST s)
    (isC : List Nat) (hC0 : isC.filterMap (fun i => ws[i]?) = Wc) (hCl : Wc.length = isC.length) (hnC : va_nd isC = true) (hl1 : ∀ u, isC.length = (w1 u).length) (hW : ∀ u, setL ws isC (w1 u) = W' u)
    (hnn : As.length = n) (hst : st0 = As.reverse ++ rest) (hro : (rest.map fun v => v.category).sum ≤ 8) (hdg : decode cc pc = .ok (.invokestatic index, 3)) (hf : cells ≤ R.cells ∧ slots ≤ R.slots)
    (kk : ∀ (u : S), post u → ∀ (H1 : Heap) (locs1 : List Loc), va_P D vwCl (W' u) H1 → va_D A (W' u) → va_S A s.heap H1 locs1 → W p l e R s m args below meth c H1 locs1 cells slots Q (F0 m (pc + 3) ls (.ref ra :: rest))) : W p l e R s m args below meth c H locs cells slots Q (F0 m pc ls st0) := by
  have hC := pickAt isC Wc hC0 hCl
  have hF := va_free (wc := Wc) hD hS hA isC hC
  refine va_callr (va_runS ⟨hx, hb, hml, hown, hG⟩ hM cw ⟨preB, preU hN hK hP hD hnC hC⟩ rfl hnn hl.1 hst (lv_room hro) hdg hf) hS (fun q _ h => hF q h) hF (fun u a9 t H1 locs1 ht hvm hw hB hz1 hk1 hS1 => ?_)
  obtain ⟨rfl, hP1, hK1, hD1⟩ := hB
  rw [ht] at hP1
  obtain ⟨hP2, hD2⟩ := backAt hP hD isC hC (hl1 u) hk1 hF hP1 hD1
  rw [hW u] at hP2 hD2
  exact kk u hw H1 locs1 hP2 hD2 hS1
theorem kSNi {S : Type} {post : Int32 → S → Prop} {w1 W' : S → va_W} {Wc : va_W} {rm : Room} {y : MethodName} {bytes : ByteArray} {maxL nL n index : Nat} {ret : Option FieldType} {own : String} {host : String} {b : Nat} {As st0 : List Value} {lv : List (Nat × Value)} {T : u_T} {N : Nat} {fs : List Value}
    (hx : p.tables.exec = Jvm.exec) (hb : c.code = cc) (hml : c.maxLocals = nL) (hown : s.vm.findClass own = some m.cls) (hG : ∀ w ∈ gG, w.before args s = true) (hl : lv_has ls nL lv)
    (hM : Met l y (Cond.code y bytes maxL ret :: gG) rm (va_Pc As (PRE D tys H.size Wc)) (va_Qi post (AT D tys (va_A Wc H.size) w1) (va_A Wc H.size)) 0 0 (va_A Wc H.size)) (cw : va_CN R s args own index y host bytes maxL ret (Cond.code y bytes maxL ret :: gG) rm 0 0 n ∧ (Cond.static y).before args s = true ∧ True) (hK : va_K D vwCl tys s) (hP : va_P D vwCl ws H) (hD : va_D A ws) (hS : va_S A s.heap H locs) (hA : ∀ q : Nat, s.heap.size ≤ q → A q) (hN : NST s)
    (isC : List Nat) (hC0 : isC.filterMap (fun i => ws[i]?) = Wc) (hCl : Wc.length = isC.length) (hnC : va_nd isC = true) (hl1 : ∀ u, isC.length = (w1 u).length) (hW : ∀ u, setL ws isC (w1 u) = W' u)
    (hnn : As.length = n) (hst : st0 = As.reverse ++ rest) (hro : (rest.map fun v => v.category).sum ≤ 8) (hdg : decode cc pc = .ok (.invokestatic index, 3)) (hf : cells ≤ R.cells ∧ slots ≤ R.slots)
    (kk : ∀ (r : Int32) (u : S), post r u → ∀ (H1 : Heap) (locs1 : List Loc), va_P D vwCl (W' u) H1 → va_D A (W' u) → va_S A s.heap H1 locs1 → W p l e R s m args below meth c H1 locs1 cells slots Q (F0 m (pc + 3) ls (.int r :: rest))) : W p l e R s m args below meth c H locs cells slots Q (F0 m pc ls st0) := by
  have hC := pickAt isC Wc hC0 hCl
  have hF := va_free (wc := Wc) hD hS hA isC hC
  refine va_calli (va_runSN ⟨hx, hb, hml, hown, hG⟩ hM cw ⟨preB, preU hN hK hP hD hnC hC⟩ rfl hnn hl.1 hst (lv_room hro) hdg hf) hS (fun q _ h => hF q h) hF (fun r u t H1 locs1 ht hvm hw hB hz1 hk1 hS1 => ?_)
  obtain ⟨hP1, hK1, hD1⟩ := hB
  rw [ht] at hP1
  obtain ⟨hP2, hD2⟩ := backAt hP hD isC hC (hl1 u) hk1 hF hP1 hD1
  rw [hW u] at hP2 hD2
  exact kk r u hw H1 locs1 hP2 hD2 hS1
theorem kSNl {S : Type} {post : Int64 → S → Prop} {w1 W' : S → va_W} {Wc : va_W} {rm : Room} {y : MethodName} {bytes : ByteArray} {maxL nL n index : Nat} {ret : Option FieldType} {own : String} {host : String} {b : Nat} {As st0 : List Value} {lv : List (Nat × Value)} {T : u_T} {N : Nat} {fs : List Value}
    (hx : p.tables.exec = Jvm.exec) (hb : c.code = cc) (hml : c.maxLocals = nL) (hown : s.vm.findClass own = some m.cls) (hG : ∀ w ∈ gG, w.before args s = true) (hl : lv_has ls nL lv)
    (hM : Met l y (Cond.code y bytes maxL ret :: gG) rm (va_Pc As (PRE D tys H.size Wc)) (va_Ql post (AT D tys (va_A Wc H.size) w1) (va_A Wc H.size)) 0 0 (va_A Wc H.size)) (cw : va_CN R s args own index y host bytes maxL ret (Cond.code y bytes maxL ret :: gG) rm 0 0 n ∧ (Cond.static y).before args s = true ∧ True) (hK : va_K D vwCl tys s) (hP : va_P D vwCl ws H) (hD : va_D A ws) (hS : va_S A s.heap H locs) (hA : ∀ q : Nat, s.heap.size ≤ q → A q) (hN : NST s)
    (isC : List Nat) (hC0 : isC.filterMap (fun i => ws[i]?) = Wc) (hCl : Wc.length = isC.length) (hnC : va_nd isC = true) (hl1 : ∀ u, isC.length = (w1 u).length) (hW : ∀ u, setL ws isC (w1 u) = W' u)
    (hnn : As.length = n) (hst : st0 = As.reverse ++ rest) (hro : (rest.map fun v => v.category).sum ≤ 8) (hdg : decode cc pc = .ok (.invokestatic index, 3)) (hf : cells ≤ R.cells ∧ slots ≤ R.slots)
    (kk : ∀ (r : Int64) (u : S), post r u → ∀ (H1 : Heap) (locs1 : List Loc), va_P D vwCl (W' u) H1 → va_D A (W' u) → va_S A s.heap H1 locs1 → W p l e R s m args below meth c H1 locs1 cells slots Q (F0 m (pc + 3) ls (.long r :: rest))) : W p l e R s m args below meth c H locs cells slots Q (F0 m pc ls st0) := by
  have hC := pickAt isC Wc hC0 hCl
  have hF := va_free (wc := Wc) hD hS hA isC hC
  refine va_calll (va_runSN ⟨hx, hb, hml, hown, hG⟩ hM cw ⟨preB, preU hN hK hP hD hnC hC⟩ rfl hnn hl.1 hst (lv_room hro) hdg hf) hS (fun q _ h => hF q h) hF (fun r u t H1 locs1 ht hvm hw hB hz1 hk1 hS1 => ?_)
  obtain ⟨hP1, hK1, hD1⟩ := hB
  rw [ht] at hP1
  obtain ⟨hP2, hD2⟩ := backAt hP hD isC hC (hl1 u) hk1 hF hP1 hD1
  rw [hW u] at hP2 hD2
  exact kk r u hw H1 locs1 hP2 hD2 hS1
theorem kSNv {S : Type} {post : S → Prop} {w1 W' : S → va_W} {Wc : va_W} {rm : Room} {y : MethodName} {bytes : ByteArray} {maxL nL n index : Nat} {ret : Option FieldType} {own : String} {host : String} {b : Nat} {As st0 : List Value} {lv : List (Nat × Value)} {T : u_T} {N : Nat} {fs : List Value}
    (hx : p.tables.exec = Jvm.exec) (hb : c.code = cc) (hml : c.maxLocals = nL) (hown : s.vm.findClass own = some m.cls) (hG : ∀ w ∈ gG, w.before args s = true) (hl : lv_has ls nL lv)
    (hM : Met l y (Cond.code y bytes maxL ret :: gG) rm (va_Pc As (PRE D tys H.size Wc)) (va_Qv post (AT D tys (va_A Wc H.size) w1) (va_A Wc H.size)) 0 0 (va_A Wc H.size)) (cw : va_CN R s args own index y host bytes maxL ret (Cond.code y bytes maxL ret :: gG) rm 0 0 n ∧ (Cond.static y).before args s = true ∧ True) (hK : va_K D vwCl tys s) (hP : va_P D vwCl ws H) (hD : va_D A ws) (hS : va_S A s.heap H locs) (hA : ∀ q : Nat, s.heap.size ≤ q → A q) (hN : NST s)
    (isC : List Nat) (hC0 : isC.filterMap (fun i => ws[i]?) = Wc) (hCl : Wc.length = isC.length) (hnC : va_nd isC = true) (hl1 : ∀ u, isC.length = (w1 u).length) (hW : ∀ u, setL ws isC (w1 u) = W' u)
    (hnn : As.length = n) (hst : st0 = As.reverse ++ rest) (hro : (rest.map fun v => v.category).sum ≤ 8) (hdg : decode cc pc = .ok (.invokestatic index, 3)) (hf : cells ≤ R.cells ∧ slots ≤ R.slots)
    (kk : ∀ (u : S), post u → ∀ (H1 : Heap) (locs1 : List Loc), va_P D vwCl (W' u) H1 → va_D A (W' u) → va_S A s.heap H1 locs1 → W p l e R s m args below meth c H1 locs1 cells slots Q (F0 m (pc + 3) ls (rest))) : W p l e R s m args below meth c H locs cells slots Q (F0 m pc ls st0) := by
  have hC := pickAt isC Wc hC0 hCl
  have hF := va_free (wc := Wc) hD hS hA isC hC
  refine va_callv (va_runSN ⟨hx, hb, hml, hown, hG⟩ hM cw ⟨preB, preU hN hK hP hD hnC hC⟩ rfl hnn hl.1 hst (lv_room hro) hdg hf) hS (fun q _ h => hF q h) hF (fun u t H1 locs1 ht hvm hw hB hz1 hk1 hS1 => ?_)
  obtain ⟨hP1, hK1, hD1⟩ := hB
  rw [ht] at hP1
  obtain ⟨hP2, hD2⟩ := backAt hP hD isC hC (hl1 u) hk1 hF hP1 hD1
  rw [hW u] at hP2 hD2
  exact kk u hw H1 locs1 hP2 hD2 hS1
theorem kSNr {S : Type} {post : S → Prop} {w1 W' : S → va_W} {Wc : va_W} {rm : Room} {y : MethodName} {bytes : ByteArray} {maxL nL n index : Nat} {ret : Option FieldType} {own : String} {host : String} {ra : Nat} {b : Nat} {As st0 : List Value} {lv : List (Nat × Value)} {T : u_T} {N : Nat} {fs : List Value}
    (hx : p.tables.exec = Jvm.exec) (hb : c.code = cc) (hml : c.maxLocals = nL) (hown : s.vm.findClass own = some m.cls) (hG : ∀ w ∈ gG, w.before args s = true) (hl : lv_has ls nL lv)
    (hM : Met l y (Cond.code y bytes maxL ret :: gG) rm (va_Pc As (PRE D tys H.size Wc)) (va_Qr post (fun u a t => a = ra ∧ AT D tys (va_A Wc H.size) w1 u t) (va_A Wc H.size)) 0 0 (va_A Wc H.size)) (cw : va_CN R s args own index y host bytes maxL ret (Cond.code y bytes maxL ret :: gG) rm 0 0 n ∧ (Cond.static y).before args s = true ∧ True) (hK : va_K D vwCl tys s) (hP : va_P D vwCl ws H) (hD : va_D A ws) (hS : va_S A s.heap H locs) (hA : ∀ q : Nat, s.heap.size ≤ q → A q) (hN : NST s)
    (isC : List Nat) (hC0 : isC.filterMap (fun i => ws[i]?) = Wc) (hCl : Wc.length = isC.length) (hnC : va_nd isC = true) (hl1 : ∀ u, isC.length = (w1 u).length) (hW : ∀ u, setL ws isC (w1 u) = W' u)
    (hnn : As.length = n) (hst : st0 = As.reverse ++ rest) (hro : (rest.map fun v => v.category).sum ≤ 8) (hdg : decode cc pc = .ok (.invokestatic index, 3)) (hf : cells ≤ R.cells ∧ slots ≤ R.slots)
    (kk : ∀ (u : S), post u → ∀ (H1 : Heap) (locs1 : List Loc), va_P D vwCl (W' u) H1 → va_D A (W' u) → va_S A s.heap H1 locs1 → W p l e R s m args below meth c H1 locs1 cells slots Q (F0 m (pc + 3) ls (.ref ra :: rest))) : W p l e R s m args below meth c H locs cells slots Q (F0 m pc ls st0) := by
  have hC := pickAt isC Wc hC0 hCl
  have hF := va_free (wc := Wc) hD hS hA isC hC
  refine va_callr (va_runSN ⟨hx, hb, hml, hown, hG⟩ hM cw ⟨preB, preU hN hK hP hD hnC hC⟩ rfl hnn hl.1 hst (lv_room hro) hdg hf) hS (fun q _ h => hF q h) hF (fun u a9 t H1 locs1 ht hvm hw hB hz1 hk1 hS1 => ?_)
  obtain ⟨rfl, hP1, hK1, hD1⟩ := hB
  rw [ht] at hP1
  obtain ⟨hP2, hD2⟩ := backAt hP hD isC hC (hl1 u) hk1 hF hP1 hD1
  rw [hW u] at hP2 hD2
  exact kk u hw H1 locs1 hP2 hD2 hS1
/-- the callee's world is the caller's -/
theorem kFi {S : Type} {post : Int32 → S → Prop} {w1 : S → va_W} {rm : Room} {y : MethodName} {bytes : ByteArray} {maxL nL n index : Nat} {ret : Option FieldType} {own : String} {b : Nat} {As st0 : List Value} {lv : List (Nat × Value)} {T : u_T} {N : Nat} {fs : List Value}
    (hx : p.tables.exec = Jvm.exec) (hb : c.code = cc) (hml : c.maxLocals = nL) (hown : s.vm.findClass own = some m.cls) (hG : ∀ w ∈ gG, w.before args s = true) (hl : lv_has ls nL lv)
    (hM : Met l y (Cond.code y bytes maxL ret :: gG) rm (va_Pc (.ref b :: As) (PRE D tys H.size ws)) (va_Qi post (AT D tys (va_A ws H.size) w1) (va_A ws H.size)) 0 0 (va_A ws H.size)) (cw : CallW R s args own y.cls index y bytes maxL ret (Cond.code y bytes maxL ret :: gG) rm 0 0 n) (q0 ci : Nat) (hc : vwCl[ci]? = some (y.cls, T, N)) (he : ws[q0]? = some (b, .inr (ci, fs))) (hK : va_K D vwCl tys s) (hP : va_P D vwCl ws H) (hD : va_D A ws) (hS : va_S A s.heap H locs) (hA : ∀ q : Nat, s.heap.size ≤ q → A q) (hN : NST s)
    (hnn : As.length = n) (hst : st0 = As.reverse ++ .ref b :: rest) (hro : (rest.map fun v => v.category).sum ≤ 8) (hdg : decode cc pc = .ok (.invokevirtual index, 3)) (hf : cells ≤ R.cells ∧ slots ≤ R.slots)
    (kk : ∀ (r : Int32) (u : S), post r u → ∀ (H1 : Heap) (locs1 : List Loc), va_P D vwCl (w1 u) H1 → va_D A (w1 u) → va_S A s.heap H1 locs1 → W p l e R s m args below meth c H1 locs1 cells slots Q (F0 m (pc + 3) ls (.int r :: rest))) : W p l e R s m args below meth c H locs cells slots Q (F0 m pc ls st0) := by
  have hF : ∀ q, va_A ws H.size q → A q := fun q h => by
    rcases h with ⟨k, e, h⟩ | h
    · exact hD.2 k _ h
    · exact hA q (Nat.le_trans hS.1 h)
  refine va_calli (va_runV ⟨hx, hb, hml, hown, hG⟩ hM cw ⟨preB, va_recv hK hP hc he, fun U hU hW => ⟨rfl, by rw [hU], by rw [hU]; exact hP, va_K.moved hW.alike hK, hD.weaken (fun _ _ _ _ => trivial), NST.warm hW hN⟩⟩ rfl hnn hl.1 hst (lv_room hro) hdg hf) hS (fun q _ h => hF q h) hF (fun r u t H1 locs1 ht hvm hw hB hz1 hk1 hS1 => ?_)
  obtain ⟨hP1, hK1, hD1⟩ := hB
  rw [ht] at hP1
  exact kk r u hw H1 locs1 hP1 (hD1.weaken (fun k q _ h => hF q.1 h)) hS1
/-- the callee's world is the caller's -/
theorem kFl {S : Type} {post : Int64 → S → Prop} {w1 : S → va_W} {rm : Room} {y : MethodName} {bytes : ByteArray} {maxL nL n index : Nat} {ret : Option FieldType} {own : String} {b : Nat} {As st0 : List Value} {lv : List (Nat × Value)} {T : u_T} {N : Nat} {fs : List Value}
    (hx : p.tables.exec = Jvm.exec) (hb : c.code = cc) (hml : c.maxLocals = nL) (hown : s.vm.findClass own = some m.cls) (hG : ∀ w ∈ gG, w.before args s = true) (hl : lv_has ls nL lv)
    (hM : Met l y (Cond.code y bytes maxL ret :: gG) rm (va_Pc (.ref b :: As) (PRE D tys H.size ws)) (va_Ql post (AT D tys (va_A ws H.size) w1) (va_A ws H.size)) 0 0 (va_A ws H.size)) (cw : CallW R s args own y.cls index y bytes maxL ret (Cond.code y bytes maxL ret :: gG) rm 0 0 n) (q0 ci : Nat) (hc : vwCl[ci]? = some (y.cls, T, N)) (he : ws[q0]? = some (b, .inr (ci, fs))) (hK : va_K D vwCl tys s) (hP : va_P D vwCl ws H) (hD : va_D A ws) (hS : va_S A s.heap H locs) (hA : ∀ q : Nat, s.heap.size ≤ q → A q) (hN : NST s)
    (hnn : As.length = n) (hst : st0 = As.reverse ++ .ref b :: rest) (hro : (rest.map fun v => v.category).sum ≤ 8) (hdg : decode cc pc = .ok (.invokevirtual index, 3)) (hf : cells ≤ R.cells ∧ slots ≤ R.slots)
    (kk : ∀ (r : Int64) (u : S), post r u → ∀ (H1 : Heap) (locs1 : List Loc), va_P D vwCl (w1 u) H1 → va_D A (w1 u) → va_S A s.heap H1 locs1 → W p l e R s m args below meth c H1 locs1 cells slots Q (F0 m (pc + 3) ls (.long r :: rest))) : W p l e R s m args below meth c H locs cells slots Q (F0 m pc ls st0) := by
  have hF : ∀ q, va_A ws H.size q → A q := fun q h => by
    rcases h with ⟨k, e, h⟩ | h
    · exact hD.2 k _ h
    · exact hA q (Nat.le_trans hS.1 h)
  refine va_calll (va_runV ⟨hx, hb, hml, hown, hG⟩ hM cw ⟨preB, va_recv hK hP hc he, fun U hU hW => ⟨rfl, by rw [hU], by rw [hU]; exact hP, va_K.moved hW.alike hK, hD.weaken (fun _ _ _ _ => trivial), NST.warm hW hN⟩⟩ rfl hnn hl.1 hst (lv_room hro) hdg hf) hS (fun q _ h => hF q h) hF (fun r u t H1 locs1 ht hvm hw hB hz1 hk1 hS1 => ?_)
  obtain ⟨hP1, hK1, hD1⟩ := hB
  rw [ht] at hP1
  exact kk r u hw H1 locs1 hP1 (hD1.weaken (fun k q _ h => hF q.1 h)) hS1
/-- the callee's world is the caller's -/
theorem kFv {S : Type} {post : S → Prop} {w1 : S → va_W} {rm : Room} {y : MethodName} {bytes : ByteArray} {maxL nL n index : Nat} {ret : Option FieldType} {own : String} {b : Nat} {As st0 : List Value} {lv : List (Nat × Value)} {T : u_T} {N : Nat} {fs : List Value}
    (hx : p.tables.exec = Jvm.exec) (hb : c.code = cc) (hml : c.maxLocals = nL) (hown : s.vm.findClass own = some m.cls) (hG : ∀ w ∈ gG, w.before args s = true) (hl : lv_has ls nL lv)
    (hM : Met l y (Cond.code y bytes maxL ret :: gG) rm (va_Pc (.ref b :: As) (PRE D tys H.size ws)) (va_Qv post (AT D tys (va_A ws H.size) w1) (va_A ws H.size)) 0 0 (va_A ws H.size)) (cw : CallW R s args own y.cls index y bytes maxL ret (Cond.code y bytes maxL ret :: gG) rm 0 0 n) (q0 ci : Nat) (hc : vwCl[ci]? = some (y.cls, T, N)) (he : ws[q0]? = some (b, .inr (ci, fs))) (hK : va_K D vwCl tys s) (hP : va_P D vwCl ws H) (hD : va_D A ws) (hS : va_S A s.heap H locs) (hA : ∀ q : Nat, s.heap.size ≤ q → A q) (hN : NST s)
    (hnn : As.length = n) (hst : st0 = As.reverse ++ .ref b :: rest) (hro : (rest.map fun v => v.category).sum ≤ 8) (hdg : decode cc pc = .ok (.invokevirtual index, 3)) (hf : cells ≤ R.cells ∧ slots ≤ R.slots)
    (kk : ∀ (u : S), post u → ∀ (H1 : Heap) (locs1 : List Loc), va_P D vwCl (w1 u) H1 → va_D A (w1 u) → va_S A s.heap H1 locs1 → W p l e R s m args below meth c H1 locs1 cells slots Q (F0 m (pc + 3) ls (rest))) : W p l e R s m args below meth c H locs cells slots Q (F0 m pc ls st0) := by
  have hF : ∀ q, va_A ws H.size q → A q := fun q h => by
    rcases h with ⟨k, e, h⟩ | h
    · exact hD.2 k _ h
    · exact hA q (Nat.le_trans hS.1 h)
  refine va_callv (va_runV ⟨hx, hb, hml, hown, hG⟩ hM cw ⟨preB, va_recv hK hP hc he, fun U hU hW => ⟨rfl, by rw [hU], by rw [hU]; exact hP, va_K.moved hW.alike hK, hD.weaken (fun _ _ _ _ => trivial), NST.warm hW hN⟩⟩ rfl hnn hl.1 hst (lv_room hro) hdg hf) hS (fun q _ h => hF q h) hF (fun u t H1 locs1 ht hvm hw hB hz1 hk1 hS1 => ?_)
  obtain ⟨hP1, hK1, hD1⟩ := hB
  rw [ht] at hP1
  exact kk u hw H1 locs1 hP1 (hD1.weaken (fun k q _ h => hF q.1 h)) hS1
/-- the callee's world is the caller's -/
theorem kFr {S : Type} {post : S → Prop} {w1 : S → va_W} {rm : Room} {y : MethodName} {bytes : ByteArray} {maxL nL n index : Nat} {ret : Option FieldType} {own : String} {ra : Nat} {b : Nat} {As st0 : List Value} {lv : List (Nat × Value)} {T : u_T} {N : Nat} {fs : List Value}
    (hx : p.tables.exec = Jvm.exec) (hb : c.code = cc) (hml : c.maxLocals = nL) (hown : s.vm.findClass own = some m.cls) (hG : ∀ w ∈ gG, w.before args s = true) (hl : lv_has ls nL lv)
    (hM : Met l y (Cond.code y bytes maxL ret :: gG) rm (va_Pc (.ref b :: As) (PRE D tys H.size ws)) (va_Qr post (fun u a t => a = ra ∧ AT D tys (va_A ws H.size) w1 u t) (va_A ws H.size)) 0 0 (va_A ws H.size)) (cw : CallW R s args own y.cls index y bytes maxL ret (Cond.code y bytes maxL ret :: gG) rm 0 0 n) (q0 ci : Nat) (hc : vwCl[ci]? = some (y.cls, T, N)) (he : ws[q0]? = some (b, .inr (ci, fs))) (hK : va_K D vwCl tys s) (hP : va_P D vwCl ws H) (hD : va_D A ws) (hS : va_S A s.heap H locs) (hA : ∀ q : Nat, s.heap.size ≤ q → A q) (hN : NST s)
    (hnn : As.length = n) (hst : st0 = As.reverse ++ .ref b :: rest) (hro : (rest.map fun v => v.category).sum ≤ 8) (hdg : decode cc pc = .ok (.invokevirtual index, 3)) (hf : cells ≤ R.cells ∧ slots ≤ R.slots)
    (kk : ∀ (u : S), post u → ∀ (H1 : Heap) (locs1 : List Loc), va_P D vwCl (w1 u) H1 → va_D A (w1 u) → va_S A s.heap H1 locs1 → W p l e R s m args below meth c H1 locs1 cells slots Q (F0 m (pc + 3) ls (.ref ra :: rest))) : W p l e R s m args below meth c H locs cells slots Q (F0 m pc ls st0) := by
  have hF : ∀ q, va_A ws H.size q → A q := fun q h => by
    rcases h with ⟨k, e, h⟩ | h
    · exact hD.2 k _ h
    · exact hA q (Nat.le_trans hS.1 h)
  refine va_callr (va_runV ⟨hx, hb, hml, hown, hG⟩ hM cw ⟨preB, va_recv hK hP hc he, fun U hU hW => ⟨rfl, by rw [hU], by rw [hU]; exact hP, va_K.moved hW.alike hK, hD.weaken (fun _ _ _ _ => trivial), NST.warm hW hN⟩⟩ rfl hnn hl.1 hst (lv_room hro) hdg hf) hS (fun q _ h => hF q h) hF (fun u a9 t H1 locs1 ht hvm hw hB hz1 hk1 hS1 => ?_)
  obtain ⟨rfl, hP1, hK1, hD1⟩ := hB
  rw [ht] at hP1
  exact kk u hw H1 locs1 hP1 (hD1.weaken (fun k q _ h => hF q.1 h)) hS1
theorem k0Si {post : Int32 → Unit → Prop} {rm : Room} {y : MethodName} {bytes : ByteArray} {maxL nL n index : Nat} {ret : Option FieldType} {own : String} {As st0 : List Value} {lv : List (Nat × Value)}
    (hx : p.tables.exec = Jvm.exec) (hb : c.code = cc) (hml : c.maxLocals = nL) (hown : s.vm.findClass own = some m.cls) (hG : ∀ w ∈ gG, w.before args s = true) (hl : lv_has ls nL lv)
    (hM : Met l y (Cond.code y bytes maxL ret :: gG) rm (va_Pc As (PRE D tys H.size [])) (va_Qi post (AT D tys (va_A [] H.size) (fun _ : Unit => [])) (va_A [] H.size)) 0 0 (va_A [] H.size)) (cw : CallB R s args own index y bytes maxL ret (Cond.code y bytes maxL ret :: gG) rm 0 0 n ∧ (Cond.static y).before args s = true) (hK : va_K D vwCl tys s) (hP : va_P D vwCl ws H) (hD : va_D A ws) (hS : va_S A s.heap H locs) (hA : ∀ q : Nat, s.heap.size ≤ q → A q) (hN : NST s)
    (hnn : As.length = n) (hst : st0 = As.reverse ++ rest) (hro : (rest.map fun v => v.category).sum ≤ 8) (hdg : decode cc pc = .ok (.invokestatic index, 3)) (hf : cells ≤ R.cells ∧ slots ≤ R.slots)
    (kk : ∀ (r : Int32), post r () → ∀ (H1 : Heap) (locs1 : List Loc), va_P D vwCl ws H1 → va_D A ws → va_S A s.heap H1 locs1 → W p l e R s m args below meth c H1 locs1 cells slots Q (F0 m (pc + 3) ls (.int r :: rest))) : W p l e R s m args below meth c H locs cells slots Q (F0 m pc ls st0) := by
  have hF := va_free (wc := []) hD hS hA [] rfl
  refine va_calli (va_runS ⟨hx, hb, hml, hown, hG⟩ hM cw ⟨preB, preU (isC := []) hN hK hP hD rfl rfl⟩ rfl hnn hl.1 hst (lv_room hro) hdg hf) hS (fun q _ h => hF q h) hF (fun r u t H1 locs1 ht hvm hw hB hz1 hk1 hS1 => ?_)
  refine kk r hw H1 locs1 (hP.kept (fun k q hk => hk1 q.1 (hP k q hk).lt ?_)) hD hS1
  intro h
  rcases h with ⟨k2, e2, h2⟩ | h2
  · simp at h2
  · have := (hP k q hk).lt; omega
theorem k0Sl {post : Int64 → Unit → Prop} {rm : Room} {y : MethodName} {bytes : ByteArray} {maxL nL n index : Nat} {ret : Option FieldType} {own : String} {As st0 : List Value} {lv : List (Nat × Value)}
    (hx : p.tables.exec = Jvm.exec) (hb : c.code = cc) (hml : c.maxLocals = nL) (hown : s.vm.findClass own = some m.cls) (hG : ∀ w ∈ gG, w.before args s = true) (hl : lv_has ls nL lv)
    (hM : Met l y (Cond.code y bytes maxL ret :: gG) rm (va_Pc As (PRE D tys H.size [])) (va_Ql post (AT D tys (va_A [] H.size) (fun _ : Unit => [])) (va_A [] H.size)) 0 0 (va_A [] H.size)) (cw : CallB R s args own index y bytes maxL ret (Cond.code y bytes maxL ret :: gG) rm 0 0 n ∧ (Cond.static y).before args s = true) (hK : va_K D vwCl tys s) (hP : va_P D vwCl ws H) (hD : va_D A ws) (hS : va_S A s.heap H locs) (hA : ∀ q : Nat, s.heap.size ≤ q → A q) (hN : NST s)
    (hnn : As.length = n) (hst : st0 = As.reverse ++ rest) (hro : (rest.map fun v => v.category).sum ≤ 8) (hdg : decode cc pc = .ok (.invokestatic index, 3)) (hf : cells ≤ R.cells ∧ slots ≤ R.slots)
    (kk : ∀ (r : Int64), post r () → ∀ (H1 : Heap) (locs1 : List Loc), va_P D vwCl ws H1 → va_D A ws → va_S A s.heap H1 locs1 → W p l e R s m args below meth c H1 locs1 cells slots Q (F0 m (pc + 3) ls (.long r :: rest))) : W p l e R s m args below meth c H locs cells slots Q (F0 m pc ls st0) := by
  have hF := va_free (wc := []) hD hS hA [] rfl
  refine va_calll (va_runS ⟨hx, hb, hml, hown, hG⟩ hM cw ⟨preB, preU (isC := []) hN hK hP hD rfl rfl⟩ rfl hnn hl.1 hst (lv_room hro) hdg hf) hS (fun q _ h => hF q h) hF (fun r u t H1 locs1 ht hvm hw hB hz1 hk1 hS1 => ?_)
  refine kk r hw H1 locs1 (hP.kept (fun k q hk => hk1 q.1 (hP k q hk).lt ?_)) hD hS1
  intro h
  rcases h with ⟨k2, e2, h2⟩ | h2
  · simp at h2
  · have := (hP k q hk).lt; omega
theorem k0SNi {post : Int32 → Unit → Prop} {rm : Room} {y : MethodName} {bytes : ByteArray} {maxL nL n index : Nat} {ret : Option FieldType} {own : String} {host : String} {As st0 : List Value} {lv : List (Nat × Value)}
    (hx : p.tables.exec = Jvm.exec) (hb : c.code = cc) (hml : c.maxLocals = nL) (hown : s.vm.findClass own = some m.cls) (hG : ∀ w ∈ gG, w.before args s = true) (hl : lv_has ls nL lv)
    (hM : Met l y (Cond.code y bytes maxL ret :: gG) rm (va_Pc As (PRE D tys H.size [])) (va_Qi post (AT D tys (va_A [] H.size) (fun _ : Unit => [])) (va_A [] H.size)) 0 0 (va_A [] H.size)) (cw : va_CN R s args own index y host bytes maxL ret (Cond.code y bytes maxL ret :: gG) rm 0 0 n ∧ (Cond.static y).before args s = true ∧ True) (hK : va_K D vwCl tys s) (hP : va_P D vwCl ws H) (hD : va_D A ws) (hS : va_S A s.heap H locs) (hA : ∀ q : Nat, s.heap.size ≤ q → A q) (hN : NST s)
    (hnn : As.length = n) (hst : st0 = As.reverse ++ rest) (hro : (rest.map fun v => v.category).sum ≤ 8) (hdg : decode cc pc = .ok (.invokestatic index, 3)) (hf : cells ≤ R.cells ∧ slots ≤ R.slots)
    (kk : ∀ (r : Int32), post r () → ∀ (H1 : Heap) (locs1 : List Loc), va_P D vwCl ws H1 → va_D A ws → va_S A s.heap H1 locs1 → W p l e R s m args below meth c H1 locs1 cells slots Q (F0 m (pc + 3) ls (.int r :: rest))) : W p l e R s m args below meth c H locs cells slots Q (F0 m pc ls st0) := by
  have hF := va_free (wc := []) hD hS hA [] rfl
  refine va_calli (va_runSN ⟨hx, hb, hml, hown, hG⟩ hM cw ⟨preB, preU (isC := []) hN hK hP hD rfl rfl⟩ rfl hnn hl.1 hst (lv_room hro) hdg hf) hS (fun q _ h => hF q h) hF (fun r u t H1 locs1 ht hvm hw hB hz1 hk1 hS1 => ?_)
  refine kk r hw H1 locs1 (hP.kept (fun k q hk => hk1 q.1 (hP k q hk).lt ?_)) hD hS1
  intro h
  rcases h with ⟨k2, e2, h2⟩ | h2
  · simp at h2
  · have := (hP k q hk).lt; omega
theorem k0SNl {post : Int64 → Unit → Prop} {rm : Room} {y : MethodName} {bytes : ByteArray} {maxL nL n index : Nat} {ret : Option FieldType} {own : String} {host : String} {As st0 : List Value} {lv : List (Nat × Value)}
    (hx : p.tables.exec = Jvm.exec) (hb : c.code = cc) (hml : c.maxLocals = nL) (hown : s.vm.findClass own = some m.cls) (hG : ∀ w ∈ gG, w.before args s = true) (hl : lv_has ls nL lv)
    (hM : Met l y (Cond.code y bytes maxL ret :: gG) rm (va_Pc As (PRE D tys H.size [])) (va_Ql post (AT D tys (va_A [] H.size) (fun _ : Unit => [])) (va_A [] H.size)) 0 0 (va_A [] H.size)) (cw : va_CN R s args own index y host bytes maxL ret (Cond.code y bytes maxL ret :: gG) rm 0 0 n ∧ (Cond.static y).before args s = true ∧ True) (hK : va_K D vwCl tys s) (hP : va_P D vwCl ws H) (hD : va_D A ws) (hS : va_S A s.heap H locs) (hA : ∀ q : Nat, s.heap.size ≤ q → A q) (hN : NST s)
    (hnn : As.length = n) (hst : st0 = As.reverse ++ rest) (hro : (rest.map fun v => v.category).sum ≤ 8) (hdg : decode cc pc = .ok (.invokestatic index, 3)) (hf : cells ≤ R.cells ∧ slots ≤ R.slots)
    (kk : ∀ (r : Int64), post r () → ∀ (H1 : Heap) (locs1 : List Loc), va_P D vwCl ws H1 → va_D A ws → va_S A s.heap H1 locs1 → W p l e R s m args below meth c H1 locs1 cells slots Q (F0 m (pc + 3) ls (.long r :: rest))) : W p l e R s m args below meth c H locs cells slots Q (F0 m pc ls st0) := by
  have hF := va_free (wc := []) hD hS hA [] rfl
  refine va_calll (va_runSN ⟨hx, hb, hml, hown, hG⟩ hM cw ⟨preB, preU (isC := []) hN hK hP hD rfl rfl⟩ rfl hnn hl.1 hst (lv_room hro) hdg hf) hS (fun q _ h => hF q h) hF (fun r u t H1 locs1 ht hvm hw hB hz1 hk1 hS1 => ?_)
  refine kk r hw H1 locs1 (hP.kept (fun k q hk => hk1 q.1 (hP k q hk).lt ?_)) hD hS1
  intro h
  rcases h with ⟨k2, e2, h2⟩ | h2
  · simp at h2
  · have := (hP k q hk).lt; omega
end RW
theorem inX0 : ∀ w ∈ u_ws RX0 TX0 4, w ∈ gG := by decide +kernel
theorem inX1 : ∀ w ∈ u_ws RX1 TX1 11, w ∈ gG := by decide +kernel
theorem inX2 : ∀ w ∈ u_ws RX2 TX2 3, w ∈ gG := by decide +kernel
theorem inX3 : ∀ w ∈ u_ws RX3 TX3 4, w ∈ gG := by decide +kernel
theorem inX4 : ∀ w ∈ u_ws RX4 TX4 15, w ∈ gG := by decide +kernel
theorem inX5 : ∀ w ∈ u_ws RX5 TX5 37, w ∈ gG := by decide +kernel
theorem nl0 {s : State} (hN : NST s) : va_Nw (.methodLinkNest RX4 9 yX3_init "RingProcessor") s := hN (RX4, 9, yX3_init, "RingProcessor") (List.mem_of_getElem? (i := 0) rfl)
theorem nl1 {s : State} (hN : NST s) : va_Nw (.methodLinkNest RX3 17 yX0_init "RingProcessor") s := hN (RX3, 17, yX0_init, "RingProcessor") (List.mem_of_getElem? (i := 1) rfl)
theorem nl2 {s : State} (hN : NST s) : va_Nw (.methodLinkNest RX3 27 yX1_init "RingProcessor") s := hN (RX3, 27, yX1_init, "RingProcessor") (List.mem_of_getElem? (i := 2) rfl)
theorem nl3 {s : State} (hN : NST s) : va_Nw (.methodLinkNest RX4 22 yX2_init "RingProcessor") s := hN (RX4, 22, yX2_init, "RingProcessor") (List.mem_of_getElem? (i := 3) rfl)
theorem nl4 {s : State} (hN : NST s) : va_Nw (.methodLinkNest RX2 21 yX4_field "RingProcessor") s := hN (RX2, 21, yX4_field, "RingProcessor") (List.mem_of_getElem? (i := 4) rfl)
theorem nl5 {s : State} (hN : NST s) : va_Nw (.methodLinkNest RX3 68 yX4_sum "RingProcessor") s := hN (RX3, 68, yX4_sum, "RingProcessor") (List.mem_of_getElem? (i := 5) rfl)
theorem nl6 {s : State} (hN : NST s) : va_Nw (.methodLinkNest RX3 48 yX4_faultOf "RingProcessor") s := hN (RX3, 48, yX4_faultOf, "RingProcessor") (List.mem_of_getElem? (i := 6) rfl)
end
section
/-! ranges of numbers, and what keeps them -/
abbrev i2 (x : Int32) : Prop := 0 ≤ x.toInt ∧ x.toInt ≤ 3
abbrev i3 (x : Int32) : Prop := 0 ≤ x.toInt ∧ x.toInt ≤ 7
abbrev i4 (x : Int32) : Prop := 0 ≤ x.toInt ∧ x.toInt ≤ 15
abbrev i5 (x : Int32) : Prop := 0 ≤ x.toInt ∧ x.toInt ≤ 4
abbrev i12 (x : Int32) : Prop := 0 ≤ x.toInt ∧ x.toInt ≤ 4095
abbrev i36 (x : Int64) : Prop := 0 ≤ x.toInt ∧ x.toInt ≤ 68719476735
abbrev iX3 (f : Nat → Int32) : Prop := ∀ i, i3 (f i)
abbrev iX4 (f : Nat → Int32) : Prop := ∀ i, i4 (f i)
abbrev iX12 (f : Nat → Int32) : Prop := ∀ i, i12 (f i)
abbrev iW (f : Nat → Int64) : Prop := ∀ i, i36 (f i)
theorem w_i2_i3 {x : Int32} (h : i2 x) : i3 x := ⟨h.1, by have := h.2; omega⟩
theorem w_i2_i4 {x : Int32} (h : i2 x) : i4 x := ⟨h.1, by have := h.2; omega⟩
theorem w_i3_i4 {x : Int32} (h : i3 x) : i4 x := ⟨h.1, by have := h.2; omega⟩
theorem w_i2_i12 {x : Int32} (h : i2 x) : i12 x := ⟨h.1, by have := h.2; omega⟩
theorem w_i3_i12 {x : Int32} (h : i3 x) : i12 x := ⟨h.1, by have := h.2; omega⟩
theorem w_i4_i12 {x : Int32} (h : i4 x) : i12 x := ⟨h.1, by have := h.2; omega⟩
theorem w_i5_i12 {x : Int32} (h : i5 x) : i12 x := ⟨h.1, by have := h.2; omega⟩
theorem mkr (x : Int32) {m : Int32} (k : Nat) (hm : m.toBitVec.toNat = 2 ^ k - 1) (hk : k ≤ 30) : 0 ≤ (x &&& m).toInt ∧ (x &&& m).toInt < 2 ^ k := by
  have h := vp_in_iff.mp (pk_andIn x k hm hk)
  exact ⟨h.1, by simpa using h.2⟩
theorem mk2 (x : Int32) : i2 (x &&& 3) := by have h := mkr x (m := 3) 2 (by decide) (by decide); exact ⟨h.1, by have := h.2; omega⟩
theorem mk3 (x : Int32) : i3 (x &&& 7) := by have h := mkr x (m := 7) 3 (by decide) (by decide); exact ⟨h.1, by have := h.2; omega⟩
theorem mk4 (x : Int32) : i4 (x &&& 15) := by have h := mkr x (m := 15) 4 (by decide) (by decide); exact ⟨h.1, by have := h.2; omega⟩
theorem mk12 (x : Int32) : i12 (x &&& 4095) := by have h := mkr x (m := 4095) 12 (by decide) (by decide); exact ⟨h.1, by have := h.2; omega⟩
theorem mkW (x : Int64) : i36 (x &&& 68719476735) := by
  have e : (x &&& 68719476735).toBitVec.toNat = x.toBitVec.toNat &&& 68719476735 := by
    rw [Int64.toBitVec_and, BitVec.toNat_and, show (Int64.toBitVec 68719476735).toNat = 68719476735 from by decide]
  have h : x.toBitVec.toNat &&& 68719476735 = x.toBitVec.toNat % 2 ^ 36 := Nat.and_two_pow_sub_one_eq_mod _ 36
  have hlt : (x &&& 68719476735).toBitVec.toNat < 2 ^ 36 := by rw [e, h]; exact Nat.mod_lt _ (by decide)
  have hi : (x &&& 68719476735).toInt = ((x &&& 68719476735).toBitVec.toNat : Int) := by
    show (x &&& 68719476735).toBitVec.toInt = _
    rw [BitVec.toInt_eq_toNat_cond, if_pos (by omega)]
  rw [i36, hi]
  omega
theorem mx3 {x y : Int32} (h : i3 x) (k : i3 y) : i3 (if x < y then y else x) := by split <;> assumption
theorem up12 {f : Nat → Int32} {j : Nat} {v : Int32} (h : iX12 f) (k : i12 v) : iX12 (upd f j v) := by
  intro i; unfold upd; split <;> first | exact k | exact h i
theorem up4 {f : Nat → Int32} {j : Nat} {v : Int32} (h : iX4 f) (k : i4 v) : iX4 (upd f j v) := by
  intro i; unfold upd; split <;> first | exact k | exact h i
theorem up3 {f : Nat → Int32} {j : Nat} {v : Int32} (h : iX3 f) (k : i3 v) : iX3 (upd f j v) := by
  intro i; unfold upd; split <;> first | exact k | exact h i
theorem upW {f : Nat → Int64} {j : Nat} {v : Int64} (h : iW f) (k : i36 v) : iW (vp_updL f j v) := by
  intro i; unfold vp_updL; split <;> first | exact k | exact h i
theorem iteI {α : Type} {P : α → Prop} {c : Prop} [Decidable c] {a b : α} (ht : c → P a) (hf : ¬ c → P b) : P (if c then a else b) := by
  by_cases h : c
  · rw [if_pos h]; exact ht h
  · rw [if_neg h]; exact hf h
theorem in12 {x : Int32} (h : i12 x) : vp_in x 4096 := vp_in_iff.mpr ⟨h.1, by have := h.2; omega⟩
theorem in2 {x : Int32} (h : i2 x) : vp_in x 4 := vp_in_iff.mpr ⟨h.1, by have := h.2; omega⟩
theorem c4 {x : Int32} (h : i2 x) : x = 0 ∨ x = 1 ∨ x = 2 ∨ x = 3 := by
  have : x.toInt = 0 ∨ x.toInt = 1 ∨ x.toInt = 2 ∨ x.toInt = 3 := by have := h.1; have := h.2; omega
  rcases this with h | h | h | h
  · exact Or.inl (Int32.toInt_inj.mp (h.trans (by decide)))
  · exact Or.inr (Or.inl (Int32.toInt_inj.mp (h.trans (by decide))))
  · exact Or.inr (Or.inr (Or.inl (Int32.toInt_inj.mp (h.trans (by decide)))))
  · exact Or.inr (Or.inr (Or.inr (Int32.toInt_inj.mp (h.trans (by decide)))))
theorem c4l {x : Int32} (h : i2 x) (h0 : ¬ x = 0) (h1 : ¬ x = 1) (h2 : ¬ x = 2) : x = 3 := by
  rcases c4 h with e | e | e | e
  · exact absurd e h0
  · exact absurd e h1
  · exact absurd e h2
  · exact e
theorem leI {x y : Int32} (h : x.toInt ≤ y.toInt) : x ≤ y := Int32.le_iff_toInt_le.mpr h
theorem leJ {x y : Int32} (h : x ≤ y) : x.toInt ≤ y.toInt := Int32.le_iff_toInt_le.mp h
theorem ltI {x y : Int32} (h : x.toInt < y.toInt) : x < y := Int32.lt_iff_toInt_lt.mpr h
theorem ltJ {x y : Int32} (h : x < y) : x.toInt < y.toInt := Int32.lt_iff_toInt_lt.mp h
theorem nleJ {x y : Int32} (h : ¬ x ≤ y) : y.toInt < x.toInt := ltJ (Int32.not_le.mp h)
theorem nltJ {x y : Int32} (h : ¬ x < y) : y.toInt ≤ x.toInt := leJ (Int32.not_lt.mp h)
/-- one more, below something -/
theorem incI {x y : Int32} (h : x < y) : (x + 1).toInt = x.toInt + 1 := by
  have h1 := ltJ h
  have h2 := Int32.toInt_lt y
  rw [Int32.toInt_add, show (1 : Int32).toInt = 1 from by decide]
  have h3 := Int32.le_toInt x
  apply Int.bmod_eq_of_le <;> omega

abbrev ipl (x : Int32) : Prop := x = -1 ∨ i2 x
theorem plI {x : Int32} (h : ipl x) (k : ¬ x = -1) : i2 x := h.elim (fun e => absurd e k) (fun e => e)
abbrev iloc (x : Int32) : Prop := (x = -2 ∨ x = -3 ∨ x = -4 ∨ x = -5) ∨ i12 x
theorem locI {x : Int32} (h : iloc x) (k : ¬ x < 0) : i12 x := by
  rcases h with (h | h | h | h) | h
  · subst h; exact absurd (by decide) k
  · subst h; exact absurd (by decide) k
  · subst h; exact absurd (by decide) k
  · subst h; exact absurd (by decide) k
  · exact h
abbrev ird (x : Int64) : Prop := (x = -2 ∨ x = -3 ∨ x = -4 ∨ x = -5) ∨ i36 x
theorem rdI {x : Int64} (h : ird x) (k : ¬ x < 0) : i36 x := by
  rcases h with (h | h | h | h) | h
  · subst h; exact absurd (by decide) k
  · subst h; exact absurd (by decide) k
  · subst h; exact absurd (by decide) k
  · subst h; exact absurd (by decide) k
  · exact h
theorem le4 {x : Int32} (h : i5 x) : x ≤ 4 := leI (by rw [show (4 : Int32).toInt = 4 from by decide]; exact h.2)
theorem ng {x : Int32} (h : 0 ≤ x.toInt) : ¬ x < 0 := fun k => by have := ltJ k; rw [show (0 : Int32).toInt = 0 from by decide] at this; omega
theorem nm1 {x : Int32} (h : 0 ≤ x.toInt) : ¬ x = -1 := fun k => by rw [k, show (-1 : Int32).toInt = -1 from by decide] at h; omega
theorem nq_i2 {x : Int32} (h : i2 x) : ¬ x = -1 := nm1 h.1
theorem nq_i3 {x : Int32} (h : i3 x) : ¬ x = -1 := nm1 h.1
theorem nq_i4 {x : Int32} (h : i4 x) : ¬ x = -1 := nm1 h.1
theorem nq_i5 {x : Int32} (h : i5 x) : ¬ x = -1 := nm1 h.1
theorem nq_i12 {x : Int32} (h : i12 x) : ¬ x = -1 := nm1 h.1
theorem nn_i2 {x : Int32} (h : i2 x) : ¬ x < 0 := ng h.1
theorem nn_i3 {x : Int32} (h : i3 x) : ¬ x < 0 := ng h.1
theorem nn_i4 {x : Int32} (h : i4 x) : ¬ x < 0 := ng h.1
theorem nn_i5 {x : Int32} (h : i5 x) : ¬ x < 0 := ng h.1
theorem nn_i12 {x : Int32} (h : i12 x) : ¬ x < 0 := ng h.1
/-- the place that is new in a row of copies -/
theorem addC {c : Int32} (h : i5 c) (k : ¬ 4 ≤ c) : i5 (c + 1) := by
  have k := Int32.not_le.mp k
  have e := incI k; have a := ltJ k
  rw [show (4 : Int32).toInt = 4 from by decide] at a
  exact ⟨by have := h.1; omega, by omega⟩
theorem addA {c : Int32} (h : i5 c) (k : ¬ 4 ≤ c) : i2 (c + 1 - 1) := by
  have k := Int32.not_le.mp k
  have a := ltJ k
  rw [show (4 : Int32).toInt = 4 from by decide] at a
  rw [Int32.add_sub_cancel]
  exact ⟨h.1, by omega⟩
theorem c5 {c : Int32} (h : i5 c) : c = 0 ∨ c = 1 ∨ c = 2 ∨ c = 3 ∨ c = 4 := by
  have : c.toInt = 0 ∨ c.toInt = 1 ∨ c.toInt = 2 ∨ c.toInt = 3 ∨ c.toInt = 4 := by have := h.1; have := h.2; omega
  rcases this with h | h | h | h | h
  · exact Or.inl (Int32.toInt_inj.mp (h.trans (by decide)))
  · exact Or.inr (Or.inl (Int32.toInt_inj.mp (h.trans (by decide))))
  · exact Or.inr (Or.inr (Or.inl (Int32.toInt_inj.mp (h.trans (by decide)))))
  · exact Or.inr (Or.inr (Or.inr (Or.inl (Int32.toInt_inj.mp (h.trans (by decide))))))
  · exact Or.inr (Or.inr (Or.inr (Or.inr (Int32.toInt_inj.mp (h.trans (by decide))))))
theorem addB {c : Int32} (h : i5 c) (k : 4 ≤ c) : i2 (c - 1) := by
  have a := leJ k
  rw [show (4 : Int32).toInt = 4 from by decide] at a
  have e : c = 4 := Int32.toInt_inj.mp (by rw [show (4 : Int32).toInt = 4 from by decide]; have := h.2; omega)
  subst e
  decide
theorem nameIn {c x : Int32} (h : i5 c) (h0 : ¬ x < 0) (h1 : ¬ c ≤ x) : vp_in x 4 := by
  have a := nltJ h0; have b := nleJ h1
  rw [show (0 : Int32).toInt = 0 from by decide] at a
  exact vp_in_iff.mpr ⟨a, by have := h.2; omega⟩
/-- a descriptor's two words lie in memory -/
theorem seg2 {x : Int32} (h : i4 x) : i12 (2 * x) ∧ i12 (2 * x + 1) := by
  obtain ⟨j, hj, rfl⟩ : ∃ j : Nat, j < 16 ∧ x = nI j := vp_in_of (vp_in_iff.mpr ⟨h.1, by have := h.2; omega⟩) (by decide)
  have key : ∀ j : Nat, j < 16 → i12 (2 * nI j) ∧ i12 (2 * nI j + 1) := by decide
  exact key j hj

theorem i36N {x : Int64} (h : i36 x) : ∃ k : Nat, k < 2 ^ 36 ∧ x = lN k := by
  have h0 : ¬ x < 0 := fun k => by
    have := Int64.lt_iff_toInt_lt.mp k
    rw [show (0 : Int64).toInt = 0 from by decide] at this
    have := h.1; omega
  obtain ⟨k, hk, rfl⟩ := pk_lOf h0
  refine ⟨k, ?_, rfl⟩
  have h2 := h.2
  rw [pk_lT hk] at h2
  omega
theorem lN36 {k : Nat} (h : k < 2 ^ 36) : i36 (lN k) := by
  rw [i36, pk_lT (by omega)]; omega
theorem lNbv (n : Nat) : (lN n).toBitVec = BitVec.ofNat 64 n := rfl
theorem orN {a b : Nat} (ha : a < 2 ^ 64) (hb : b < 2 ^ 64) : lN a ||| lN b = lN (a ||| b) := by
  apply Int64.toBitVec_inj.mp
  rw [Int64.toBitVec_or, lNbv, lNbv, lNbv]
  apply BitVec.eq_of_toNat_eq
  rw [BitVec.toNat_or, BitVec.toNat_ofNat, BitVec.toNat_ofNat, BitVec.toNat_ofNat, Nat.mod_eq_of_lt ha, Nat.mod_eq_of_lt hb, Nat.mod_eq_of_lt (Nat.or_lt_two_pow ha hb)]
theorem orW {x y : Int64} (h : i36 x) (k : i36 y) : i36 (x ||| y) := by
  obtain ⟨a, ha, rfl⟩ := i36N h
  obtain ⟨b, hb, rfl⟩ := i36N k
  rw [orN (by omega) (by omega)]
  exact lN36 (Nat.or_lt_two_pow ha hb)
theorem i12N {x : Int32} (h : i12 x) : ∃ k : Nat, k < 4096 ∧ x = nI k := vp_in_of (in12 h) (by decide)
theorem nI12 {k : Nat} (h : k < 4096) : i12 (nI k) := by
  rw [i12, nI_toInt (by omega)]; omega
/-- a page's word and a word's number give a place in memory -/
theorem pgN {k j : Nat} (hk : k < 2 ^ 36) (hj : j < 4096) : (lN k - lN k / 64 * 64).toInt32 * 64 + (nI j - nI j / 64 * 64) = nI (k % 64 * 64 + j % 64) := by
  have e1 : lN k - lN k / 64 * 64 = lN (k % 64) := pk_lRem (b := 64) (by omega) (by decide) (by decide)
  have e2 : nI j - nI j / 64 * 64 = nI (j % 64) := pk_rem (d := 64) (by omega) (by decide) (by decide)
  rw [e1, e2, lN_i, show (64 : Int32) = nI 64 from by decide, pk_mul, nI_add]
theorem pgI {x : Int64} {w : Int32} (h : i36 x) (k : i12 w) : i12 ((x - x / 64 * 64).toInt32 * 64 + (w - w / 64 * 64)) := by
  obtain ⟨a, ha, rfl⟩ := i36N h
  obtain ⟨b, hb, rfl⟩ := i12N k
  rw [pgN ha hb]
  exact nI12 (by omega)
abbrev irf (x : Int32) : Prop := x = 0 ∨ x = 1 ∨ x = 3 ∨ x = 4
theorem rfN {x : Int32} (h : irf x) (k : ¬ x = 0) : -1 - x = -2 ∨ -1 - x = -3 ∨ -1 - x = -4 ∨ -1 - x = -5 := by
  rcases h with h | h | h | h
  · exact absurd h k
  · subst h; decide
  · subst h; decide
  · subst h; decide
theorem i2lN {x : Int32} (h : iloc x) (k : x < 0) : ird x.toInt64 := by
  rcases h with (h | h | h | h) | h
  · subst h; exact Or.inl (by decide)
  · subst h; exact Or.inl (by decide)
  · subst h; exact Or.inl (by decide)
  · subst h; exact Or.inl (by decide)
  · exact absurd k (nn_i12 h)
abbrev i10 (x : Int32) : Prop := 0 ≤ x.toInt ∧ x.toInt ≤ 10
abbrev i100 (x : Int32) : Prop := 0 ≤ x.toInt ∧ x.toInt ≤ 100
theorem nn_i10 {x : Int32} (h : i10 x) : ¬ x < 0 := ng h.1
theorem nq_i10 {x : Int32} (h : i10 x) : ¬ x = -1 := nm1 h.1
theorem nn_i100 {x : Int32} (h : i100 x) : ¬ x < 0 := ng h.1
theorem nq_i100 {x : Int32} (h : i100 x) : ¬ x = -1 := nm1 h.1
theorem leK_i2 {x c : Int32} (h : i2 x) (k : 3 ≤ c.toInt) : x ≤ c := leI (Int.le_trans h.2 k)
theorem leK_i3 {x c : Int32} (h : i3 x) (k : 7 ≤ c.toInt) : x ≤ c := leI (Int.le_trans h.2 k)
theorem leK_i4 {x c : Int32} (h : i4 x) (k : 15 ≤ c.toInt) : x ≤ c := leI (Int.le_trans h.2 k)
theorem leK_i5 {x c : Int32} (h : i5 x) (k : 4 ≤ c.toInt) : x ≤ c := leI (Int.le_trans h.2 k)
theorem leK_i10 {x c : Int32} (h : i10 x) (k : 10 ≤ c.toInt) : x ≤ c := leI (Int.le_trans h.2 k)
theorem leK_i100 {x c : Int32} (h : i100 x) (k : 100 ≤ c.toInt) : x ≤ c := leI (Int.le_trans h.2 k)
theorem leK_i12 {x c : Int32} (h : i12 x) (k : 4095 ≤ c.toInt) : x ≤ c := leI (Int.le_trans h.2 k)
theorem i2lW {x : Int32} (h : i12 x) : i36 x.toInt64 := by
  rw [i36, Int32.toInt_toInt64]; exact ⟨h.1, by have := h.2; omega⟩
theorem i4N {x : Int32} (h : i4 x) : ∃ j : Nat, j < 16 ∧ x = nI j := vp_in_of (vp_in_iff.mpr ⟨h.1, by have := h.2; omega⟩) (by decide)
theorem sh24 {x : Int32} (h : i4 x) : i36 (x.toInt64 <<< ((24 : Int32).toInt64 &&& 63)) := by
  obtain ⟨j, hj, rfl⟩ := i4N h
  have key : ∀ j : Nat, j < 16 → i36 ((nI j).toInt64 <<< ((24 : Int32).toInt64 &&& 63)) := by decide
  exact key j hj
theorem sh21 {x : Int32} (h : i3 x) : i36 (x.toInt64 <<< ((21 : Int32).toInt64 &&& 63)) := by
  obtain ⟨j, hj, rfl⟩ := i4N (w_i3_i4 h)
  have key : ∀ j : Nat, j < 16 → i36 ((nI j).toInt64 <<< ((21 : Int32).toInt64 &&& 63)) := by decide
  exact key j hj
/-- asked: one bit goes, one comes -/
theorem askm {x : Int32} (c : Int32) (key : ∀ j : Nat, j < 16 → i4 (nI j &&& c)) (h : i4 x) : i4 (x &&& c) := by
  obtain ⟨j, hj, rfl⟩ := i4N h
  exact key j hj
theorem askp {x k : Int32} (h : i4 x) (g : i2 k) : i4 (x ||| (1 <<< (k &&& 31))) := by
  obtain ⟨j, hj, rfl⟩ := i4N h
  rcases c4 g with e | e | e | e <;> subst e
  · have key : ∀ j : Nat, j < 16 → i4 (nI j ||| (1 <<< ((0 : Int32) &&& 31))) := by decide
    exact key j hj
  · have key : ∀ j : Nat, j < 16 → i4 (nI j ||| (1 <<< ((1 : Int32) &&& 31))) := by decide
    exact key j hj
  · have key : ∀ j : Nat, j < 16 → i4 (nI j ||| (1 <<< ((2 : Int32) &&& 31))) := by decide
    exact key j hj
  · have key : ∀ j : Nat, j < 16 → i4 (nI j ||| (1 <<< ((3 : Int32) &&& 31))) := by decide
    exact key j hj
theorem ent {x : Int32} (h : i4 x) : i12 (16 + x) := by
  obtain ⟨j, hj, rfl⟩ := i4N h
  have key : ∀ j : Nat, j < 16 → i12 (16 + nI j) := by decide
  exact key j hj
theorem c11 {x : Int32} (h : i10 x) : ∃ j : Nat, j < 11 ∧ x = nI j := vp_in_of (vp_in_iff.mpr ⟨h.1, by have := h.2; omega⟩) (by decide)
theorem kx {x : Int32} (h : i10 x) (h0 : ¬ x = 0) (h1 : ¬ x = 1) (h5 : x ≤ 5) : i2 (x - 2) := by
  obtain ⟨j, hj, rfl⟩ := c11 h
  have key : ∀ j : Nat, j < 11 → ¬ nI j = 0 → ¬ nI j = 1 → nI j ≤ 5 → i2 (nI j - 2) := by decide
  exact key j hj h0 h1 h5
theorem kp {x : Int32} (h : i10 x) (h5 : ¬ x ≤ 5) (h9 : x ≤ 9) : i2 (x - 6) := by
  obtain ⟨j, hj, rfl⟩ := c11 h
  have key : ∀ j : Nat, j < 11 → ¬ nI j ≤ 5 → nI j ≤ 9 → i2 (nI j - 6) := by decide
  exact key j hj h5 h9
abbrev irc (x : Int32) : Prop := x = -1 ∨ i3 x
theorem rcI {x : Int32} (h : irc x) (k : ¬ x = -1) : i3 x := h.elim (fun e => absurd e k) (fun e => e)

abbrev iw (x : Int32) : Prop := 0 ≤ x.toInt ∧ x.toInt ≤ 2
theorem nn_iw {x : Int32} (h : iw x) : ¬ x < 0 := ng h.1
theorem nq_iw {x : Int32} (h : iw x) : ¬ x = -1 := nm1 h.1
theorem leK_iw {x c : Int32} (h : iw x) (k : 2 ≤ c.toInt) : x ≤ c := leI (Int.le_trans h.2 k)
theorem lpM {k b : Int32} {n : Nat} (h : k < b) (hn : (b.toInt - k.toInt).toNat < n + 1) : (b.toInt - (k + 1).toInt).toNat < n := by
  rw [incI h]; have := ltJ h; omega
theorem lpK {k b : Int32} (h : k < b) (hk : 0 ≤ k.toInt) : 0 ≤ (k + 1).toInt := by rw [incI h]; omega
theorem lp0 {b : Int32} (h : i100 b) : (b.toInt - (0 : Int32).toInt).toNat < 101 := by
  rw [show (0 : Int32).toInt = 0 from by decide]; have := h.2; omega
abbrev TA : Type := Int64 × Int64
abbrev TF : Type := Int32 × Int32 × Int32 × Int32 × Int32 × Int32 × Int32
abbrev TP : Type := Int32 × Int32 × Int32
abbrev T4 : Type := TP × TP × TP × TP
abbrev TC : Type := (Nat → Int32) × (Nat → Int64) × (Nat → Int64) × Int32
abbrev TD : Type := Int32 × Int32 × Int32 × Int32 × Int32 × Int32 × Int32 × Int32 × Int32 × Int32 × Int32
abbrev TS : Type := (Nat → Int64) × TC × TC × TD
abbrev TR : Type := TA × TF × (Nat → Int32) × T4 × TP × TP × TP × TS
abbrev TMD : Type := Int32 × (Nat → Int32) × (Nat → Int64) × (Nat → Int64)
abbrev TMG : Type := Int32 × (Nat → Int32) × (Nat → Int64)
abbrev TMA : Type := Int64 × Int64
abbrev TMP : Type := (Nat → Int32) × (Nat → Int32) × (Nat → Int32)
abbrev TMQ : Type := Int32 × Int32 × Int32
abbrev TMH : Type := Int32 × Int32 × Int32 × Int32
abbrev TMT : Type := Int32 × Int32 × Int32
abbrev TMX : Type := Int64 × Int64
abbrev TM : Type := Int32 × (Nat → Int64) × TMD × TMG × TMA × (Nat → Int32) × TMP × TMQ × TMH × TMQ × TMT × TMT × TMQ × TMX × Int32
abbrev iA (x : TA) : Prop := i36 x.1 ∧ i36 x.2
abbrev iF (x : TF) : Prop := i4 x.2.2.2.2.2.2
abbrev iP (x : TP) : Prop := i4 x.1 ∧ i12 x.2.1 ∧ i3 x.2.2
abbrev iP4 (x : T4) : Prop := iP x.1 ∧ iP x.2.1 ∧ iP x.2.2.1 ∧ iP x.2.2.2
abbrev iC (x : TC) : Prop := iW x.2.1 ∧ i5 x.2.2.2
abbrev iD (x : TD) : Prop := i3 x.2.2.2.2.1 ∧ i3 x.2.2.2.2.2.1
abbrev iS (x : TS) : Prop := iW x.1 ∧ iC x.2.1 ∧ iC x.2.2.1 ∧ iD x.2.2.2
abbrev iR (x : TR) : Prop := iA x.1 ∧ iF x.2.1 ∧ iX12 x.2.2.1 ∧ iP4 x.2.2.2.1 ∧ iP x.2.2.2.2.1 ∧ iP x.2.2.2.2.2.1 ∧ iP x.2.2.2.2.2.2.1 ∧ iS x.2.2.2.2.2.2.2
abbrev iMD (x : TMD) : Prop := i5 x.1
abbrev iMG (x : TMG) : Prop := i5 x.1
abbrev iMP (x : TMP) : Prop := iX4 x.1 ∧ iX12 x.2.1
abbrev iMQ (x : TMQ) : Prop := i4 x.1 ∧ i12 x.2.1
abbrev iMH (x : TMH) : Prop := i4 x.2.2.1
abbrev iM (x : TM) : Prop := iMD x.2.2.1 ∧ iMG x.2.2.2.1 ∧ iMP x.2.2.2.2.2.2.1 ∧ iMQ x.2.2.2.2.2.2.2.1 ∧ iMH x.2.2.2.2.2.2.2.2.1 ∧ iMQ x.2.2.2.2.2.2.2.2.2.1 ∧ iMQ x.2.2.2.2.2.2.2.2.2.2.2.2.1
def pa4 (a b c d : Nat) : Nat → Option Nat := va_up (va_up (va_up (va_up (fun _ => none) 0 (some a)) 1 (some b)) 2 (some c)) 3 (some d)
abbrev tz (cI cJ cP : ClassId) : List (ClassId × FieldType) := [(cI, .int), (cJ, .long), (cP, .object "RingProcessor$Pointer")]
def wP (b0 : Nat) (x : TP) : va_W := [(b0, .inr (2, [.int x.1, .int x.2.1, .int x.2.2]))]
def wP2 (b0 b1 : Nat) (x y : TP) : va_W := [(b0, .inr (2, [.int x.1, .int x.2.1, .int x.2.2])), (b1, .inr (2, [.int y.1, .int y.2.1, .int y.2.2]))]
def wD (b0 : Nat) (x : TD) : va_W := [(b0, .inr (1, [.int x.1, .int x.2.1, .int x.2.2.1, .int x.2.2.2.1, .int x.2.2.2.2.1, .int x.2.2.2.2.2.1, .int x.2.2.2.2.2.2.1, .int x.2.2.2.2.2.2.2.1, .int x.2.2.2.2.2.2.2.2.1, .int x.2.2.2.2.2.2.2.2.2.1, .int x.2.2.2.2.2.2.2.2.2.2]))]
def wC (cI cJ : ClassId) (b0 b1 b2 b3 : Nat) (x : TC) : va_W := [(b0, .inr (0, [.ref (b1), .ref (b2), .ref (b3), .int x.2.2.2])), (b1, .inl (cI, 4, .inl x.1)), (b2, .inl (cJ, 4, .inr (.inl x.2.1))), (b3, .inl (cJ, 4, .inr (.inl x.2.2.1)))]
def wS (cI cJ : ClassId) (ad : Nat → Nat) (x : TS) : va_W := [(ad 0, .inr (3, [.ref (ad 1), .ref (ad 2), .ref (ad 6), .ref (ad 10)])), (ad 1, .inl (cJ, 4096, .inr (.inl x.1))), (ad 2, .inr (0, [.ref (ad 3), .ref (ad 4), .ref (ad 5), .int x.2.1.2.2.2])), (ad 3, .inl (cI, 4, .inl x.2.1.1)), (ad 4, .inl (cJ, 4, .inr (.inl x.2.1.2.1))), (ad 5, .inl (cJ, 4, .inr (.inl x.2.1.2.2.1))), (ad 6, .inr (0, [.ref (ad 7), .ref (ad 8), .ref (ad 9), .int x.2.2.1.2.2.2])), (ad 7, .inl (cI, 4, .inl x.2.2.1.1)), (ad 8, .inl (cJ, 4, .inr (.inl x.2.2.1.2.1))), (ad 9, .inl (cJ, 4, .inr (.inl x.2.2.1.2.2.1))), (ad 10, .inr (1, [.int x.2.2.2.1, .int x.2.2.2.2.1, .int x.2.2.2.2.2.1, .int x.2.2.2.2.2.2.1, .int x.2.2.2.2.2.2.2.1, .int x.2.2.2.2.2.2.2.2.1, .int x.2.2.2.2.2.2.2.2.2.1, .int x.2.2.2.2.2.2.2.2.2.2.1, .int x.2.2.2.2.2.2.2.2.2.2.2.1, .int x.2.2.2.2.2.2.2.2.2.2.2.2.1, .int x.2.2.2.2.2.2.2.2.2.2.2.2.2]))]
def wSP (cI cJ : ClassId) (ad : Nat → Nat) (x : TS) (y : TP) : va_W := [(ad 0, .inr (3, [.ref (ad 1), .ref (ad 2), .ref (ad 6), .ref (ad 10)])), (ad 1, .inl (cJ, 4096, .inr (.inl x.1))), (ad 2, .inr (0, [.ref (ad 3), .ref (ad 4), .ref (ad 5), .int x.2.1.2.2.2])), (ad 3, .inl (cI, 4, .inl x.2.1.1)), (ad 4, .inl (cJ, 4, .inr (.inl x.2.1.2.1))), (ad 5, .inl (cJ, 4, .inr (.inl x.2.1.2.2.1))), (ad 6, .inr (0, [.ref (ad 7), .ref (ad 8), .ref (ad 9), .int x.2.2.1.2.2.2])), (ad 7, .inl (cI, 4, .inl x.2.2.1.1)), (ad 8, .inl (cJ, 4, .inr (.inl x.2.2.1.2.1))), (ad 9, .inl (cJ, 4, .inr (.inl x.2.2.1.2.2.1))), (ad 10, .inr (1, [.int x.2.2.2.1, .int x.2.2.2.2.1, .int x.2.2.2.2.2.1, .int x.2.2.2.2.2.2.1, .int x.2.2.2.2.2.2.2.1, .int x.2.2.2.2.2.2.2.2.1, .int x.2.2.2.2.2.2.2.2.2.1, .int x.2.2.2.2.2.2.2.2.2.2.1, .int x.2.2.2.2.2.2.2.2.2.2.2.1, .int x.2.2.2.2.2.2.2.2.2.2.2.2.1, .int x.2.2.2.2.2.2.2.2.2.2.2.2.2])), (ad 11, .inr (2, [.int y.1, .int y.2.1, .int y.2.2]))]
def wR (cI cJ cP : ClassId) (ad : Nat → Nat) (x : TR) : va_W := [(ad 0, .inr (4, [.ref (ad 1), .long x.1.1, .long x.1.2, .ref (ad 13), .ref (ad 14), .ref (ad 19), .ref (ad 12), .ref (ad 20), .int x.2.1.1, .int x.2.1.2.1, .int x.2.1.2.2.1, .int x.2.1.2.2.2.1, .int x.2.1.2.2.2.2.1, .int x.2.1.2.2.2.2.2.1, .int x.2.1.2.2.2.2.2.2])), (ad 1, .inr (3, [.ref (ad 2), .ref (ad 3), .ref (ad 7), .ref (ad 11)])), (ad 2, .inl (cJ, 4096, .inr (.inl x.2.2.2.2.2.2.2.1))), (ad 3, .inr (0, [.ref (ad 4), .ref (ad 5), .ref (ad 6), .int x.2.2.2.2.2.2.2.2.1.2.2.2])), (ad 4, .inl (cI, 4, .inl x.2.2.2.2.2.2.2.2.1.1)), (ad 5, .inl (cJ, 4, .inr (.inl x.2.2.2.2.2.2.2.2.1.2.1))), (ad 6, .inl (cJ, 4, .inr (.inl x.2.2.2.2.2.2.2.2.1.2.2.1))), (ad 7, .inr (0, [.ref (ad 8), .ref (ad 9), .ref (ad 10), .int x.2.2.2.2.2.2.2.2.2.1.2.2.2])), (ad 8, .inl (cI, 4, .inl x.2.2.2.2.2.2.2.2.2.1.1)), (ad 9, .inl (cJ, 4, .inr (.inl x.2.2.2.2.2.2.2.2.2.1.2.1))), (ad 10, .inl (cJ, 4, .inr (.inl x.2.2.2.2.2.2.2.2.2.1.2.2.1))), (ad 11, .inr (1, [.int x.2.2.2.2.2.2.2.2.2.2.1, .int x.2.2.2.2.2.2.2.2.2.2.2.1, .int x.2.2.2.2.2.2.2.2.2.2.2.2.1, .int x.2.2.2.2.2.2.2.2.2.2.2.2.2.1, .int x.2.2.2.2.2.2.2.2.2.2.2.2.2.2.1, .int x.2.2.2.2.2.2.2.2.2.2.2.2.2.2.2.1, .int x.2.2.2.2.2.2.2.2.2.2.2.2.2.2.2.2.1, .int x.2.2.2.2.2.2.2.2.2.2.2.2.2.2.2.2.2.1, .int x.2.2.2.2.2.2.2.2.2.2.2.2.2.2.2.2.2.2.1, .int x.2.2.2.2.2.2.2.2.2.2.2.2.2.2.2.2.2.2.2.1, .int x.2.2.2.2.2.2.2.2.2.2.2.2.2.2.2.2.2.2.2.2])), (ad 12, .inr (2, [.int x.2.2.2.2.2.1.1, .int x.2.2.2.2.2.1.2.1, .int x.2.2.2.2.2.1.2.2])), (ad 13, .inl (cI, 4, .inl x.2.2.1)), (ad 14, .inl (cP, 4, .inr (.inr (.inr (.inr (pa4 (ad 15) (ad 16) (ad 17) (ad 18))))))), (ad 15, .inr (2, [.int x.2.2.2.1.1.1, .int x.2.2.2.1.1.2.1, .int x.2.2.2.1.1.2.2])), (ad 16, .inr (2, [.int x.2.2.2.1.2.1.1, .int x.2.2.2.1.2.1.2.1, .int x.2.2.2.1.2.1.2.2])), (ad 17, .inr (2, [.int x.2.2.2.1.2.2.1.1, .int x.2.2.2.1.2.2.1.2.1, .int x.2.2.2.1.2.2.1.2.2])), (ad 18, .inr (2, [.int x.2.2.2.1.2.2.2.1, .int x.2.2.2.1.2.2.2.2.1, .int x.2.2.2.1.2.2.2.2.2])), (ad 19, .inr (2, [.int x.2.2.2.2.1.1, .int x.2.2.2.2.1.2.1, .int x.2.2.2.2.1.2.2])), (ad 20, .inr (2, [.int x.2.2.2.2.2.2.1.1, .int x.2.2.2.2.2.2.1.2.1, .int x.2.2.2.2.2.2.1.2.2]))]
def wM (cI cJ : ClassId) (ad : Nat → Nat) (x : TM) : va_W := [(ad 0, .inr (5, [.int x.1, .ref (ad 1), .int x.2.2.1.1, .int x.2.2.2.1.1, .ref (ad 2), .ref (ad 3), .ref (ad 4), .ref (ad 5), .ref (ad 6), .long x.2.2.2.2.1.1, .long x.2.2.2.2.1.2, .ref (ad 7), .ref (ad 8), .ref (ad 9), .ref (ad 10), .int x.2.2.2.2.2.2.2.1.1, .int x.2.2.2.2.2.2.2.1.2.1, .int x.2.2.2.2.2.2.2.1.2.2, .int x.2.2.2.2.2.2.2.2.1.1, .int x.2.2.2.2.2.2.2.2.1.2.1, .int x.2.2.2.2.2.2.2.2.1.2.2.1, .int x.2.2.2.2.2.2.2.2.1.2.2.2, .int x.2.2.2.2.2.2.2.2.2.1.1, .int x.2.2.2.2.2.2.2.2.2.1.2.1, .int x.2.2.2.2.2.2.2.2.2.1.2.2, .int x.2.2.2.2.2.2.2.2.2.2.1.1, .int x.2.2.2.2.2.2.2.2.2.2.1.2.1, .int x.2.2.2.2.2.2.2.2.2.2.1.2.2, .int x.2.2.2.2.2.2.2.2.2.2.2.1.1, .int x.2.2.2.2.2.2.2.2.2.2.2.1.2.1, .int x.2.2.2.2.2.2.2.2.2.2.2.1.2.2, .int x.2.2.2.2.2.2.2.2.2.2.2.2.1.1, .int x.2.2.2.2.2.2.2.2.2.2.2.2.1.2.1, .int x.2.2.2.2.2.2.2.2.2.2.2.2.1.2.2, .long x.2.2.2.2.2.2.2.2.2.2.2.2.2.1.1, .long x.2.2.2.2.2.2.2.2.2.2.2.2.2.1.2, .int x.2.2.2.2.2.2.2.2.2.2.2.2.2.2])), (ad 1, .inl (cJ, 4096, .inr (.inl x.2.1))), (ad 2, .inl (cI, 5, .inl x.2.2.1.2.1)), (ad 3, .inl (cI, 5, .inl x.2.2.2.1.2.1)), (ad 4, .inl (cJ, 5, .inr (.inl x.2.2.1.2.2.1))), (ad 5, .inl (cJ, 5, .inr (.inl x.2.2.1.2.2.2))), (ad 6, .inl (cJ, 5, .inr (.inl x.2.2.2.1.2.2))), (ad 7, .inl (cI, 4, .inl x.2.2.2.2.2.1)), (ad 8, .inl (cI, 4, .inl x.2.2.2.2.2.2.1.1)), (ad 9, .inl (cI, 4, .inl x.2.2.2.2.2.2.1.2.1)), (ad 10, .inl (cI, 4, .inl x.2.2.2.2.2.2.1.2.2))]
end
section
theorem dX4_field_0 : decode cX4_field 0 = .ok (.lload_n 0, 1) := by decide +kernel
theorem dX4_field_1 : decode cX4_field 1 = .ok (.iload_n 2, 1) := by decide +kernel
theorem dX4_field_2 : decode cX4_field 2 = .ok (.lshr, 1) := by decide +kernel
theorem dX4_field_3 : decode cX4_field 3 = .ok (.l2i, 1) := by decide +kernel
theorem dX4_field_4 : decode cX4_field 4 = .ok (.iconst 1, 1) := by decide +kernel
theorem dX4_field_5 : decode cX4_field 5 = .ok (.iload_n 3, 1) := by decide +kernel
theorem dX4_field_6 : decode cX4_field 6 = .ok (.ishl, 1) := by decide +kernel
theorem dX4_field_7 : decode cX4_field 7 = .ok (.iconst 1, 1) := by decide +kernel
theorem dX4_field_8 : decode cX4_field 8 = .ok (.isub, 1) := by decide +kernel
theorem dX4_field_9 : decode cX4_field 9 = .ok (.iand, 1) := by decide +kernel
theorem dX4_field_10 : decode cX4_field 10 = .ok (.ireturn, 1) := by decide +kernel
theorem dX4_sum_0 : decode cX4_sum 0 = .ok (.iload_n 0, 1) := by decide +kernel
theorem dX4_sum_1 : decode cX4_sum 1 = .ok (.iload_n 1, 1) := by decide +kernel
theorem dX4_sum_2 : decode cX4_sum 2 = .ok (.iadd, 1) := by decide +kernel
theorem dX4_sum_3 : decode cX4_sum 3 = .ok (.sipush 4095, 3) := by decide +kernel
theorem dX4_sum_6 : decode cX4_sum 6 = .ok (.iand, 1) := by decide +kernel
theorem dX4_sum_7 : decode cX4_sum 7 = .ok (.ireturn, 1) := by decide +kernel
theorem dX4_faultOf_0 : decode cX4_faultOf 0 = .ok (.ldc2_w 237, 3) := by decide +kernel
theorem dX4_faultOf_3 : decode cX4_faultOf 3 = .ok (.lload_n 0, 1) := by decide +kernel
theorem dX4_faultOf_4 : decode cX4_faultOf 4 = .ok (.lsub, 1) := by decide +kernel
theorem dX4_faultOf_5 : decode cX4_faultOf 5 = .ok (.l2i, 1) := by decide +kernel
theorem dX4_faultOf_6 : decode cX4_faultOf 6 = .ok (.ireturn, 1) := by decide +kernel
theorem kw0 : Cond.constantLong RX4 237 (-1) ∈ gG := inG 434 (by decide +kernel) (by decide +kernel)
end
section
def fnX4_field  (a0 : Int64) (a1 : Int32) (a2 : Int32) : Int32 :=
  (((a0 >>> ((a1).toInt64 &&& 63))).toInt32 &&& (((1 : Int32) <<< (a2 &&& 31)) - (1 : Int32)))
set_option maxRecDepth 100000 in
set_option maxHeartbeats 4000000 in
theorem okX4_field (l : Launch) (D : va_G) (cI cJ cP : ClassId)  (sz : Nat)  (a0 : Int64) (a1 : Int32) (a2 : Int32)  : Met l yX4_field (Cond.code yX4_field cX4_field 4 (some .int) :: gG) { frames := 0, cells := 0, slots := 0, locals := 0 } (va_Pc [.long a0, .int a1, .int a2] (PRE D (tz cI cJ cP) sz [])) (va_Qi (fun (r : Int32) (_ : Unit) => r = fnX4_field a0 a1 a2) (AT D (tz cI cJ cP) (va_A [] sz) (fun (_ : Unit) => [])) (va_A [] sz)) 0 0 (va_A [] sz) := by
  refine mo (QA := fun A => va_Qi (fun (r : Int32) (_ : Unit) => r = fnX4_field a0 a1 a2) (AT D (tz cI cJ cP) A (fun (_ : Unit) => [])) A) (by decide) (Nat.le_of_ble_eq_true rfl) ?_
  intro p e s m below meth c A ls H hx hb hr hml hown hG hlocks hnm hA hS hP hK hD hl hN
  have hown : s.vm.findClass RX4 = some m.cls := hown
  have hl : lv_has ls 4 [(0, .long a0), (2, .int a1), (3, .int a2)] := hl
  refine lv_lload_n hx hb dX4_field_0 rfl (lv_at hl 0 rfl) ?_
  refine lv_iload_n hx hb dX4_field_1 rfl (lv_at hl 1 rfl) ?_
  refine lv_lshr hx hb dX4_field_2 rfl ?_
  refine lv_l2i hx hb dX4_field_3 rfl ?_
  refine lv_iconst (v := 1) hx hb dX4_field_4 (by decide) ?_
  refine lv_iload_n hx hb dX4_field_5 rfl (lv_at hl 2 rfl) ?_
  refine lv_ishl hx hb dX4_field_6 ?_
  refine lv_iconst (v := 1) hx hb dX4_field_7 (by decide) ?_
  refine lv_isub hx hb dX4_field_8 ?_
  refine lv_iand hx hb dX4_field_9 ?_
  exact reti (u := ()) hx hb hr hlocks hK hP hD hS dX4_field_10 (by unfold fnX4_field; (try exact rfl))
theorem f2X (w : Int64) (n : Int32) : i2 (fnX4_field w n 2) := by unfold fnX4_field; rw [show (((1 : Int32) <<< ((2 : Int32) &&& 31)) - 1) = 3 from by decide]; exact mk2 _
theorem f3X (w : Int64) (n : Int32) : i3 (fnX4_field w n 3) := by unfold fnX4_field; rw [show (((1 : Int32) <<< ((3 : Int32) &&& 31)) - 1) = 7 from by decide]; exact mk3 _
theorem f4X (w : Int64) (n : Int32) : i4 (fnX4_field w n 4) := by unfold fnX4_field; rw [show (((1 : Int32) <<< ((4 : Int32) &&& 31)) - 1) = 15 from by decide]; exact mk4 _
theorem f12X (w : Int64) (n : Int32) : i12 (fnX4_field w n 12) := by unfold fnX4_field; rw [show (((1 : Int32) <<< ((12 : Int32) &&& 31)) - 1) = 4095 from by decide]; exact mk12 _
def fnX4_sum  (a0 : Int32) (a1 : Int32) : Int32 :=
  ((a0 + a1) &&& (4095 : Int32))
set_option maxRecDepth 100000 in
set_option maxHeartbeats 4000000 in
theorem okX4_sum (l : Launch) (D : va_G) (cI cJ cP : ClassId)  (sz : Nat)  (a0 : Int32) (a1 : Int32)  : Met l yX4_sum (Cond.code yX4_sum cX4_sum 2 (some .int) :: gG) { frames := 0, cells := 0, slots := 0, locals := 0 } (va_Pc [.int a0, .int a1] (PRE D (tz cI cJ cP) sz [])) (va_Qi (fun (r : Int32) (_ : Unit) => r = fnX4_sum a0 a1) (AT D (tz cI cJ cP) (va_A [] sz) (fun (_ : Unit) => [])) (va_A [] sz)) 0 0 (va_A [] sz) := by
  refine mo (QA := fun A => va_Qi (fun (r : Int32) (_ : Unit) => r = fnX4_sum a0 a1) (AT D (tz cI cJ cP) A (fun (_ : Unit) => [])) A) (by decide) (Nat.le_of_ble_eq_true rfl) ?_
  intro p e s m below meth c A ls H hx hb hr hml hown hG hlocks hnm hA hS hP hK hD hl hN
  have hown : s.vm.findClass RX4 = some m.cls := hown
  have hl : lv_has ls 2 [(0, .int a0), (1, .int a1)] := hl
  refine lv_iload_n hx hb dX4_sum_0 rfl (lv_at hl 0 rfl) ?_
  refine lv_iload_n hx hb dX4_sum_1 rfl (lv_at hl 1 rfl) ?_
  refine lv_iadd hx hb dX4_sum_2 ?_
  refine lv_sipush (v := 4095) hx hb dX4_sum_3 (by decide) ?_
  refine lv_iand hx hb dX4_sum_6 ?_
  exact reti (u := ()) hx hb hr hlocks hK hP hD hS dX4_sum_7 (by unfold fnX4_sum; (try exact rfl))
theorem sumX (a b : Int32) : i12 (fnX4_sum a b) := mk12 _
def fnX4_faultOf  (a0 : Int64) : Int32 :=
  (((-1 : Int64) - a0)).toInt32
set_option maxRecDepth 100000 in
set_option maxHeartbeats 4000000 in
theorem okX4_faultOf (l : Launch) (D : va_G) (cI cJ cP : ClassId)  (sz : Nat)  (a0 : Int64)  : Met l yX4_faultOf (Cond.code yX4_faultOf cX4_faultOf 2 (some .int) :: gG) { frames := 0, cells := 0, slots := 0, locals := 0 } (va_Pc [.long a0] (PRE D (tz cI cJ cP) sz [])) (va_Qi (fun (r : Int32) (_ : Unit) => r = fnX4_faultOf a0) (AT D (tz cI cJ cP) (va_A [] sz) (fun (_ : Unit) => [])) (va_A [] sz)) 0 0 (va_A [] sz) := by
  refine mo (QA := fun A => va_Qi (fun (r : Int32) (_ : Unit) => r = fnX4_faultOf a0) (AT D (tz cI cJ cP) A (fun (_ : Unit) => [])) A) (by decide) (Nat.le_of_ble_eq_true rfl) ?_
  intro p e s m below meth c A ls H hx hb hr hml hown hG hlocks hnm hA hS hP hK hD hl hN
  have hown : s.vm.findClass RX4 = some m.cls := hown
  have hl : lv_has ls 2 [(0, .long a0)] := hl
  refine lv_ldc2 (v := (-1)) hx hb hown (hG _ kw0) dX4_faultOf_0 ?_
  refine lv_lload_n hx hb dX4_faultOf_3 rfl (lv_at hl 0 rfl) ?_
  refine lv_lsub hx hb dX4_faultOf_4 ?_
  refine lv_l2i hx hb dX4_faultOf_5 rfl ?_
  exact reti (u := ()) hx hb hr hlocks hK hP hD hS dX4_faultOf_6 (by unfold fnX4_faultOf; (try exact rfl))
theorem fltI {x : Int64} (h : ird x) (k : x < 0) : i4 (fnX4_faultOf x) := by
  rcases h with (h | h | h | h) | h
  · subst h; decide
  · subst h; decide
  · subst h; decide
  · subst h; decide
  · exact absurd k (fun z => by have := Int64.lt_iff_toInt_lt.mp z; rw [show (0 : Int64).toInt = 0 from by decide] at this; have := h.1; omega)
theorem i2lP {x : Int32} (h : x < 0) : x.toInt64 < 0 := by
  have := ltJ h
  rw [Int64.lt_iff_toInt_lt, Int32.toInt_toInt64]
  exact this
end
section
theorem dX2_become_0 : decode cX2_become 0 = .ok (.aload_n 0, 1) := by decide +kernel
theorem dX2_become_1 : decode cX2_become 1 = .ok (.aload_n 1, 1) := by decide +kernel
theorem dX2_become_2 : decode cX2_become 2 = .ok (.getfield 9, 3) := by decide +kernel
theorem dX2_become_5 : decode cX2_become 5 = .ok (.putfield 9, 3) := by decide +kernel
theorem dX2_become_8 : decode cX2_become 8 = .ok (.aload_n 0, 1) := by decide +kernel
theorem dX2_become_9 : decode cX2_become 9 = .ok (.aload_n 1, 1) := by decide +kernel
theorem dX2_become_10 : decode cX2_become 10 = .ok (.getfield 15, 3) := by decide +kernel
theorem dX2_become_13 : decode cX2_become 13 = .ok (.putfield 15, 3) := by decide +kernel
theorem dX2_become_16 : decode cX2_become 16 = .ok (.aload_n 0, 1) := by decide +kernel
theorem dX2_become_17 : decode cX2_become 17 = .ok (.aload_n 1, 1) := by decide +kernel
theorem dX2_become_18 : decode cX2_become 18 = .ok (.getfield 18, 3) := by decide +kernel
theorem dX2_become_21 : decode cX2_become 21 = .ok (.putfield 18, 3) := by decide +kernel
theorem dX2_become_24 : decode cX2_become 24 = .ok (.return_, 1) := by decide +kernel
theorem dX2_takeFrom_0 : decode cX2_takeFrom 0 = .ok (.aload_n 0, 1) := by decide +kernel
theorem dX2_takeFrom_1 : decode cX2_takeFrom 1 = .ok (.lload_n 1, 1) := by decide +kernel
theorem dX2_takeFrom_2 : decode cX2_takeFrom 2 = .ok (.bipush 24, 2) := by decide +kernel
theorem dX2_takeFrom_4 : decode cX2_takeFrom 4 = .ok (.iconst 4, 1) := by decide +kernel
theorem dX2_takeFrom_5 : decode cX2_takeFrom 5 = .ok (.invokestatic 21, 3) := by decide +kernel
theorem dX2_takeFrom_8 : decode cX2_takeFrom 8 = .ok (.putfield 9, 3) := by decide +kernel
theorem dX2_takeFrom_11 : decode cX2_takeFrom 11 = .ok (.aload_n 0, 1) := by decide +kernel
theorem dX2_takeFrom_12 : decode cX2_takeFrom 12 = .ok (.lload_n 1, 1) := by decide +kernel
theorem dX2_takeFrom_13 : decode cX2_takeFrom 13 = .ok (.iconst 0, 1) := by decide +kernel
theorem dX2_takeFrom_14 : decode cX2_takeFrom 14 = .ok (.bipush 12, 2) := by decide +kernel
theorem dX2_takeFrom_16 : decode cX2_takeFrom 16 = .ok (.invokestatic 21, 3) := by decide +kernel
theorem dX2_takeFrom_19 : decode cX2_takeFrom 19 = .ok (.putfield 15, 3) := by decide +kernel
theorem dX2_takeFrom_22 : decode cX2_takeFrom 22 = .ok (.aload_n 0, 1) := by decide +kernel
theorem dX2_takeFrom_23 : decode cX2_takeFrom 23 = .ok (.lload_n 1, 1) := by decide +kernel
theorem dX2_takeFrom_24 : decode cX2_takeFrom 24 = .ok (.bipush 21, 2) := by decide +kernel
theorem dX2_takeFrom_26 : decode cX2_takeFrom 26 = .ok (.iconst 3, 1) := by decide +kernel
theorem dX2_takeFrom_27 : decode cX2_takeFrom 27 = .ok (.invokestatic 21, 3) := by decide +kernel
theorem dX2_takeFrom_30 : decode cX2_takeFrom 30 = .ok (.putfield 18, 3) := by decide +kernel
theorem dX2_takeFrom_33 : decode cX2_takeFrom 33 = .ok (.return_, 1) := by decide +kernel
theorem dX2_asWord_0 : decode cX2_asWord 0 = .ok (.ldc2_w 25, 3) := by decide +kernel
theorem dX2_asWord_3 : decode cX2_asWord 3 = .ok (.aload_n 0, 1) := by decide +kernel
theorem dX2_asWord_4 : decode cX2_asWord 4 = .ok (.getfield 9, 3) := by decide +kernel
theorem dX2_asWord_7 : decode cX2_asWord 7 = .ok (.i2l, 1) := by decide +kernel
theorem dX2_asWord_8 : decode cX2_asWord 8 = .ok (.bipush 24, 2) := by decide +kernel
theorem dX2_asWord_10 : decode cX2_asWord 10 = .ok (.lshl, 1) := by decide +kernel
theorem dX2_asWord_11 : decode cX2_asWord 11 = .ok (.lor, 1) := by decide +kernel
theorem dX2_asWord_12 : decode cX2_asWord 12 = .ok (.aload_n 0, 1) := by decide +kernel
theorem dX2_asWord_13 : decode cX2_asWord 13 = .ok (.getfield 18, 3) := by decide +kernel
theorem dX2_asWord_16 : decode cX2_asWord 16 = .ok (.i2l, 1) := by decide +kernel
theorem dX2_asWord_17 : decode cX2_asWord 17 = .ok (.bipush 21, 2) := by decide +kernel
theorem dX2_asWord_19 : decode cX2_asWord 19 = .ok (.lshl, 1) := by decide +kernel
theorem dX2_asWord_20 : decode cX2_asWord 20 = .ok (.lor, 1) := by decide +kernel
theorem dX2_asWord_21 : decode cX2_asWord 21 = .ok (.aload_n 0, 1) := by decide +kernel
theorem dX2_asWord_22 : decode cX2_asWord 22 = .ok (.getfield 15, 3) := by decide +kernel
theorem dX2_asWord_25 : decode cX2_asWord 25 = .ok (.i2l, 1) := by decide +kernel
theorem dX2_asWord_26 : decode cX2_asWord 26 = .ok (.lor, 1) := by decide +kernel
theorem dX2_asWord_27 : decode cX2_asWord 27 = .ok (.lreturn, 1) := by decide +kernel
theorem kw1 : Cond.fieldLink RX2 9 RX2 "segment" "I" ∈ gG := inG 162 (by decide +kernel) (by decide +kernel)
theorem kw2 : Cond.fieldLink RX2 15 RX2 "word" "I" ∈ gG := inG 166 (by decide +kernel) (by decide +kernel)
theorem kw3 : Cond.fieldLink RX2 18 RX2 "ring" "I" ∈ gG := inG 169 (by decide +kernel) (by decide +kernel)
theorem kw4 : Cond.code yX4_field cX4_field 4 (some .int) ∈ gG := inG 336 (by decide +kernel) (by decide +kernel)
theorem kw5 : Cond.initialized RX4 ∈ gG := inG 43 (by decide +kernel) (by decide +kernel)
theorem kw6 : Cond.static yX4_field ∈ gG := inG 335 (by decide +kernel) (by decide +kernel)
theorem kw7 : Cond.constantLong RX2 25 8589934592 ∈ gG := inG 240 (by decide +kernel) (by decide +kernel)
theorem hdX4_field : yX4_field.cls ≠ "java/lang/invoke/MethodHandle" ∧ yX4_field.cls ≠ "java/lang/invoke/VarHandle" ∧ (parseMethodDescriptor yX4_field.desc).map (fun d => d.parameters.length) = some 3 := by decide +kernel
end
section
def fnX2_become (x : TP) (y : TP)  : TP :=
  (y.1, y.2.1, y.2.2)
abbrev ivX2_becomeP (z : TP) : Prop := iP z
set_option maxRecDepth 100000 in
set_option maxHeartbeats 4000000 in
theorem ivX2_become (x : TP) (y : TP)  (hI : iP x) (hJ : iP y) : ivX2_becomeP (fnX2_become x y) := by
  unfold fnX2_become
  try dsimp only
  exact ⟨hJ.1, hJ.2.1, hJ.2.2⟩
set_option maxRecDepth 100000 in
set_option maxHeartbeats 4000000 in
theorem okX2_become (l : Launch) (D : va_G) (cI cJ cP : ClassId) (b0 b1 : Nat) (sz : Nat) (x : TP) (y : TP)  (hI : iP x) (hJ : iP y) : Met l yX2_become (Cond.code yX2_become cX2_become 2 none :: gG) { frames := 0, cells := 0, slots := 0, locals := 0 } (va_Pc [.ref (b0), .ref (b1)] (PRE D (tz cI cJ cP) sz (wP2 b0 b1 x y))) (va_Qv (fun (u : TP) => u = fnX2_become x y) (AT D (tz cI cJ cP) (va_A (wP2 b0 b1 x y) sz) (fun (u : TP) => (wP2 b0 b1 u y))) (va_A (wP2 b0 b1 x y) sz)) 0 0 (va_A (wP2 b0 b1 x y) sz) := by
  refine mo (QA := fun A => va_Qv (fun (u : TP) => u = fnX2_become x y) (AT D (tz cI cJ cP) A (fun (u : TP) => (wP2 b0 b1 u y))) A) (by decide) (Nat.le_of_ble_eq_true rfl) ?_
  intro p e s m below meth c A ls H hx hb hr hml hown hG hlocks hnm hA hS hP hK hD hl hN
  have hown : s.vm.findClass RX2 = some m.cls := hown
  have hl : lv_has ls 2 [(0, .ref (b0)), (1, .ref (b1))] := hl
  refine lv_aload_n hx hb dX2_become_0 rfl (lv_at hl 0 rfl) ?_
  refine lv_aload_n hx hb dX2_become_1 rfl (lv_at hl 1 rfl) ?_
  refine va_get (D := D) (ci := 2) (v := .int (y.1)) hx hb hG inX2 hown hK hP 1 rfl rfl 0 (by decide) (hG _ kw1) (fun _ h9 => h9) rfl dX2_become_2 ?_
  refine pu (D := D) (ci := 2) (v := .int (y.1)) (ty := .int) (W' := (wP2 b0 b1 (y.1, x.2.1, x.2.2) y)) hx hb hG inX2 tyX2 tyokX2 nmX2 hown hK hP hD hS 0 rfl rfl 0 (by decide) (hG _ kw1) (fun _ h9 => h9) rfl (by decide +kernel) rfl rfl (Nat.le_of_ble_eq_true rfl) dX2_become_5 rfl (fun H locs hP hD hS => ?_)
  refine lv_aload_n hx hb dX2_become_8 rfl (lv_at hl 0 rfl) ?_
  refine lv_aload_n hx hb dX2_become_9 rfl (lv_at hl 1 rfl) ?_
  refine va_get (D := D) (ci := 2) (v := .int (y.2.1)) hx hb hG inX2 hown hK hP 1 rfl rfl 1 (by decide) (hG _ kw2) (fun _ h9 => h9) rfl dX2_become_10 ?_
  refine pu (D := D) (ci := 2) (v := .int (y.2.1)) (ty := .int) (W' := (wP2 b0 b1 (y.1, y.2.1, x.2.2) y)) hx hb hG inX2 tyX2 tyokX2 nmX2 hown hK hP hD hS 0 rfl rfl 1 (by decide) (hG _ kw2) (fun _ h9 => h9) rfl (by decide +kernel) rfl rfl (Nat.le_of_ble_eq_true rfl) dX2_become_13 rfl (fun H locs hP hD hS => ?_)
  refine lv_aload_n hx hb dX2_become_16 rfl (lv_at hl 0 rfl) ?_
  refine lv_aload_n hx hb dX2_become_17 rfl (lv_at hl 1 rfl) ?_
  refine va_get (D := D) (ci := 2) (v := .int (y.2.2)) hx hb hG inX2 hown hK hP 1 rfl rfl 2 (by decide) (hG _ kw3) (fun _ h9 => h9) rfl dX2_become_18 ?_
  refine pu (D := D) (ci := 2) (v := .int (y.2.2)) (ty := .int) (W' := (wP2 b0 b1 (y.1, y.2.1, y.2.2) y)) hx hb hG inX2 tyX2 tyokX2 nmX2 hown hK hP hD hS 0 rfl rfl 2 (by decide) (hG _ kw3) (fun _ h9 => h9) rfl (by decide +kernel) rfl rfl (Nat.le_of_ble_eq_true rfl) dX2_become_21 rfl (fun H locs hP hD hS => ?_)
  exact retv (u := (y.1, y.2.1, y.2.2)) hx hb hr hlocks hK hP hD hS dX2_become_24 (by unfold fnX2_become; (try exact rfl))
def fnX2_takeFrom (x : TP) (a0 : Int64) : TP :=
  let p1 := fnX4_field a0 (24 : Int32) (4 : Int32)
  let p2 := fnX4_field a0 (0 : Int32) (12 : Int32)
  let p3 := fnX4_field a0 (21 : Int32) (3 : Int32)
  (p1, p2, p3)
abbrev ivX2_takeFromP (z : TP) : Prop := iP z
set_option maxRecDepth 100000 in
set_option maxHeartbeats 4000000 in
theorem ivX2_takeFrom (x : TP) (a0 : Int64) (hI : iP x) : ivX2_takeFromP (fnX2_takeFrom x a0) := by
  unfold fnX2_takeFrom
  try dsimp only
  have j1 : i4 (fnX4_field a0 (24 : Int32) (4 : Int32)) := (f4X a0 (24 : Int32))
  generalize fnX4_field a0 (24 : Int32) (4 : Int32) = p1 at j1 ⊢
  have j2 : i12 (fnX4_field a0 (0 : Int32) (12 : Int32)) := (f12X a0 (0 : Int32))
  generalize fnX4_field a0 (0 : Int32) (12 : Int32) = p2 at j2 ⊢
  have j3 : i3 (fnX4_field a0 (21 : Int32) (3 : Int32)) := (f3X a0 (21 : Int32))
  generalize fnX4_field a0 (21 : Int32) (3 : Int32) = p3 at j3 ⊢
  exact ⟨j1, j2, j3⟩
set_option maxRecDepth 100000 in
set_option maxHeartbeats 4000000 in
theorem okX2_takeFrom (l : Launch) (D : va_G) (cI cJ cP : ClassId) (b0 : Nat) (sz : Nat) (x : TP) (a0 : Int64) (hI : iP x) : Met l yX2_takeFrom (Cond.code yX2_takeFrom cX2_takeFrom 3 none :: gG) { frames := 1, cells := 0, slots := 0, locals := 23 } (va_Pc [.ref (b0), .long a0] (PRE D (tz cI cJ cP) sz (wP b0 x))) (va_Qv (fun (u : TP) => u = fnX2_takeFrom x a0) (AT D (tz cI cJ cP) (va_A (wP b0 x) sz) (fun (u : TP) => (wP b0 u))) (va_A (wP b0 x) sz)) 0 0 (va_A (wP b0 x) sz) := by
  refine mo (QA := fun A => va_Qv (fun (u : TP) => u = fnX2_takeFrom x a0) (AT D (tz cI cJ cP) A (fun (u : TP) => (wP b0 u))) A) (by decide) (Nat.le_of_ble_eq_true rfl) ?_
  intro p e s m below meth c A ls H hx hb hr hml hown hG hlocks hnm hA hS hP hK hD hl hN
  have hown : s.vm.findClass RX2 = some m.cls := hown
  have hl : lv_has ls 3 [(0, .ref (b0)), (1, .long a0)] := hl
  refine lv_aload_n hx hb dX2_takeFrom_0 rfl (lv_at hl 0 rfl) ?_
  refine lv_lload_n hx hb dX2_takeFrom_1 rfl (lv_at hl 1 rfl) ?_
  refine lv_bipush (v := 24) hx hb dX2_takeFrom_2 (by decide) ?_
  refine lv_iconst (v := 4) hx hb dX2_takeFrom_4 (by decide) ?_
  refine k0SNi (As := [.long (a0), .int ((24 : Int32)), .int ((4 : Int32))]) (rest := [.ref (b0)]) hx hb hml hown hG hl (okX4_field l D cI cJ cP  H.size a0 (24 : Int32) (4 : Int32) ) (cSN 3 hG kw4 (nl4 hN) kw6 kw5 hdX4_field ⟨by decide, by decide⟩) hK hP hD hS hA hN rfl rfl (Nat.le_of_ble_eq_true rfl) dX2_takeFrom_5 ⟨Nat.zero_le _, Nat.zero_le _⟩ (fun r1 q1 H locs hP hD hS => ?_)
  have j1 : i4 r1 := by rw [q1]; exact (f4X a0 (24 : Int32))
  refine pu (D := D) (ci := 2) (v := .int (r1)) (ty := .int) (W' := (wP b0 (r1, x.2.1, x.2.2))) hx hb hG inX2 tyX2 tyokX2 nmX2 hown hK hP hD hS 0 rfl rfl 0 (by decide) (hG _ kw1) (fun _ h9 => h9) rfl (by decide +kernel) rfl rfl (Nat.le_of_ble_eq_true rfl) dX2_takeFrom_8 rfl (fun H locs hP hD hS => ?_)
  refine lv_aload_n hx hb dX2_takeFrom_11 rfl (lv_at hl 0 rfl) ?_
  refine lv_lload_n hx hb dX2_takeFrom_12 rfl (lv_at hl 1 rfl) ?_
  refine lv_iconst (v := 0) hx hb dX2_takeFrom_13 (by decide) ?_
  refine lv_bipush (v := 12) hx hb dX2_takeFrom_14 (by decide) ?_
  refine k0SNi (As := [.long (a0), .int ((0 : Int32)), .int ((12 : Int32))]) (rest := [.ref (b0)]) hx hb hml hown hG hl (okX4_field l D cI cJ cP  H.size a0 (0 : Int32) (12 : Int32) ) (cSN 3 hG kw4 (nl4 hN) kw6 kw5 hdX4_field ⟨by decide, by decide⟩) hK hP hD hS hA hN rfl rfl (Nat.le_of_ble_eq_true rfl) dX2_takeFrom_16 ⟨Nat.zero_le _, Nat.zero_le _⟩ (fun r2 q2 H locs hP hD hS => ?_)
  have j2 : i12 r2 := by rw [q2]; exact (f12X a0 (0 : Int32))
  refine pu (D := D) (ci := 2) (v := .int (r2)) (ty := .int) (W' := (wP b0 (r1, r2, x.2.2))) hx hb hG inX2 tyX2 tyokX2 nmX2 hown hK hP hD hS 0 rfl rfl 1 (by decide) (hG _ kw2) (fun _ h9 => h9) rfl (by decide +kernel) rfl rfl (Nat.le_of_ble_eq_true rfl) dX2_takeFrom_19 rfl (fun H locs hP hD hS => ?_)
  refine lv_aload_n hx hb dX2_takeFrom_22 rfl (lv_at hl 0 rfl) ?_
  refine lv_lload_n hx hb dX2_takeFrom_23 rfl (lv_at hl 1 rfl) ?_
  refine lv_bipush (v := 21) hx hb dX2_takeFrom_24 (by decide) ?_
  refine lv_iconst (v := 3) hx hb dX2_takeFrom_26 (by decide) ?_
  refine k0SNi (As := [.long (a0), .int ((21 : Int32)), .int ((3 : Int32))]) (rest := [.ref (b0)]) hx hb hml hown hG hl (okX4_field l D cI cJ cP  H.size a0 (21 : Int32) (3 : Int32) ) (cSN 3 hG kw4 (nl4 hN) kw6 kw5 hdX4_field ⟨by decide, by decide⟩) hK hP hD hS hA hN rfl rfl (Nat.le_of_ble_eq_true rfl) dX2_takeFrom_27 ⟨Nat.zero_le _, Nat.zero_le _⟩ (fun r3 q3 H locs hP hD hS => ?_)
  have j3 : i3 r3 := by rw [q3]; exact (f3X a0 (21 : Int32))
  refine pu (D := D) (ci := 2) (v := .int (r3)) (ty := .int) (W' := (wP b0 (r1, r2, r3))) hx hb hG inX2 tyX2 tyokX2 nmX2 hown hK hP hD hS 0 rfl rfl 2 (by decide) (hG _ kw3) (fun _ h9 => h9) rfl (by decide +kernel) rfl rfl (Nat.le_of_ble_eq_true rfl) dX2_takeFrom_30 rfl (fun H locs hP hD hS => ?_)
  exact retv (u := (r1, r2, r3)) hx hb hr hlocks hK hP hD hS dX2_takeFrom_33 (by unfold fnX2_takeFrom; rw [← q1]; (try dsimp only); rw [← q2]; (try dsimp only); rw [← q3]; (try dsimp only); (try exact rfl))
def fnX2_asWord (x : TP)  : Int64 :=
  ((((8589934592 : Int64) ||| ((x.1).toInt64 <<< (((24 : Int32)).toInt64 &&& 63))) ||| ((x.2.2).toInt64 <<< (((21 : Int32)).toInt64 &&& 63))) ||| (x.2.1).toInt64)
abbrev ivX2_asWordP (z : Int64) : Prop := i36 z
set_option maxRecDepth 100000 in
set_option maxHeartbeats 4000000 in
theorem ivX2_asWord (x : TP)  (hI : iP x) : ivX2_asWordP (fnX2_asWord x) := by
  unfold fnX2_asWord
  try dsimp only
  exact (orW (orW (orW (show i36 (8589934592 : Int64) from by decide) (sh24 hI.1)) (sh21 hI.2.2)) (i2lW hI.2.1))
set_option maxRecDepth 100000 in
set_option maxHeartbeats 4000000 in
theorem okX2_asWord (l : Launch) (D : va_G) (cI cJ cP : ClassId) (b0 : Nat) (sz : Nat) (x : TP)  (hI : iP x) : Met l yX2_asWord (Cond.code yX2_asWord cX2_asWord 1 (some .long) :: gG) { frames := 0, cells := 0, slots := 0, locals := 0 } (va_Pc [.ref (b0)] (PRE D (tz cI cJ cP) sz (wP b0 x))) (va_Ql (fun (r : Int64) (_ : Unit) => r = fnX2_asWord x) (AT D (tz cI cJ cP) (va_A (wP b0 x) sz) (fun (_ : Unit) => (wP b0 x))) (va_A (wP b0 x) sz)) 0 0 (va_A (wP b0 x) sz) := by
  refine mo (QA := fun A => va_Ql (fun (r : Int64) (_ : Unit) => r = fnX2_asWord x) (AT D (tz cI cJ cP) A (fun (_ : Unit) => (wP b0 x))) A) (by decide) (Nat.le_of_ble_eq_true rfl) ?_
  intro p e s m below meth c A ls H hx hb hr hml hown hG hlocks hnm hA hS hP hK hD hl hN
  have hown : s.vm.findClass RX2 = some m.cls := hown
  have hl : lv_has ls 1 [(0, .ref (b0))] := hl
  refine lv_ldc2 (v := 8589934592) hx hb hown (hG _ kw7) dX2_asWord_0 ?_
  refine lv_aload_n hx hb dX2_asWord_3 rfl (lv_at hl 0 rfl) ?_
  refine va_get (D := D) (ci := 2) (v := .int (x.1)) hx hb hG inX2 hown hK hP 0 rfl rfl 0 (by decide) (hG _ kw1) (fun _ h9 => h9) rfl dX2_asWord_4 ?_
  refine lv_i2l hx hb dX2_asWord_7 rfl ?_
  refine lv_bipush (v := 24) hx hb dX2_asWord_8 (by decide) ?_
  refine lv_lshl hx hb dX2_asWord_10 rfl ?_
  refine lv_lor hx hb dX2_asWord_11 ?_
  refine lv_aload_n hx hb dX2_asWord_12 rfl (lv_at hl 0 rfl) ?_
  refine va_get (D := D) (ci := 2) (v := .int (x.2.2)) hx hb hG inX2 hown hK hP 0 rfl rfl 2 (by decide) (hG _ kw3) (fun _ h9 => h9) rfl dX2_asWord_13 ?_
  refine lv_i2l hx hb dX2_asWord_16 rfl ?_
  refine lv_bipush (v := 21) hx hb dX2_asWord_17 (by decide) ?_
  refine lv_lshl hx hb dX2_asWord_19 rfl ?_
  refine lv_lor hx hb dX2_asWord_20 ?_
  refine lv_aload_n hx hb dX2_asWord_21 rfl (lv_at hl 0 rfl) ?_
  refine va_get (D := D) (ci := 2) (v := .int (x.2.1)) hx hb hG inX2 hown hK hP 0 rfl rfl 1 (by decide) (hG _ kw2) (fun _ h9 => h9) rfl dX2_asWord_22 ?_
  refine lv_i2l hx hb dX2_asWord_25 rfl ?_
  refine lv_lor hx hb dX2_asWord_26 ?_
  exact retl (u := ()) hx hb hr hlocks hK hP hD hS dX2_asWord_27 (by unfold fnX2_asWord; (try exact rfl))
end
section
theorem dX1_become_0 : decode cX1_become 0 = .ok (.aload_n 0, 1) := by decide +kernel
theorem dX1_become_1 : decode cX1_become 1 = .ok (.lload_n 1, 1) := by decide +kernel
theorem dX1_become_2 : decode cX1_become 2 = .ok (.ldc2_w 9, 3) := by decide +kernel
theorem dX1_become_5 : decode cX1_become 5 = .ok (.land, 1) := by decide +kernel
theorem dX1_become_6 : decode cX1_become 6 = .ok (.lconst 0, 1) := by decide +kernel
theorem dX1_become_7 : decode cX1_become 7 = .ok (.lcmp, 1) := by decide +kernel
theorem dX1_become_8 : decode cX1_become 8 = .ok (.ifCond .eq 7, 3) := by decide +kernel
theorem dX1_become_11 : decode cX1_become 11 = .ok (.iconst 1, 1) := by decide +kernel
theorem dX1_become_12 : decode cX1_become 12 = .ok (.goto 4, 3) := by decide +kernel
theorem dX1_become_15 : decode cX1_become 15 = .ok (.iconst 0, 1) := by decide +kernel
theorem dX1_become_16 : decode cX1_become 16 = .ok (.putfield 11, 3) := by decide +kernel
theorem dX1_become_19 : decode cX1_become 19 = .ok (.aload_n 0, 1) := by decide +kernel
theorem dX1_become_20 : decode cX1_become 20 = .ok (.lload_n 1, 1) := by decide +kernel
theorem dX1_become_21 : decode cX1_become 21 = .ok (.ldc2_w 17, 3) := by decide +kernel
theorem dX1_become_24 : decode cX1_become 24 = .ok (.land, 1) := by decide +kernel
theorem dX1_become_25 : decode cX1_become 25 = .ok (.lconst 0, 1) := by decide +kernel
theorem dX1_become_26 : decode cX1_become 26 = .ok (.lcmp, 1) := by decide +kernel
theorem dX1_become_27 : decode cX1_become 27 = .ok (.ifCond .eq 7, 3) := by decide +kernel
theorem dX1_become_30 : decode cX1_become 30 = .ok (.iconst 1, 1) := by decide +kernel
theorem dX1_become_31 : decode cX1_become 31 = .ok (.goto 4, 3) := by decide +kernel
theorem dX1_become_34 : decode cX1_become 34 = .ok (.iconst 0, 1) := by decide +kernel
theorem dX1_become_35 : decode cX1_become 35 = .ok (.putfield 19, 3) := by decide +kernel
theorem dX1_become_38 : decode cX1_become 38 = .ok (.aload_n 0, 1) := by decide +kernel
theorem dX1_become_39 : decode cX1_become 39 = .ok (.lload_n 1, 1) := by decide +kernel
theorem dX1_become_40 : decode cX1_become 40 = .ok (.l2i, 1) := by decide +kernel
theorem dX1_become_41 : decode cX1_become 41 = .ok (.sipush 4095, 3) := by decide +kernel
theorem dX1_become_44 : decode cX1_become 44 = .ok (.iand, 1) := by decide +kernel
theorem dX1_become_45 : decode cX1_become 45 = .ok (.putfield 22, 3) := by decide +kernel
theorem dX1_become_48 : decode cX1_become 48 = .ok (.aload_n 0, 1) := by decide +kernel
theorem dX1_become_49 : decode cX1_become 49 = .ok (.lload_n 1, 1) := by decide +kernel
theorem dX1_become_50 : decode cX1_become 50 = .ok (.bipush 12, 2) := by decide +kernel
theorem dX1_become_52 : decode cX1_become 52 = .ok (.lshr, 1) := by decide +kernel
theorem dX1_become_53 : decode cX1_become 53 = .ok (.l2i, 1) := by decide +kernel
theorem dX1_become_54 : decode cX1_become 54 = .ok (.sipush 4095, 3) := by decide +kernel
theorem dX1_become_57 : decode cX1_become 57 = .ok (.iand, 1) := by decide +kernel
theorem dX1_become_58 : decode cX1_become 58 = .ok (.putfield 26, 3) := by decide +kernel
theorem dX1_become_61 : decode cX1_become 61 = .ok (.aload_n 0, 1) := by decide +kernel
theorem dX1_become_62 : decode cX1_become 62 = .ok (.lload_n 3, 1) := by decide +kernel
theorem dX1_become_63 : decode cX1_become 63 = .ok (.l2i, 1) := by decide +kernel
theorem dX1_become_64 : decode cX1_become 64 = .ok (.bipush 7, 2) := by decide +kernel
theorem dX1_become_66 : decode cX1_become 66 = .ok (.iand, 1) := by decide +kernel
theorem dX1_become_67 : decode cX1_become 67 = .ok (.putfield 29, 3) := by decide +kernel
theorem dX1_become_70 : decode cX1_become 70 = .ok (.aload_n 0, 1) := by decide +kernel
theorem dX1_become_71 : decode cX1_become 71 = .ok (.lload_n 3, 1) := by decide +kernel
theorem dX1_become_72 : decode cX1_become 72 = .ok (.iconst 3, 1) := by decide +kernel
theorem dX1_become_73 : decode cX1_become 73 = .ok (.lshr, 1) := by decide +kernel
theorem dX1_become_74 : decode cX1_become 74 = .ok (.l2i, 1) := by decide +kernel
theorem dX1_become_75 : decode cX1_become 75 = .ok (.bipush 7, 2) := by decide +kernel
theorem dX1_become_77 : decode cX1_become 77 = .ok (.iand, 1) := by decide +kernel
theorem dX1_become_78 : decode cX1_become 78 = .ok (.putfield 32, 3) := by decide +kernel
theorem dX1_become_81 : decode cX1_become 81 = .ok (.aload_n 0, 1) := by decide +kernel
theorem dX1_become_82 : decode cX1_become 82 = .ok (.lload_n 3, 1) := by decide +kernel
theorem dX1_become_83 : decode cX1_become 83 = .ok (.bipush 6, 2) := by decide +kernel
theorem dX1_become_85 : decode cX1_become 85 = .ok (.lshr, 1) := by decide +kernel
theorem dX1_become_86 : decode cX1_become 86 = .ok (.l2i, 1) := by decide +kernel
theorem dX1_become_87 : decode cX1_become 87 = .ok (.bipush 7, 2) := by decide +kernel
theorem dX1_become_89 : decode cX1_become 89 = .ok (.iand, 1) := by decide +kernel
theorem dX1_become_90 : decode cX1_become 90 = .ok (.putfield 35, 3) := by decide +kernel
theorem dX1_become_93 : decode cX1_become 93 = .ok (.aload_n 0, 1) := by decide +kernel
theorem dX1_become_94 : decode cX1_become 94 = .ok (.lload_n 3, 1) := by decide +kernel
theorem dX1_become_95 : decode cX1_become 95 = .ok (.ldc2_w 38, 3) := by decide +kernel
theorem dX1_become_98 : decode cX1_become 98 = .ok (.land, 1) := by decide +kernel
theorem dX1_become_99 : decode cX1_become 99 = .ok (.lconst 0, 1) := by decide +kernel
theorem dX1_become_100 : decode cX1_become 100 = .ok (.lcmp, 1) := by decide +kernel
theorem dX1_become_101 : decode cX1_become 101 = .ok (.ifCond .eq 7, 3) := by decide +kernel
theorem dX1_become_104 : decode cX1_become 104 = .ok (.iconst 1, 1) := by decide +kernel
theorem dX1_become_105 : decode cX1_become 105 = .ok (.goto 4, 3) := by decide +kernel
theorem dX1_become_108 : decode cX1_become 108 = .ok (.iconst 0, 1) := by decide +kernel
theorem dX1_become_109 : decode cX1_become 109 = .ok (.putfield 40, 3) := by decide +kernel
theorem dX1_become_112 : decode cX1_become 112 = .ok (.aload_n 0, 1) := by decide +kernel
theorem dX1_become_113 : decode cX1_become 113 = .ok (.lload_n 3, 1) := by decide +kernel
theorem dX1_become_114 : decode cX1_become 114 = .ok (.ldc2_w 43, 3) := by decide +kernel
theorem dX1_become_117 : decode cX1_become 117 = .ok (.land, 1) := by decide +kernel
theorem dX1_become_118 : decode cX1_become 118 = .ok (.lconst 0, 1) := by decide +kernel
theorem dX1_become_119 : decode cX1_become 119 = .ok (.lcmp, 1) := by decide +kernel
theorem dX1_become_120 : decode cX1_become 120 = .ok (.ifCond .eq 7, 3) := by decide +kernel
theorem dX1_become_123 : decode cX1_become 123 = .ok (.iconst 1, 1) := by decide +kernel
theorem dX1_become_124 : decode cX1_become 124 = .ok (.goto 4, 3) := by decide +kernel
theorem dX1_become_127 : decode cX1_become 127 = .ok (.iconst 0, 1) := by decide +kernel
theorem dX1_become_128 : decode cX1_become 128 = .ok (.putfield 45, 3) := by decide +kernel
theorem dX1_become_131 : decode cX1_become 131 = .ok (.aload_n 0, 1) := by decide +kernel
theorem dX1_become_132 : decode cX1_become 132 = .ok (.lload_n 3, 1) := by decide +kernel
theorem dX1_become_133 : decode cX1_become 133 = .ok (.ldc2_w 48, 3) := by decide +kernel
theorem dX1_become_136 : decode cX1_become 136 = .ok (.land, 1) := by decide +kernel
theorem dX1_become_137 : decode cX1_become 137 = .ok (.lconst 0, 1) := by decide +kernel
theorem dX1_become_138 : decode cX1_become 138 = .ok (.lcmp, 1) := by decide +kernel
theorem dX1_become_139 : decode cX1_become 139 = .ok (.ifCond .eq 7, 3) := by decide +kernel
theorem dX1_become_142 : decode cX1_become 142 = .ok (.iconst 1, 1) := by decide +kernel
theorem dX1_become_143 : decode cX1_become 143 = .ok (.goto 4, 3) := by decide +kernel
theorem dX1_become_146 : decode cX1_become 146 = .ok (.iconst 0, 1) := by decide +kernel
theorem dX1_become_147 : decode cX1_become 147 = .ok (.putfield 50, 3) := by decide +kernel
theorem dX1_become_150 : decode cX1_become 150 = .ok (.aload_n 0, 1) := by decide +kernel
theorem dX1_become_151 : decode cX1_become 151 = .ok (.lload_n 3, 1) := by decide +kernel
theorem dX1_become_152 : decode cX1_become 152 = .ok (.bipush 12, 2) := by decide +kernel
theorem dX1_become_154 : decode cX1_become 154 = .ok (.lshr, 1) := by decide +kernel
theorem dX1_become_155 : decode cX1_become 155 = .ok (.l2i, 1) := by decide +kernel
theorem dX1_become_156 : decode cX1_become 156 = .ok (.sipush 4095, 3) := by decide +kernel
theorem dX1_become_159 : decode cX1_become 159 = .ok (.iand, 1) := by decide +kernel
theorem dX1_become_160 : decode cX1_become 160 = .ok (.putfield 53, 3) := by decide +kernel
theorem dX1_become_163 : decode cX1_become 163 = .ok (.return_, 1) := by decide +kernel
theorem dX1_refusal_0 : decode cX1_refusal 0 = .ok (.aload_n 0, 1) := by decide +kernel
theorem dX1_refusal_1 : decode cX1_refusal 1 = .ok (.getfield 11, 3) := by decide +kernel
theorem dX1_refusal_4 : decode cX1_refusal 4 = .ok (.ifCond .ne 5, 3) := by decide +kernel
theorem dX1_refusal_7 : decode cX1_refusal 7 = .ok (.iconst 1, 1) := by decide +kernel
theorem dX1_refusal_8 : decode cX1_refusal 8 = .ok (.ireturn, 1) := by decide +kernel
theorem dX1_refusal_9 : decode cX1_refusal 9 = .ok (.iload_n 1, 1) := by decide +kernel
theorem dX1_refusal_10 : decode cX1_refusal 10 = .ok (.aload_n 0, 1) := by decide +kernel
theorem dX1_refusal_11 : decode cX1_refusal 11 = .ok (.getfield 26, 3) := by decide +kernel
theorem dX1_refusal_14 : decode cX1_refusal 14 = .ok (.if_icmp .le 5, 3) := by decide +kernel
theorem dX1_refusal_17 : decode cX1_refusal 17 = .ok (.iconst 3, 1) := by decide +kernel
theorem dX1_refusal_18 : decode cX1_refusal 18 = .ok (.ireturn, 1) := by decide +kernel
theorem dX1_refusal_19 : decode cX1_refusal 19 = .ok (.iload_n 3, 1) := by decide +kernel
theorem dX1_refusal_20 : decode cX1_refusal 20 = .ok (.ifCond .ne 28, 3) := by decide +kernel
theorem dX1_refusal_23 : decode cX1_refusal 23 = .ok (.aload_n 0, 1) := by decide +kernel
theorem dX1_refusal_24 : decode cX1_refusal 24 = .ok (.getfield 40, 3) := by decide +kernel
theorem dX1_refusal_27 : decode cX1_refusal 27 = .ok (.ifCond .eq 15, 3) := by decide +kernel
theorem dX1_refusal_30 : decode cX1_refusal 30 = .ok (.iload_n 2, 1) := by decide +kernel
theorem dX1_refusal_31 : decode cX1_refusal 31 = .ok (.aload_n 0, 1) := by decide +kernel
theorem dX1_refusal_32 : decode cX1_refusal 32 = .ok (.getfield 32, 3) := by decide +kernel
theorem dX1_refusal_35 : decode cX1_refusal 35 = .ok (.if_icmp .gt 7, 3) := by decide +kernel
theorem dX1_refusal_38 : decode cX1_refusal 38 = .ok (.iconst 1, 1) := by decide +kernel
theorem dX1_refusal_39 : decode cX1_refusal 39 = .ok (.goto 4, 3) := by decide +kernel
theorem dX1_refusal_42 : decode cX1_refusal 42 = .ok (.iconst 0, 1) := by decide +kernel
theorem dX1_refusal_43 : decode cX1_refusal 43 = .ok (.istore 4, 2) := by decide +kernel
theorem dX1_refusal_45 : decode cX1_refusal 45 = .ok (.goto 63, 3) := by decide +kernel
theorem dX1_refusal_48 : decode cX1_refusal 48 = .ok (.iload_n 3, 1) := by decide +kernel
theorem dX1_refusal_49 : decode cX1_refusal 49 = .ok (.iconst 1, 1) := by decide +kernel
theorem dX1_refusal_50 : decode cX1_refusal 50 = .ok (.if_icmp .ne 28, 3) := by decide +kernel
theorem dX1_refusal_53 : decode cX1_refusal 53 = .ok (.aload_n 0, 1) := by decide +kernel
theorem dX1_refusal_54 : decode cX1_refusal 54 = .ok (.getfield 45, 3) := by decide +kernel
theorem dX1_refusal_57 : decode cX1_refusal 57 = .ok (.ifCond .eq 15, 3) := by decide +kernel
theorem dX1_refusal_60 : decode cX1_refusal 60 = .ok (.iload_n 2, 1) := by decide +kernel
theorem dX1_refusal_61 : decode cX1_refusal 61 = .ok (.aload_n 0, 1) := by decide +kernel
theorem dX1_refusal_62 : decode cX1_refusal 62 = .ok (.getfield 29, 3) := by decide +kernel
theorem dX1_refusal_65 : decode cX1_refusal 65 = .ok (.if_icmp .gt 7, 3) := by decide +kernel
theorem dX1_refusal_68 : decode cX1_refusal 68 = .ok (.iconst 1, 1) := by decide +kernel
theorem dX1_refusal_69 : decode cX1_refusal 69 = .ok (.goto 4, 3) := by decide +kernel
theorem dX1_refusal_72 : decode cX1_refusal 72 = .ok (.iconst 0, 1) := by decide +kernel
theorem dX1_refusal_73 : decode cX1_refusal 73 = .ok (.istore 4, 2) := by decide +kernel
theorem dX1_refusal_75 : decode cX1_refusal 75 = .ok (.goto 33, 3) := by decide +kernel
theorem dX1_refusal_78 : decode cX1_refusal 78 = .ok (.aload_n 0, 1) := by decide +kernel
theorem dX1_refusal_79 : decode cX1_refusal 79 = .ok (.getfield 50, 3) := by decide +kernel
theorem dX1_refusal_82 : decode cX1_refusal 82 = .ok (.ifCond .eq 23, 3) := by decide +kernel
theorem dX1_refusal_85 : decode cX1_refusal 85 = .ok (.iload_n 2, 1) := by decide +kernel
theorem dX1_refusal_86 : decode cX1_refusal 86 = .ok (.aload_n 0, 1) := by decide +kernel
theorem dX1_refusal_87 : decode cX1_refusal 87 = .ok (.getfield 29, 3) := by decide +kernel
theorem dX1_refusal_90 : decode cX1_refusal 90 = .ok (.if_icmp .lt 15, 3) := by decide +kernel
theorem dX1_refusal_93 : decode cX1_refusal 93 = .ok (.iload_n 2, 1) := by decide +kernel
theorem dX1_refusal_94 : decode cX1_refusal 94 = .ok (.aload_n 0, 1) := by decide +kernel
theorem dX1_refusal_95 : decode cX1_refusal 95 = .ok (.getfield 32, 3) := by decide +kernel
theorem dX1_refusal_98 : decode cX1_refusal 98 = .ok (.if_icmp .gt 7, 3) := by decide +kernel
theorem dX1_refusal_101 : decode cX1_refusal 101 = .ok (.iconst 1, 1) := by decide +kernel
theorem dX1_refusal_102 : decode cX1_refusal 102 = .ok (.goto 4, 3) := by decide +kernel
theorem dX1_refusal_105 : decode cX1_refusal 105 = .ok (.iconst 0, 1) := by decide +kernel
theorem dX1_refusal_106 : decode cX1_refusal 106 = .ok (.istore 4, 2) := by decide +kernel
theorem dX1_refusal_108 : decode cX1_refusal 108 = .ok (.iload 4, 2) := by decide +kernel
theorem dX1_refusal_110 : decode cX1_refusal 110 = .ok (.ifCond .eq 7, 3) := by decide +kernel
theorem dX1_refusal_113 : decode cX1_refusal 113 = .ok (.iconst 0, 1) := by decide +kernel
theorem dX1_refusal_114 : decode cX1_refusal 114 = .ok (.goto 4, 3) := by decide +kernel
theorem dX1_refusal_117 : decode cX1_refusal 117 = .ok (.iconst 4, 1) := by decide +kernel
theorem dX1_refusal_118 : decode cX1_refusal 118 = .ok (.ireturn, 1) := by decide +kernel
theorem dX1_ringOfCall_0 : decode cX1_ringOfCall 0 = .ok (.iload_n 2, 1) := by decide +kernel
theorem dX1_ringOfCall_1 : decode cX1_ringOfCall 1 = .ok (.aload_n 0, 1) := by decide +kernel
theorem dX1_ringOfCall_2 : decode cX1_ringOfCall 2 = .ok (.getfield 29, 3) := by decide +kernel
theorem dX1_ringOfCall_5 : decode cX1_ringOfCall 5 = .ok (.if_icmp .lt 13, 3) := by decide +kernel
theorem dX1_ringOfCall_8 : decode cX1_ringOfCall 8 = .ok (.iload_n 2, 1) := by decide +kernel
theorem dX1_ringOfCall_9 : decode cX1_ringOfCall 9 = .ok (.aload_n 0, 1) := by decide +kernel
theorem dX1_ringOfCall_10 : decode cX1_ringOfCall 10 = .ok (.getfield 32, 3) := by decide +kernel
theorem dX1_ringOfCall_13 : decode cX1_ringOfCall 13 = .ok (.if_icmp .gt 5, 3) := by decide +kernel
theorem dX1_ringOfCall_16 : decode cX1_ringOfCall 16 = .ok (.iload_n 2, 1) := by decide +kernel
theorem dX1_ringOfCall_17 : decode cX1_ringOfCall 17 = .ok (.ireturn, 1) := by decide +kernel
theorem dX1_ringOfCall_18 : decode cX1_ringOfCall 18 = .ok (.iload_n 2, 1) := by decide +kernel
theorem dX1_ringOfCall_19 : decode cX1_ringOfCall 19 = .ok (.aload_n 0, 1) := by decide +kernel
theorem dX1_ringOfCall_20 : decode cX1_ringOfCall 20 = .ok (.getfield 32, 3) := by decide +kernel
theorem dX1_ringOfCall_23 : decode cX1_ringOfCall 23 = .ok (.if_icmp .le 26, 3) := by decide +kernel
theorem dX1_ringOfCall_26 : decode cX1_ringOfCall 26 = .ok (.iload_n 2, 1) := by decide +kernel
theorem dX1_ringOfCall_27 : decode cX1_ringOfCall 27 = .ok (.aload_n 0, 1) := by decide +kernel
theorem dX1_ringOfCall_28 : decode cX1_ringOfCall 28 = .ok (.getfield 35, 3) := by decide +kernel
theorem dX1_ringOfCall_31 : decode cX1_ringOfCall 31 = .ok (.if_icmp .gt 18, 3) := by decide +kernel
theorem dX1_ringOfCall_34 : decode cX1_ringOfCall 34 = .ok (.iload_n 1, 1) := by decide +kernel
theorem dX1_ringOfCall_35 : decode cX1_ringOfCall 35 = .ok (.aload_n 0, 1) := by decide +kernel
theorem dX1_ringOfCall_36 : decode cX1_ringOfCall 36 = .ok (.getfield 53, 3) := by decide +kernel
theorem dX1_ringOfCall_39 : decode cX1_ringOfCall 39 = .ok (.if_icmp .ge 10, 3) := by decide +kernel
theorem dX1_ringOfCall_42 : decode cX1_ringOfCall 42 = .ok (.aload_n 0, 1) := by decide +kernel
theorem dX1_ringOfCall_43 : decode cX1_ringOfCall 43 = .ok (.getfield 32, 3) := by decide +kernel
theorem dX1_ringOfCall_46 : decode cX1_ringOfCall 46 = .ok (.goto 4, 3) := by decide +kernel
theorem dX1_ringOfCall_49 : decode cX1_ringOfCall 49 = .ok (.iconst (-1), 1) := by decide +kernel
theorem dX1_ringOfCall_50 : decode cX1_ringOfCall 50 = .ok (.ireturn, 1) := by decide +kernel
theorem kw8 : Cond.constantLong RX1 9 34359738368 ∈ gG := inG 404 (by decide +kernel) (by decide +kernel)
theorem kw9 : Cond.fieldLink RX1 11 RX1 "isThere" "Z" ∈ gG := inG 98 (by decide +kernel) (by decide +kernel)
theorem kw10 : Cond.constantLong RX1 17 17179869184 ∈ gG := inG 405 (by decide +kernel) (by decide +kernel)
theorem kw11 : Cond.fieldLink RX1 19 RX1 "isPaged" "Z" ∈ gG := inG 101 (by decide +kernel) (by decide +kernel)
theorem kw12 : Cond.fieldLink RX1 22 RX1 "base" "I" ∈ gG := inG 103 (by decide +kernel) (by decide +kernel)
theorem kw13 : Cond.fieldLink RX1 26 RX1 "bound" "I" ∈ gG := inG 105 (by decide +kernel) (by decide +kernel)
theorem kw14 : Cond.fieldLink RX1 29 RX1 "r1" "I" ∈ gG := inG 106 (by decide +kernel) (by decide +kernel)
theorem kw15 : Cond.fieldLink RX1 32 RX1 "r2" "I" ∈ gG := inG 108 (by decide +kernel) (by decide +kernel)
theorem kw16 : Cond.fieldLink RX1 35 RX1 "r3" "I" ∈ gG := inG 109 (by decide +kernel) (by decide +kernel)
theorem kw17 : Cond.constantLong RX1 38 512 ∈ gG := inG 406 (by decide +kernel) (by decide +kernel)
theorem kw18 : Cond.fieldLink RX1 40 RX1 "mayBeRead" "Z" ∈ gG := inG 110 (by decide +kernel) (by decide +kernel)
theorem kw19 : Cond.constantLong RX1 43 1024 ∈ gG := inG 407 (by decide +kernel) (by decide +kernel)
theorem kw20 : Cond.fieldLink RX1 45 RX1 "mayBeWritten" "Z" ∈ gG := inG 111 (by decide +kernel) (by decide +kernel)
theorem kw21 : Cond.constantLong RX1 48 2048 ∈ gG := inG 408 (by decide +kernel) (by decide +kernel)
theorem kw22 : Cond.fieldLink RX1 50 RX1 "mayBeExecuted" "Z" ∈ gG := inG 112 (by decide +kernel) (by decide +kernel)
theorem kw23 : Cond.fieldLink RX1 53 RX1 "gates" "I" ∈ gG := inG 114 (by decide +kernel) (by decide +kernel)
end
section
def fnX1_become (x : TD) (a0 : Int64) (a1 : Int64) : TD :=
  ((if (a0 &&& (34359738368 : Int64)) = (0 : Int64) then (0 : Int32) else 1), (if (a0 &&& (17179869184 : Int64)) = (0 : Int64) then (0 : Int32) else 1), ((a0).toInt32 &&& (4095 : Int32)), (((a0 >>> (((12 : Int32)).toInt64 &&& 63))).toInt32 &&& (4095 : Int32)), ((a1).toInt32 &&& (7 : Int32)), (((a1 >>> (((3 : Int32)).toInt64 &&& 63))).toInt32 &&& (7 : Int32)), (((a1 >>> (((6 : Int32)).toInt64 &&& 63))).toInt32 &&& (7 : Int32)), (if (a1 &&& (512 : Int64)) = (0 : Int64) then (0 : Int32) else 1), (if (a1 &&& (1024 : Int64)) = (0 : Int64) then (0 : Int32) else 1), (if (a1 &&& (2048 : Int64)) = (0 : Int64) then (0 : Int32) else 1), (((a1 >>> (((12 : Int32)).toInt64 &&& 63))).toInt32 &&& (4095 : Int32)))
abbrev ivX1_becomeP (z : TD) : Prop := iD z
set_option maxRecDepth 100000 in
set_option maxHeartbeats 4000000 in
theorem ivX1_become (x : TD) (a0 : Int64) (a1 : Int64) (hI : iD x) : ivX1_becomeP (fnX1_become x a0 a1) := by
  unfold fnX1_become
  try dsimp only
  exact ⟨(mk3 _), (mk3 _)⟩
set_option maxRecDepth 100000 in
set_option maxHeartbeats 4000000 in
theorem okX1_become (l : Launch) (D : va_G) (cI cJ cP : ClassId) (b0 : Nat) (sz : Nat) (x : TD) (a0 : Int64) (a1 : Int64) (hI : iD x) : Met l yX1_become (Cond.code yX1_become cX1_become 5 none :: gG) { frames := 0, cells := 0, slots := 0, locals := 0 } (va_Pc [.ref (b0), .long a0, .long a1] (PRE D (tz cI cJ cP) sz (wD b0 x))) (va_Qv (fun (u : TD) => u = fnX1_become x a0 a1) (AT D (tz cI cJ cP) (va_A (wD b0 x) sz) (fun (u : TD) => (wD b0 u))) (va_A (wD b0 x) sz)) 0 0 (va_A (wD b0 x) sz) := by
  refine mo (QA := fun A => va_Qv (fun (u : TD) => u = fnX1_become x a0 a1) (AT D (tz cI cJ cP) A (fun (u : TD) => (wD b0 u))) A) (by decide) (Nat.le_of_ble_eq_true rfl) ?_
  intro p e s m below meth c A ls H hx hb hr hml hown hG hlocks hnm hA hS hP hK hD hl hN
  have hown : s.vm.findClass RX1 = some m.cls := hown
  have hl : lv_has ls 5 [(0, .ref (b0)), (1, .long a0), (3, .long a1)] := hl
  refine lv_aload_n hx hb dX1_become_0 rfl (lv_at hl 0 rfl) ?_
  refine lv_lload_n hx hb dX1_become_1 rfl (lv_at hl 1 rfl) ?_
  refine lv_ldc2 (v := 34359738368) hx hb hown (hG _ kw8) dX1_become_2 ?_
  refine lv_land hx hb dX1_become_5 ?_
  refine lv_lconst (v := 0) hx hb dX1_become_6 (by decide) ?_
  refine lq_b hx hb dX1_become_7 dX1_become_8 dX1_become_11 dX1_become_12 dX1_become_15 ?_
  refine pu (D := D) (ci := 1) (v := .int ((if (a0 &&& (34359738368 : Int64)) = (0 : Int64) then (0 : Int32) else 1))) (ty := .boolean) (W' := (wD b0 ((if (a0 &&& (34359738368 : Int64)) = (0 : Int64) then (0 : Int32) else 1), x.2.1, x.2.2.1, x.2.2.2.1, x.2.2.2.2.1, x.2.2.2.2.2.1, x.2.2.2.2.2.2.1, x.2.2.2.2.2.2.2.1, x.2.2.2.2.2.2.2.2.1, x.2.2.2.2.2.2.2.2.2.1, x.2.2.2.2.2.2.2.2.2.2))) hx hb hG inX1 tyX1 tyokX1 nmX1 hown hK hP hD hS 0 rfl rfl 0 (by decide) (hG _ kw9) (fun _ h9 => h9) rfl (by decide +kernel) nb1 nb2 (Nat.le_of_ble_eq_true rfl) dX1_become_16 rfl (fun H locs hP hD hS => ?_)
  refine lv_aload_n hx hb dX1_become_19 rfl (lv_at hl 0 rfl) ?_
  refine lv_lload_n hx hb dX1_become_20 rfl (lv_at hl 1 rfl) ?_
  refine lv_ldc2 (v := 17179869184) hx hb hown (hG _ kw10) dX1_become_21 ?_
  refine lv_land hx hb dX1_become_24 ?_
  refine lv_lconst (v := 0) hx hb dX1_become_25 (by decide) ?_
  refine lq_b hx hb dX1_become_26 dX1_become_27 dX1_become_30 dX1_become_31 dX1_become_34 ?_
  refine pu (D := D) (ci := 1) (v := .int ((if (a0 &&& (17179869184 : Int64)) = (0 : Int64) then (0 : Int32) else 1))) (ty := .boolean) (W' := (wD b0 ((if (a0 &&& (34359738368 : Int64)) = (0 : Int64) then (0 : Int32) else 1), (if (a0 &&& (17179869184 : Int64)) = (0 : Int64) then (0 : Int32) else 1), x.2.2.1, x.2.2.2.1, x.2.2.2.2.1, x.2.2.2.2.2.1, x.2.2.2.2.2.2.1, x.2.2.2.2.2.2.2.1, x.2.2.2.2.2.2.2.2.1, x.2.2.2.2.2.2.2.2.2.1, x.2.2.2.2.2.2.2.2.2.2))) hx hb hG inX1 tyX1 tyokX1 nmX1 hown hK hP hD hS 0 rfl rfl 1 (by decide) (hG _ kw11) (fun _ h9 => h9) rfl (by decide +kernel) nb1 nb2 (Nat.le_of_ble_eq_true rfl) dX1_become_35 rfl (fun H locs hP hD hS => ?_)
  refine lv_aload_n hx hb dX1_become_38 rfl (lv_at hl 0 rfl) ?_
  refine lv_lload_n hx hb dX1_become_39 rfl (lv_at hl 1 rfl) ?_
  refine lv_l2i hx hb dX1_become_40 rfl ?_
  refine lv_sipush (v := 4095) hx hb dX1_become_41 (by decide) ?_
  refine lv_iand hx hb dX1_become_44 ?_
  refine pu (D := D) (ci := 1) (v := .int (((a0).toInt32 &&& (4095 : Int32)))) (ty := .int) (W' := (wD b0 ((if (a0 &&& (34359738368 : Int64)) = (0 : Int64) then (0 : Int32) else 1), (if (a0 &&& (17179869184 : Int64)) = (0 : Int64) then (0 : Int32) else 1), ((a0).toInt32 &&& (4095 : Int32)), x.2.2.2.1, x.2.2.2.2.1, x.2.2.2.2.2.1, x.2.2.2.2.2.2.1, x.2.2.2.2.2.2.2.1, x.2.2.2.2.2.2.2.2.1, x.2.2.2.2.2.2.2.2.2.1, x.2.2.2.2.2.2.2.2.2.2))) hx hb hG inX1 tyX1 tyokX1 nmX1 hown hK hP hD hS 0 rfl rfl 2 (by decide) (hG _ kw12) (fun _ h9 => h9) rfl (by decide +kernel) rfl rfl (Nat.le_of_ble_eq_true rfl) dX1_become_45 rfl (fun H locs hP hD hS => ?_)
  refine lv_aload_n hx hb dX1_become_48 rfl (lv_at hl 0 rfl) ?_
  refine lv_lload_n hx hb dX1_become_49 rfl (lv_at hl 1 rfl) ?_
  refine lv_bipush (v := 12) hx hb dX1_become_50 (by decide) ?_
  refine lv_lshr hx hb dX1_become_52 rfl ?_
  refine lv_l2i hx hb dX1_become_53 rfl ?_
  refine lv_sipush (v := 4095) hx hb dX1_become_54 (by decide) ?_
  refine lv_iand hx hb dX1_become_57 ?_
  refine pu (D := D) (ci := 1) (v := .int ((((a0 >>> (((12 : Int32)).toInt64 &&& 63))).toInt32 &&& (4095 : Int32)))) (ty := .int) (W' := (wD b0 ((if (a0 &&& (34359738368 : Int64)) = (0 : Int64) then (0 : Int32) else 1), (if (a0 &&& (17179869184 : Int64)) = (0 : Int64) then (0 : Int32) else 1), ((a0).toInt32 &&& (4095 : Int32)), (((a0 >>> (((12 : Int32)).toInt64 &&& 63))).toInt32 &&& (4095 : Int32)), x.2.2.2.2.1, x.2.2.2.2.2.1, x.2.2.2.2.2.2.1, x.2.2.2.2.2.2.2.1, x.2.2.2.2.2.2.2.2.1, x.2.2.2.2.2.2.2.2.2.1, x.2.2.2.2.2.2.2.2.2.2))) hx hb hG inX1 tyX1 tyokX1 nmX1 hown hK hP hD hS 0 rfl rfl 3 (by decide) (hG _ kw13) (fun _ h9 => h9) rfl (by decide +kernel) rfl rfl (Nat.le_of_ble_eq_true rfl) dX1_become_58 rfl (fun H locs hP hD hS => ?_)
  refine lv_aload_n hx hb dX1_become_61 rfl (lv_at hl 0 rfl) ?_
  refine lv_lload_n hx hb dX1_become_62 rfl (lv_at hl 2 rfl) ?_
  refine lv_l2i hx hb dX1_become_63 rfl ?_
  refine lv_bipush (v := 7) hx hb dX1_become_64 (by decide) ?_
  refine lv_iand hx hb dX1_become_66 ?_
  refine pu (D := D) (ci := 1) (v := .int (((a1).toInt32 &&& (7 : Int32)))) (ty := .int) (W' := (wD b0 ((if (a0 &&& (34359738368 : Int64)) = (0 : Int64) then (0 : Int32) else 1), (if (a0 &&& (17179869184 : Int64)) = (0 : Int64) then (0 : Int32) else 1), ((a0).toInt32 &&& (4095 : Int32)), (((a0 >>> (((12 : Int32)).toInt64 &&& 63))).toInt32 &&& (4095 : Int32)), ((a1).toInt32 &&& (7 : Int32)), x.2.2.2.2.2.1, x.2.2.2.2.2.2.1, x.2.2.2.2.2.2.2.1, x.2.2.2.2.2.2.2.2.1, x.2.2.2.2.2.2.2.2.2.1, x.2.2.2.2.2.2.2.2.2.2))) hx hb hG inX1 tyX1 tyokX1 nmX1 hown hK hP hD hS 0 rfl rfl 4 (by decide) (hG _ kw14) (fun _ h9 => h9) rfl (by decide +kernel) rfl rfl (Nat.le_of_ble_eq_true rfl) dX1_become_67 rfl (fun H locs hP hD hS => ?_)
  refine lv_aload_n hx hb dX1_become_70 rfl (lv_at hl 0 rfl) ?_
  refine lv_lload_n hx hb dX1_become_71 rfl (lv_at hl 2 rfl) ?_
  refine lv_iconst (v := 3) hx hb dX1_become_72 (by decide) ?_
  refine lv_lshr hx hb dX1_become_73 rfl ?_
  refine lv_l2i hx hb dX1_become_74 rfl ?_
  refine lv_bipush (v := 7) hx hb dX1_become_75 (by decide) ?_
  refine lv_iand hx hb dX1_become_77 ?_
  refine pu (D := D) (ci := 1) (v := .int ((((a1 >>> (((3 : Int32)).toInt64 &&& 63))).toInt32 &&& (7 : Int32)))) (ty := .int) (W' := (wD b0 ((if (a0 &&& (34359738368 : Int64)) = (0 : Int64) then (0 : Int32) else 1), (if (a0 &&& (17179869184 : Int64)) = (0 : Int64) then (0 : Int32) else 1), ((a0).toInt32 &&& (4095 : Int32)), (((a0 >>> (((12 : Int32)).toInt64 &&& 63))).toInt32 &&& (4095 : Int32)), ((a1).toInt32 &&& (7 : Int32)), (((a1 >>> (((3 : Int32)).toInt64 &&& 63))).toInt32 &&& (7 : Int32)), x.2.2.2.2.2.2.1, x.2.2.2.2.2.2.2.1, x.2.2.2.2.2.2.2.2.1, x.2.2.2.2.2.2.2.2.2.1, x.2.2.2.2.2.2.2.2.2.2))) hx hb hG inX1 tyX1 tyokX1 nmX1 hown hK hP hD hS 0 rfl rfl 5 (by decide) (hG _ kw15) (fun _ h9 => h9) rfl (by decide +kernel) rfl rfl (Nat.le_of_ble_eq_true rfl) dX1_become_78 rfl (fun H locs hP hD hS => ?_)
  refine lv_aload_n hx hb dX1_become_81 rfl (lv_at hl 0 rfl) ?_
  refine lv_lload_n hx hb dX1_become_82 rfl (lv_at hl 2 rfl) ?_
  refine lv_bipush (v := 6) hx hb dX1_become_83 (by decide) ?_
  refine lv_lshr hx hb dX1_become_85 rfl ?_
  refine lv_l2i hx hb dX1_become_86 rfl ?_
  refine lv_bipush (v := 7) hx hb dX1_become_87 (by decide) ?_
  refine lv_iand hx hb dX1_become_89 ?_
  refine pu (D := D) (ci := 1) (v := .int ((((a1 >>> (((6 : Int32)).toInt64 &&& 63))).toInt32 &&& (7 : Int32)))) (ty := .int) (W' := (wD b0 ((if (a0 &&& (34359738368 : Int64)) = (0 : Int64) then (0 : Int32) else 1), (if (a0 &&& (17179869184 : Int64)) = (0 : Int64) then (0 : Int32) else 1), ((a0).toInt32 &&& (4095 : Int32)), (((a0 >>> (((12 : Int32)).toInt64 &&& 63))).toInt32 &&& (4095 : Int32)), ((a1).toInt32 &&& (7 : Int32)), (((a1 >>> (((3 : Int32)).toInt64 &&& 63))).toInt32 &&& (7 : Int32)), (((a1 >>> (((6 : Int32)).toInt64 &&& 63))).toInt32 &&& (7 : Int32)), x.2.2.2.2.2.2.2.1, x.2.2.2.2.2.2.2.2.1, x.2.2.2.2.2.2.2.2.2.1, x.2.2.2.2.2.2.2.2.2.2))) hx hb hG inX1 tyX1 tyokX1 nmX1 hown hK hP hD hS 0 rfl rfl 6 (by decide) (hG _ kw16) (fun _ h9 => h9) rfl (by decide +kernel) rfl rfl (Nat.le_of_ble_eq_true rfl) dX1_become_90 rfl (fun H locs hP hD hS => ?_)
  refine lv_aload_n hx hb dX1_become_93 rfl (lv_at hl 0 rfl) ?_
  refine lv_lload_n hx hb dX1_become_94 rfl (lv_at hl 2 rfl) ?_
  refine lv_ldc2 (v := 512) hx hb hown (hG _ kw17) dX1_become_95 ?_
  refine lv_land hx hb dX1_become_98 ?_
  refine lv_lconst (v := 0) hx hb dX1_become_99 (by decide) ?_
  refine lq_b hx hb dX1_become_100 dX1_become_101 dX1_become_104 dX1_become_105 dX1_become_108 ?_
  refine pu (D := D) (ci := 1) (v := .int ((if (a1 &&& (512 : Int64)) = (0 : Int64) then (0 : Int32) else 1))) (ty := .boolean) (W' := (wD b0 ((if (a0 &&& (34359738368 : Int64)) = (0 : Int64) then (0 : Int32) else 1), (if (a0 &&& (17179869184 : Int64)) = (0 : Int64) then (0 : Int32) else 1), ((a0).toInt32 &&& (4095 : Int32)), (((a0 >>> (((12 : Int32)).toInt64 &&& 63))).toInt32 &&& (4095 : Int32)), ((a1).toInt32 &&& (7 : Int32)), (((a1 >>> (((3 : Int32)).toInt64 &&& 63))).toInt32 &&& (7 : Int32)), (((a1 >>> (((6 : Int32)).toInt64 &&& 63))).toInt32 &&& (7 : Int32)), (if (a1 &&& (512 : Int64)) = (0 : Int64) then (0 : Int32) else 1), x.2.2.2.2.2.2.2.2.1, x.2.2.2.2.2.2.2.2.2.1, x.2.2.2.2.2.2.2.2.2.2))) hx hb hG inX1 tyX1 tyokX1 nmX1 hown hK hP hD hS 0 rfl rfl 7 (by decide) (hG _ kw18) (fun _ h9 => h9) rfl (by decide +kernel) nb1 nb2 (Nat.le_of_ble_eq_true rfl) dX1_become_109 rfl (fun H locs hP hD hS => ?_)
  refine lv_aload_n hx hb dX1_become_112 rfl (lv_at hl 0 rfl) ?_
  refine lv_lload_n hx hb dX1_become_113 rfl (lv_at hl 2 rfl) ?_
  refine lv_ldc2 (v := 1024) hx hb hown (hG _ kw19) dX1_become_114 ?_
  refine lv_land hx hb dX1_become_117 ?_
  refine lv_lconst (v := 0) hx hb dX1_become_118 (by decide) ?_
  refine lq_b hx hb dX1_become_119 dX1_become_120 dX1_become_123 dX1_become_124 dX1_become_127 ?_
  refine pu (D := D) (ci := 1) (v := .int ((if (a1 &&& (1024 : Int64)) = (0 : Int64) then (0 : Int32) else 1))) (ty := .boolean) (W' := (wD b0 ((if (a0 &&& (34359738368 : Int64)) = (0 : Int64) then (0 : Int32) else 1), (if (a0 &&& (17179869184 : Int64)) = (0 : Int64) then (0 : Int32) else 1), ((a0).toInt32 &&& (4095 : Int32)), (((a0 >>> (((12 : Int32)).toInt64 &&& 63))).toInt32 &&& (4095 : Int32)), ((a1).toInt32 &&& (7 : Int32)), (((a1 >>> (((3 : Int32)).toInt64 &&& 63))).toInt32 &&& (7 : Int32)), (((a1 >>> (((6 : Int32)).toInt64 &&& 63))).toInt32 &&& (7 : Int32)), (if (a1 &&& (512 : Int64)) = (0 : Int64) then (0 : Int32) else 1), (if (a1 &&& (1024 : Int64)) = (0 : Int64) then (0 : Int32) else 1), x.2.2.2.2.2.2.2.2.2.1, x.2.2.2.2.2.2.2.2.2.2))) hx hb hG inX1 tyX1 tyokX1 nmX1 hown hK hP hD hS 0 rfl rfl 8 (by decide) (hG _ kw20) (fun _ h9 => h9) rfl (by decide +kernel) nb1 nb2 (Nat.le_of_ble_eq_true rfl) dX1_become_128 rfl (fun H locs hP hD hS => ?_)
  refine lv_aload_n hx hb dX1_become_131 rfl (lv_at hl 0 rfl) ?_
  refine lv_lload_n hx hb dX1_become_132 rfl (lv_at hl 2 rfl) ?_
  refine lv_ldc2 (v := 2048) hx hb hown (hG _ kw21) dX1_become_133 ?_
  refine lv_land hx hb dX1_become_136 ?_
  refine lv_lconst (v := 0) hx hb dX1_become_137 (by decide) ?_
  refine lq_b hx hb dX1_become_138 dX1_become_139 dX1_become_142 dX1_become_143 dX1_become_146 ?_
  refine pu (D := D) (ci := 1) (v := .int ((if (a1 &&& (2048 : Int64)) = (0 : Int64) then (0 : Int32) else 1))) (ty := .boolean) (W' := (wD b0 ((if (a0 &&& (34359738368 : Int64)) = (0 : Int64) then (0 : Int32) else 1), (if (a0 &&& (17179869184 : Int64)) = (0 : Int64) then (0 : Int32) else 1), ((a0).toInt32 &&& (4095 : Int32)), (((a0 >>> (((12 : Int32)).toInt64 &&& 63))).toInt32 &&& (4095 : Int32)), ((a1).toInt32 &&& (7 : Int32)), (((a1 >>> (((3 : Int32)).toInt64 &&& 63))).toInt32 &&& (7 : Int32)), (((a1 >>> (((6 : Int32)).toInt64 &&& 63))).toInt32 &&& (7 : Int32)), (if (a1 &&& (512 : Int64)) = (0 : Int64) then (0 : Int32) else 1), (if (a1 &&& (1024 : Int64)) = (0 : Int64) then (0 : Int32) else 1), (if (a1 &&& (2048 : Int64)) = (0 : Int64) then (0 : Int32) else 1), x.2.2.2.2.2.2.2.2.2.2))) hx hb hG inX1 tyX1 tyokX1 nmX1 hown hK hP hD hS 0 rfl rfl 9 (by decide) (hG _ kw22) (fun _ h9 => h9) rfl (by decide +kernel) nb1 nb2 (Nat.le_of_ble_eq_true rfl) dX1_become_147 rfl (fun H locs hP hD hS => ?_)
  refine lv_aload_n hx hb dX1_become_150 rfl (lv_at hl 0 rfl) ?_
  refine lv_lload_n hx hb dX1_become_151 rfl (lv_at hl 2 rfl) ?_
  refine lv_bipush (v := 12) hx hb dX1_become_152 (by decide) ?_
  refine lv_lshr hx hb dX1_become_154 rfl ?_
  refine lv_l2i hx hb dX1_become_155 rfl ?_
  refine lv_sipush (v := 4095) hx hb dX1_become_156 (by decide) ?_
  refine lv_iand hx hb dX1_become_159 ?_
  refine pu (D := D) (ci := 1) (v := .int ((((a1 >>> (((12 : Int32)).toInt64 &&& 63))).toInt32 &&& (4095 : Int32)))) (ty := .int) (W' := (wD b0 ((if (a0 &&& (34359738368 : Int64)) = (0 : Int64) then (0 : Int32) else 1), (if (a0 &&& (17179869184 : Int64)) = (0 : Int64) then (0 : Int32) else 1), ((a0).toInt32 &&& (4095 : Int32)), (((a0 >>> (((12 : Int32)).toInt64 &&& 63))).toInt32 &&& (4095 : Int32)), ((a1).toInt32 &&& (7 : Int32)), (((a1 >>> (((3 : Int32)).toInt64 &&& 63))).toInt32 &&& (7 : Int32)), (((a1 >>> (((6 : Int32)).toInt64 &&& 63))).toInt32 &&& (7 : Int32)), (if (a1 &&& (512 : Int64)) = (0 : Int64) then (0 : Int32) else 1), (if (a1 &&& (1024 : Int64)) = (0 : Int64) then (0 : Int32) else 1), (if (a1 &&& (2048 : Int64)) = (0 : Int64) then (0 : Int32) else 1), (((a1 >>> (((12 : Int32)).toInt64 &&& 63))).toInt32 &&& (4095 : Int32))))) hx hb hG inX1 tyX1 tyokX1 nmX1 hown hK hP hD hS 0 rfl rfl 10 (by decide) (hG _ kw23) (fun _ h9 => h9) rfl (by decide +kernel) rfl rfl (Nat.le_of_ble_eq_true rfl) dX1_become_160 rfl (fun H locs hP hD hS => ?_)
  exact retv (u := ((if (a0 &&& (34359738368 : Int64)) = (0 : Int64) then (0 : Int32) else 1), (if (a0 &&& (17179869184 : Int64)) = (0 : Int64) then (0 : Int32) else 1), ((a0).toInt32 &&& (4095 : Int32)), (((a0 >>> (((12 : Int32)).toInt64 &&& 63))).toInt32 &&& (4095 : Int32)), ((a1).toInt32 &&& (7 : Int32)), (((a1 >>> (((3 : Int32)).toInt64 &&& 63))).toInt32 &&& (7 : Int32)), (((a1 >>> (((6 : Int32)).toInt64 &&& 63))).toInt32 &&& (7 : Int32)), (if (a1 &&& (512 : Int64)) = (0 : Int64) then (0 : Int32) else 1), (if (a1 &&& (1024 : Int64)) = (0 : Int64) then (0 : Int32) else 1), (if (a1 &&& (2048 : Int64)) = (0 : Int64) then (0 : Int32) else 1), (((a1 >>> (((12 : Int32)).toInt64 &&& 63))).toInt32 &&& (4095 : Int32)))) hx hb hr hlocks hK hP hD hS dX1_become_163 (by unfold fnX1_become; (try exact rfl))
def fnX1_refusal (x : TD) (a0 : Int32) (a1 : Int32) (a2 : Int32) : Int32 :=
  if x.1 = (0 : Int32) then
   (1 : Int32)
  else
   if a0 ≤ x.2.2.2.1 then
    if a2 = (0 : Int32) then
     if x.2.2.2.2.2.2.2.1 = (0 : Int32) then
      (4 : Int32)
     else
      if x.2.2.2.2.2.1 < a1 then
       (4 : Int32)
      else
       (0 : Int32)
    else
     if a2 = (1 : Int32) then
      if x.2.2.2.2.2.2.2.2.1 = (0 : Int32) then
       (4 : Int32)
      else
       if x.2.2.2.2.1 < a1 then
        (4 : Int32)
       else
        (0 : Int32)
     else
      if x.2.2.2.2.2.2.2.2.2.1 = (0 : Int32) then
       (4 : Int32)
      else
       if a1 < x.2.2.2.2.1 then
        (4 : Int32)
       else
        if x.2.2.2.2.2.1 < a1 then
         (4 : Int32)
        else
         (0 : Int32)
   else
    (3 : Int32)
abbrev ivX1_refusalP (z : Int32) : Prop := irf z
set_option maxRecDepth 100000 in
set_option maxHeartbeats 4000000 in
theorem ivX1_refusal (x : TD) (a0 : Int32) (a1 : Int32) (a2 : Int32) (hI : iD x) : ivX1_refusalP (fnX1_refusal x a0 a1 a2) := by
  unfold fnX1_refusal
  try dsimp only
  refine iteI (fun h1 => ?_) (fun h1 => ?_)
  · exact (Or.inr (Or.inl rfl))
  · refine iteI (fun h2 => ?_) (fun h2 => ?_)
    · refine iteI (fun h3 => ?_) (fun h3 => ?_)
      · refine iteI (fun h10 => ?_) (fun h10 => ?_)
        · exact (Or.inr (Or.inr (Or.inr rfl)))
        · refine iteI (fun h11 => ?_) (fun h11 => ?_)
          · exact (Or.inr (Or.inr (Or.inr rfl)))
          · exact (Or.inl rfl)
      · refine iteI (fun h4 => ?_) (fun h4 => ?_)
        · refine iteI (fun h8 => ?_) (fun h8 => ?_)
          · exact (Or.inr (Or.inr (Or.inr rfl)))
          · refine iteI (fun h9 => ?_) (fun h9 => ?_)
            · exact (Or.inr (Or.inr (Or.inr rfl)))
            · exact (Or.inl rfl)
        · refine iteI (fun h5 => ?_) (fun h5 => ?_)
          · exact (Or.inr (Or.inr (Or.inr rfl)))
          · refine iteI (fun h6 => ?_) (fun h6 => ?_)
            · exact (Or.inr (Or.inr (Or.inr rfl)))
            · refine iteI (fun h7 => ?_) (fun h7 => ?_)
              · exact (Or.inr (Or.inr (Or.inr rfl)))
              · exact (Or.inl rfl)
    · exact (Or.inr (Or.inr (Or.inl rfl)))
set_option maxRecDepth 100000 in
set_option maxHeartbeats 4000000 in
theorem okX1_refusal (l : Launch) (D : va_G) (cI cJ cP : ClassId) (b0 : Nat) (sz : Nat) (x : TD) (a0 : Int32) (a1 : Int32) (a2 : Int32) (hI : iD x) : Met l yX1_refusal (Cond.code yX1_refusal cX1_refusal 5 (some .int) :: gG) { frames := 0, cells := 0, slots := 0, locals := 0 } (va_Pc [.ref (b0), .int a0, .int a1, .int a2] (PRE D (tz cI cJ cP) sz (wD b0 x))) (va_Qi (fun (r : Int32) (_ : Unit) => r = fnX1_refusal x a0 a1 a2) (AT D (tz cI cJ cP) (va_A (wD b0 x) sz) (fun (_ : Unit) => (wD b0 x))) (va_A (wD b0 x) sz)) 0 0 (va_A (wD b0 x) sz) := by
  refine mo (QA := fun A => va_Qi (fun (r : Int32) (_ : Unit) => r = fnX1_refusal x a0 a1 a2) (AT D (tz cI cJ cP) A (fun (_ : Unit) => (wD b0 x))) A) (by decide) (Nat.le_of_ble_eq_true rfl) ?_
  intro p e s m below meth c A ls H hx hb hr hml hown hG hlocks hnm hA hS hP hK hD hl hN
  have hown : s.vm.findClass RX1 = some m.cls := hown
  have hl : lv_has ls 5 [(0, .ref (b0)), (1, .int a0), (2, .int a1), (3, .int a2)] := hl
  refine lv_aload_n hx hb dX1_refusal_0 rfl (lv_at hl 0 rfl) ?_
  refine va_get (D := D) (ci := 1) (v := .int (x.1)) hx hb hG inX1 hown hK hP 0 rfl rfl 0 (by decide) (hG _ kw9) (fun _ h9 => h9) rfl dX1_refusal_1 ?_
  refine lv_if_ne (tgt := 9) hx hb dX1_refusal_4 (by decide) (fun h1 => ?_) (fun h1 => ?_)
  · refine lv_iload_n hx hb dX1_refusal_9 rfl (lv_at hl 1 rfl) ?_
    refine lv_aload_n hx hb dX1_refusal_10 rfl (lv_at hl 0 rfl) ?_
    refine va_get (D := D) (ci := 1) (v := .int (x.2.2.2.1)) hx hb hG inX1 hown hK hP 0 rfl rfl 3 (by decide) (hG _ kw13) (fun _ h9 => h9) rfl dX1_refusal_11 ?_
    refine lv_icmp_le (tgt := 19) hx hb dX1_refusal_14 (by decide) (fun h2 => ?_) (fun h2 => ?_)
    · refine lv_iload_n hx hb dX1_refusal_19 rfl (lv_at hl 3 rfl) ?_
      refine lv_if_ne (tgt := 48) hx hb dX1_refusal_20 (by decide) (fun h3 => ?_) (fun h3 => ?_)
      · refine lv_iload_n hx hb dX1_refusal_48 rfl (lv_at hl 3 rfl) ?_
        refine lv_iconst (v := 1) hx hb dX1_refusal_49 (by decide) ?_
        refine lv_icmp_ne (tgt := 78) hx hb dX1_refusal_50 (by decide) (fun h4 => ?_) (fun h4 => ?_)
        · refine lv_aload_n hx hb dX1_refusal_78 rfl (lv_at hl 0 rfl) ?_
          refine va_get (D := D) (ci := 1) (v := .int (x.2.2.2.2.2.2.2.2.2.1)) hx hb hG inX1 hown hK hP 0 rfl rfl 9 (by decide) (hG _ kw22) (fun _ h9 => h9) rfl dX1_refusal_79 ?_
          refine lv_if_eq (tgt := 105) hx hb dX1_refusal_82 (by decide) (fun h5 => ?_) (fun h5 => ?_)
          · refine lv_iconst (v := 0) hx hb dX1_refusal_105 (by decide) ?_
            refine lv_istore (lv' := [(4, .int ((0 : Int32))), (0, .ref (b0)), (1, .int (a0)), (2, .int (a1)), (3, .int (a2))]) hx hb dX1_refusal_106 hl (by decide) rfl (fun ls hl => ?_)
            refine lv_iload hx hb dX1_refusal_108 (lv_at hl 0 rfl) ?_
            refine lv_if_eq (tgt := 117) hx hb dX1_refusal_110 (by decide) (fun _ => ?_) (fun h9 => absurd (by decide) h9)
            refine lv_iconst (v := 4) hx hb dX1_refusal_117 (by decide) ?_
            exact reti (u := ()) hx hb hr hlocks hK hP hD hS dX1_refusal_118 (by unfold fnX1_refusal; (try dsimp only); rw [if_neg h1]; rw [if_pos h2]; rw [if_neg h3]; rw [if_neg h4]; rw [if_pos h5]; (try exact rfl))
          · refine lv_iload_n hx hb dX1_refusal_85 rfl (lv_at hl 2 rfl) ?_
            refine lv_aload_n hx hb dX1_refusal_86 rfl (lv_at hl 0 rfl) ?_
            refine va_get (D := D) (ci := 1) (v := .int (x.2.2.2.2.1)) hx hb hG inX1 hown hK hP 0 rfl rfl 4 (by decide) (hG _ kw14) (fun _ h9 => h9) rfl dX1_refusal_87 ?_
            refine lv_icmp_lt (tgt := 105) hx hb dX1_refusal_90 (by decide) (fun h6 => ?_) (fun h6 => ?_)
            · refine lv_iconst (v := 0) hx hb dX1_refusal_105 (by decide) ?_
              refine lv_istore (lv' := [(4, .int ((0 : Int32))), (0, .ref (b0)), (1, .int (a0)), (2, .int (a1)), (3, .int (a2))]) hx hb dX1_refusal_106 hl (by decide) rfl (fun ls hl => ?_)
              refine lv_iload hx hb dX1_refusal_108 (lv_at hl 0 rfl) ?_
              refine lv_if_eq (tgt := 117) hx hb dX1_refusal_110 (by decide) (fun _ => ?_) (fun h9 => absurd (by decide) h9)
              refine lv_iconst (v := 4) hx hb dX1_refusal_117 (by decide) ?_
              exact reti (u := ()) hx hb hr hlocks hK hP hD hS dX1_refusal_118 (by unfold fnX1_refusal; (try dsimp only); rw [if_neg h1]; rw [if_pos h2]; rw [if_neg h3]; rw [if_neg h4]; rw [if_neg h5]; rw [if_pos h6]; (try exact rfl))
            · refine lv_iload_n hx hb dX1_refusal_93 rfl (lv_at hl 2 rfl) ?_
              refine lv_aload_n hx hb dX1_refusal_94 rfl (lv_at hl 0 rfl) ?_
              refine va_get (D := D) (ci := 1) (v := .int (x.2.2.2.2.2.1)) hx hb hG inX1 hown hK hP 0 rfl rfl 5 (by decide) (hG _ kw15) (fun _ h9 => h9) rfl dX1_refusal_95 ?_
              refine lv_icmp_gt (tgt := 105) hx hb dX1_refusal_98 (by decide) (fun h7 => ?_) (fun h7 => ?_)
              · refine lv_iconst (v := 0) hx hb dX1_refusal_105 (by decide) ?_
                refine lv_istore (lv' := [(4, .int ((0 : Int32))), (0, .ref (b0)), (1, .int (a0)), (2, .int (a1)), (3, .int (a2))]) hx hb dX1_refusal_106 hl (by decide) rfl (fun ls hl => ?_)
                refine lv_iload hx hb dX1_refusal_108 (lv_at hl 0 rfl) ?_
                refine lv_if_eq (tgt := 117) hx hb dX1_refusal_110 (by decide) (fun _ => ?_) (fun h9 => absurd (by decide) h9)
                refine lv_iconst (v := 4) hx hb dX1_refusal_117 (by decide) ?_
                exact reti (u := ()) hx hb hr hlocks hK hP hD hS dX1_refusal_118 (by unfold fnX1_refusal; (try dsimp only); rw [if_neg h1]; rw [if_pos h2]; rw [if_neg h3]; rw [if_neg h4]; rw [if_neg h5]; rw [if_neg h6]; rw [if_pos h7]; (try exact rfl))
              · refine lv_iconst (v := 1) hx hb dX1_refusal_101 (by decide) ?_
                refine lv_goto (tgt := 106) hx hb dX1_refusal_102 (by decide) ?_
                refine lv_istore (lv' := [(4, .int ((1 : Int32))), (0, .ref (b0)), (1, .int (a0)), (2, .int (a1)), (3, .int (a2))]) hx hb dX1_refusal_106 hl (by decide) rfl (fun ls hl => ?_)
                refine lv_iload hx hb dX1_refusal_108 (lv_at hl 0 rfl) ?_
                refine lv_if_eq (tgt := 117) hx hb dX1_refusal_110 (by decide) (fun h9 => absurd h9 (by decide)) (fun _ => ?_)
                refine lv_iconst (v := 0) hx hb dX1_refusal_113 (by decide) ?_
                refine lv_goto (tgt := 118) hx hb dX1_refusal_114 (by decide) ?_
                exact reti (u := ()) hx hb hr hlocks hK hP hD hS dX1_refusal_118 (by unfold fnX1_refusal; (try dsimp only); rw [if_neg h1]; rw [if_pos h2]; rw [if_neg h3]; rw [if_neg h4]; rw [if_neg h5]; rw [if_neg h6]; rw [if_neg h7]; (try exact rfl))
        · refine lv_aload_n hx hb dX1_refusal_53 rfl (lv_at hl 0 rfl) ?_
          refine va_get (D := D) (ci := 1) (v := .int (x.2.2.2.2.2.2.2.2.1)) hx hb hG inX1 hown hK hP 0 rfl rfl 8 (by decide) (hG _ kw20) (fun _ h9 => h9) rfl dX1_refusal_54 ?_
          refine lv_if_eq (tgt := 72) hx hb dX1_refusal_57 (by decide) (fun h8 => ?_) (fun h8 => ?_)
          · refine lv_iconst (v := 0) hx hb dX1_refusal_72 (by decide) ?_
            refine lv_istore (lv' := [(4, .int ((0 : Int32))), (0, .ref (b0)), (1, .int (a0)), (2, .int (a1)), (3, .int (a2))]) hx hb dX1_refusal_73 hl (by decide) rfl (fun ls hl => ?_)
            refine lv_goto (tgt := 108) hx hb dX1_refusal_75 (by decide) ?_
            refine lv_iload hx hb dX1_refusal_108 (lv_at hl 0 rfl) ?_
            refine lv_if_eq (tgt := 117) hx hb dX1_refusal_110 (by decide) (fun _ => ?_) (fun h9 => absurd (by decide) h9)
            refine lv_iconst (v := 4) hx hb dX1_refusal_117 (by decide) ?_
            exact reti (u := ()) hx hb hr hlocks hK hP hD hS dX1_refusal_118 (by unfold fnX1_refusal; (try dsimp only); rw [if_neg h1]; rw [if_pos h2]; rw [if_neg h3]; rw [if_pos h4]; rw [if_pos h8]; (try exact rfl))
          · refine lv_iload_n hx hb dX1_refusal_60 rfl (lv_at hl 2 rfl) ?_
            refine lv_aload_n hx hb dX1_refusal_61 rfl (lv_at hl 0 rfl) ?_
            refine va_get (D := D) (ci := 1) (v := .int (x.2.2.2.2.1)) hx hb hG inX1 hown hK hP 0 rfl rfl 4 (by decide) (hG _ kw14) (fun _ h9 => h9) rfl dX1_refusal_62 ?_
            refine lv_icmp_gt (tgt := 72) hx hb dX1_refusal_65 (by decide) (fun h9 => ?_) (fun h9 => ?_)
            · refine lv_iconst (v := 0) hx hb dX1_refusal_72 (by decide) ?_
              refine lv_istore (lv' := [(4, .int ((0 : Int32))), (0, .ref (b0)), (1, .int (a0)), (2, .int (a1)), (3, .int (a2))]) hx hb dX1_refusal_73 hl (by decide) rfl (fun ls hl => ?_)
              refine lv_goto (tgt := 108) hx hb dX1_refusal_75 (by decide) ?_
              refine lv_iload hx hb dX1_refusal_108 (lv_at hl 0 rfl) ?_
              refine lv_if_eq (tgt := 117) hx hb dX1_refusal_110 (by decide) (fun _ => ?_) (fun h9 => absurd (by decide) h9)
              refine lv_iconst (v := 4) hx hb dX1_refusal_117 (by decide) ?_
              exact reti (u := ()) hx hb hr hlocks hK hP hD hS dX1_refusal_118 (by unfold fnX1_refusal; (try dsimp only); rw [if_neg h1]; rw [if_pos h2]; rw [if_neg h3]; rw [if_pos h4]; rw [if_neg h8]; rw [if_pos h9]; (try exact rfl))
            · refine lv_iconst (v := 1) hx hb dX1_refusal_68 (by decide) ?_
              refine lv_goto (tgt := 73) hx hb dX1_refusal_69 (by decide) ?_
              refine lv_istore (lv' := [(4, .int ((1 : Int32))), (0, .ref (b0)), (1, .int (a0)), (2, .int (a1)), (3, .int (a2))]) hx hb dX1_refusal_73 hl (by decide) rfl (fun ls hl => ?_)
              refine lv_goto (tgt := 108) hx hb dX1_refusal_75 (by decide) ?_
              refine lv_iload hx hb dX1_refusal_108 (lv_at hl 0 rfl) ?_
              refine lv_if_eq (tgt := 117) hx hb dX1_refusal_110 (by decide) (fun h9 => absurd h9 (by decide)) (fun _ => ?_)
              refine lv_iconst (v := 0) hx hb dX1_refusal_113 (by decide) ?_
              refine lv_goto (tgt := 118) hx hb dX1_refusal_114 (by decide) ?_
              exact reti (u := ()) hx hb hr hlocks hK hP hD hS dX1_refusal_118 (by unfold fnX1_refusal; (try dsimp only); rw [if_neg h1]; rw [if_pos h2]; rw [if_neg h3]; rw [if_pos h4]; rw [if_neg h8]; rw [if_neg h9]; (try exact rfl))
      · refine lv_aload_n hx hb dX1_refusal_23 rfl (lv_at hl 0 rfl) ?_
        refine va_get (D := D) (ci := 1) (v := .int (x.2.2.2.2.2.2.2.1)) hx hb hG inX1 hown hK hP 0 rfl rfl 7 (by decide) (hG _ kw18) (fun _ h9 => h9) rfl dX1_refusal_24 ?_
        refine lv_if_eq (tgt := 42) hx hb dX1_refusal_27 (by decide) (fun h10 => ?_) (fun h10 => ?_)
        · refine lv_iconst (v := 0) hx hb dX1_refusal_42 (by decide) ?_
          refine lv_istore (lv' := [(4, .int ((0 : Int32))), (0, .ref (b0)), (1, .int (a0)), (2, .int (a1)), (3, .int (a2))]) hx hb dX1_refusal_43 hl (by decide) rfl (fun ls hl => ?_)
          refine lv_goto (tgt := 108) hx hb dX1_refusal_45 (by decide) ?_
          refine lv_iload hx hb dX1_refusal_108 (lv_at hl 0 rfl) ?_
          refine lv_if_eq (tgt := 117) hx hb dX1_refusal_110 (by decide) (fun _ => ?_) (fun h9 => absurd (by decide) h9)
          refine lv_iconst (v := 4) hx hb dX1_refusal_117 (by decide) ?_
          exact reti (u := ()) hx hb hr hlocks hK hP hD hS dX1_refusal_118 (by unfold fnX1_refusal; (try dsimp only); rw [if_neg h1]; rw [if_pos h2]; rw [if_pos h3]; rw [if_pos h10]; (try exact rfl))
        · refine lv_iload_n hx hb dX1_refusal_30 rfl (lv_at hl 2 rfl) ?_
          refine lv_aload_n hx hb dX1_refusal_31 rfl (lv_at hl 0 rfl) ?_
          refine va_get (D := D) (ci := 1) (v := .int (x.2.2.2.2.2.1)) hx hb hG inX1 hown hK hP 0 rfl rfl 5 (by decide) (hG _ kw15) (fun _ h9 => h9) rfl dX1_refusal_32 ?_
          refine lv_icmp_gt (tgt := 42) hx hb dX1_refusal_35 (by decide) (fun h11 => ?_) (fun h11 => ?_)
          · refine lv_iconst (v := 0) hx hb dX1_refusal_42 (by decide) ?_
            refine lv_istore (lv' := [(4, .int ((0 : Int32))), (0, .ref (b0)), (1, .int (a0)), (2, .int (a1)), (3, .int (a2))]) hx hb dX1_refusal_43 hl (by decide) rfl (fun ls hl => ?_)
            refine lv_goto (tgt := 108) hx hb dX1_refusal_45 (by decide) ?_
            refine lv_iload hx hb dX1_refusal_108 (lv_at hl 0 rfl) ?_
            refine lv_if_eq (tgt := 117) hx hb dX1_refusal_110 (by decide) (fun _ => ?_) (fun h9 => absurd (by decide) h9)
            refine lv_iconst (v := 4) hx hb dX1_refusal_117 (by decide) ?_
            exact reti (u := ()) hx hb hr hlocks hK hP hD hS dX1_refusal_118 (by unfold fnX1_refusal; (try dsimp only); rw [if_neg h1]; rw [if_pos h2]; rw [if_pos h3]; rw [if_neg h10]; rw [if_pos h11]; (try exact rfl))
          · refine lv_iconst (v := 1) hx hb dX1_refusal_38 (by decide) ?_
            refine lv_goto (tgt := 43) hx hb dX1_refusal_39 (by decide) ?_
            refine lv_istore (lv' := [(4, .int ((1 : Int32))), (0, .ref (b0)), (1, .int (a0)), (2, .int (a1)), (3, .int (a2))]) hx hb dX1_refusal_43 hl (by decide) rfl (fun ls hl => ?_)
            refine lv_goto (tgt := 108) hx hb dX1_refusal_45 (by decide) ?_
            refine lv_iload hx hb dX1_refusal_108 (lv_at hl 0 rfl) ?_
            refine lv_if_eq (tgt := 117) hx hb dX1_refusal_110 (by decide) (fun h9 => absurd h9 (by decide)) (fun _ => ?_)
            refine lv_iconst (v := 0) hx hb dX1_refusal_113 (by decide) ?_
            refine lv_goto (tgt := 118) hx hb dX1_refusal_114 (by decide) ?_
            exact reti (u := ()) hx hb hr hlocks hK hP hD hS dX1_refusal_118 (by unfold fnX1_refusal; (try dsimp only); rw [if_neg h1]; rw [if_pos h2]; rw [if_pos h3]; rw [if_neg h10]; rw [if_neg h11]; (try exact rfl))
    · refine lv_iconst (v := 3) hx hb dX1_refusal_17 (by decide) ?_
      exact reti (u := ()) hx hb hr hlocks hK hP hD hS dX1_refusal_18 (by unfold fnX1_refusal; (try dsimp only); rw [if_neg h1]; rw [if_neg h2]; (try exact rfl))
  · refine lv_iconst (v := 1) hx hb dX1_refusal_7 (by decide) ?_
    exact reti (u := ()) hx hb hr hlocks hK hP hD hS dX1_refusal_8 (by unfold fnX1_refusal; (try dsimp only); rw [if_pos h1]; (try exact rfl))
def fnX1_ringOfCall (x : TD) (a0 : Int32) (a1 : Int32) : Int32 :=
  if a1 < x.2.2.2.2.1 then
   if a1 ≤ x.2.2.2.2.2.1 then
    (-1 : Int32)
   else
    if x.2.2.2.2.2.2.1 < a1 then
     (-1 : Int32)
    else
     if x.2.2.2.2.2.2.2.2.2.2 ≤ a0 then
      (-1 : Int32)
     else
      x.2.2.2.2.2.1
  else
   if x.2.2.2.2.2.1 < a1 then
    if x.2.2.2.2.2.2.1 < a1 then
     (-1 : Int32)
    else
     if x.2.2.2.2.2.2.2.2.2.2 ≤ a0 then
      (-1 : Int32)
     else
      x.2.2.2.2.2.1
   else
    a1
abbrev ivX1_ringOfCallP (z : Int32) : Prop := irc z
set_option maxRecDepth 100000 in
set_option maxHeartbeats 4000000 in
theorem ivX1_ringOfCall (x : TD) (a0 : Int32) (a1 : Int32) (hI : iD x) (g1 : i3 a1) : ivX1_ringOfCallP (fnX1_ringOfCall x a0 a1) := by
  unfold fnX1_ringOfCall
  try dsimp only
  refine iteI (fun h1 => ?_) (fun h1 => ?_)
  · refine iteI (fun h2 => ?_) (fun h2 => ?_)
    · exact (Or.inl rfl)
    · refine iteI (fun h3 => ?_) (fun h3 => ?_)
      · exact (Or.inl rfl)
      · refine iteI (fun h4 => ?_) (fun h4 => ?_)
        · exact (Or.inl rfl)
        · exact (Or.inr hI.2)
  · refine iteI (fun h5 => ?_) (fun h5 => ?_)
    · refine iteI (fun h6 => ?_) (fun h6 => ?_)
      · exact (Or.inl rfl)
      · refine iteI (fun h7 => ?_) (fun h7 => ?_)
        · exact (Or.inl rfl)
        · exact (Or.inr hI.2)
    · exact (Or.inr g1)
set_option maxRecDepth 100000 in
set_option maxHeartbeats 4000000 in
theorem okX1_ringOfCall (l : Launch) (D : va_G) (cI cJ cP : ClassId) (b0 : Nat) (sz : Nat) (x : TD) (a0 : Int32) (a1 : Int32) (hI : iD x) (g1 : i3 a1) : Met l yX1_ringOfCall (Cond.code yX1_ringOfCall cX1_ringOfCall 3 (some .int) :: gG) { frames := 0, cells := 0, slots := 0, locals := 0 } (va_Pc [.ref (b0), .int a0, .int a1] (PRE D (tz cI cJ cP) sz (wD b0 x))) (va_Qi (fun (r : Int32) (_ : Unit) => r = fnX1_ringOfCall x a0 a1) (AT D (tz cI cJ cP) (va_A (wD b0 x) sz) (fun (_ : Unit) => (wD b0 x))) (va_A (wD b0 x) sz)) 0 0 (va_A (wD b0 x) sz) := by
  refine mo (QA := fun A => va_Qi (fun (r : Int32) (_ : Unit) => r = fnX1_ringOfCall x a0 a1) (AT D (tz cI cJ cP) A (fun (_ : Unit) => (wD b0 x))) A) (by decide) (Nat.le_of_ble_eq_true rfl) ?_
  intro p e s m below meth c A ls H hx hb hr hml hown hG hlocks hnm hA hS hP hK hD hl hN
  have hown : s.vm.findClass RX1 = some m.cls := hown
  have hl : lv_has ls 3 [(0, .ref (b0)), (1, .int a0), (2, .int a1)] := hl
  refine lv_iload_n hx hb dX1_ringOfCall_0 rfl (lv_at hl 2 rfl) ?_
  refine lv_aload_n hx hb dX1_ringOfCall_1 rfl (lv_at hl 0 rfl) ?_
  refine va_get (D := D) (ci := 1) (v := .int (x.2.2.2.2.1)) hx hb hG inX1 hown hK hP 0 rfl rfl 4 (by decide) (hG _ kw14) (fun _ h9 => h9) rfl dX1_ringOfCall_2 ?_
  refine lv_icmp_lt (tgt := 18) hx hb dX1_ringOfCall_5 (by decide) (fun h1 => ?_) (fun h1 => ?_)
  · refine lv_iload_n hx hb dX1_ringOfCall_18 rfl (lv_at hl 2 rfl) ?_
    refine lv_aload_n hx hb dX1_ringOfCall_19 rfl (lv_at hl 0 rfl) ?_
    refine va_get (D := D) (ci := 1) (v := .int (x.2.2.2.2.2.1)) hx hb hG inX1 hown hK hP 0 rfl rfl 5 (by decide) (hG _ kw15) (fun _ h9 => h9) rfl dX1_ringOfCall_20 ?_
    refine lv_icmp_le (tgt := 49) hx hb dX1_ringOfCall_23 (by decide) (fun h2 => ?_) (fun h2 => ?_)
    · refine lv_iconst (v := (-1)) hx hb dX1_ringOfCall_49 (by decide) ?_
      exact reti (u := ()) hx hb hr hlocks hK hP hD hS dX1_ringOfCall_50 (by unfold fnX1_ringOfCall; (try dsimp only); rw [if_pos h1]; rw [if_pos h2]; (try exact rfl))
    · refine lv_iload_n hx hb dX1_ringOfCall_26 rfl (lv_at hl 2 rfl) ?_
      refine lv_aload_n hx hb dX1_ringOfCall_27 rfl (lv_at hl 0 rfl) ?_
      refine va_get (D := D) (ci := 1) (v := .int (x.2.2.2.2.2.2.1)) hx hb hG inX1 hown hK hP 0 rfl rfl 6 (by decide) (hG _ kw16) (fun _ h9 => h9) rfl dX1_ringOfCall_28 ?_
      refine lv_icmp_gt (tgt := 49) hx hb dX1_ringOfCall_31 (by decide) (fun h3 => ?_) (fun h3 => ?_)
      · refine lv_iconst (v := (-1)) hx hb dX1_ringOfCall_49 (by decide) ?_
        exact reti (u := ()) hx hb hr hlocks hK hP hD hS dX1_ringOfCall_50 (by unfold fnX1_ringOfCall; (try dsimp only); rw [if_pos h1]; rw [if_neg h2]; rw [if_pos h3]; (try exact rfl))
      · refine lv_iload_n hx hb dX1_ringOfCall_34 rfl (lv_at hl 1 rfl) ?_
        refine lv_aload_n hx hb dX1_ringOfCall_35 rfl (lv_at hl 0 rfl) ?_
        refine va_get (D := D) (ci := 1) (v := .int (x.2.2.2.2.2.2.2.2.2.2)) hx hb hG inX1 hown hK hP 0 rfl rfl 10 (by decide) (hG _ kw23) (fun _ h9 => h9) rfl dX1_ringOfCall_36 ?_
        refine lv_icmp_ge (tgt := 49) hx hb dX1_ringOfCall_39 (by decide) (fun h4 => ?_) (fun h4 => ?_)
        · refine lv_iconst (v := (-1)) hx hb dX1_ringOfCall_49 (by decide) ?_
          exact reti (u := ()) hx hb hr hlocks hK hP hD hS dX1_ringOfCall_50 (by unfold fnX1_ringOfCall; (try dsimp only); rw [if_pos h1]; rw [if_neg h2]; rw [if_neg h3]; rw [if_pos h4]; (try exact rfl))
        · refine lv_aload_n hx hb dX1_ringOfCall_42 rfl (lv_at hl 0 rfl) ?_
          refine va_get (D := D) (ci := 1) (v := .int (x.2.2.2.2.2.1)) hx hb hG inX1 hown hK hP 0 rfl rfl 5 (by decide) (hG _ kw15) (fun _ h9 => h9) rfl dX1_ringOfCall_43 ?_
          refine lv_goto (tgt := 50) hx hb dX1_ringOfCall_46 (by decide) ?_
          exact reti (u := ()) hx hb hr hlocks hK hP hD hS dX1_ringOfCall_50 (by unfold fnX1_ringOfCall; (try dsimp only); rw [if_pos h1]; rw [if_neg h2]; rw [if_neg h3]; rw [if_neg h4]; (try exact rfl))
  · refine lv_iload_n hx hb dX1_ringOfCall_8 rfl (lv_at hl 2 rfl) ?_
    refine lv_aload_n hx hb dX1_ringOfCall_9 rfl (lv_at hl 0 rfl) ?_
    refine va_get (D := D) (ci := 1) (v := .int (x.2.2.2.2.2.1)) hx hb hG inX1 hown hK hP 0 rfl rfl 5 (by decide) (hG _ kw15) (fun _ h9 => h9) rfl dX1_ringOfCall_10 ?_
    refine lv_icmp_gt (tgt := 18) hx hb dX1_ringOfCall_13 (by decide) (fun h5 => ?_) (fun h5 => ?_)
    · refine lv_iload_n hx hb dX1_ringOfCall_18 rfl (lv_at hl 2 rfl) ?_
      refine lv_aload_n hx hb dX1_ringOfCall_19 rfl (lv_at hl 0 rfl) ?_
      refine va_get (D := D) (ci := 1) (v := .int (x.2.2.2.2.2.1)) hx hb hG inX1 hown hK hP 0 rfl rfl 5 (by decide) (hG _ kw15) (fun _ h9 => h9) rfl dX1_ringOfCall_20 ?_
      refine lv_icmp_le (tgt := 49) hx hb dX1_ringOfCall_23 (by decide) (fun h9 => absurd h9 (Int32.not_le.mpr h5)) (fun _ => ?_)
      refine lv_iload_n hx hb dX1_ringOfCall_26 rfl (lv_at hl 2 rfl) ?_
      refine lv_aload_n hx hb dX1_ringOfCall_27 rfl (lv_at hl 0 rfl) ?_
      refine va_get (D := D) (ci := 1) (v := .int (x.2.2.2.2.2.2.1)) hx hb hG inX1 hown hK hP 0 rfl rfl 6 (by decide) (hG _ kw16) (fun _ h9 => h9) rfl dX1_ringOfCall_28 ?_
      refine lv_icmp_gt (tgt := 49) hx hb dX1_ringOfCall_31 (by decide) (fun h6 => ?_) (fun h6 => ?_)
      · refine lv_iconst (v := (-1)) hx hb dX1_ringOfCall_49 (by decide) ?_
        exact reti (u := ()) hx hb hr hlocks hK hP hD hS dX1_ringOfCall_50 (by unfold fnX1_ringOfCall; (try dsimp only); rw [if_neg h1]; rw [if_pos h5]; rw [if_pos h6]; (try exact rfl))
      · refine lv_iload_n hx hb dX1_ringOfCall_34 rfl (lv_at hl 1 rfl) ?_
        refine lv_aload_n hx hb dX1_ringOfCall_35 rfl (lv_at hl 0 rfl) ?_
        refine va_get (D := D) (ci := 1) (v := .int (x.2.2.2.2.2.2.2.2.2.2)) hx hb hG inX1 hown hK hP 0 rfl rfl 10 (by decide) (hG _ kw23) (fun _ h9 => h9) rfl dX1_ringOfCall_36 ?_
        refine lv_icmp_ge (tgt := 49) hx hb dX1_ringOfCall_39 (by decide) (fun h7 => ?_) (fun h7 => ?_)
        · refine lv_iconst (v := (-1)) hx hb dX1_ringOfCall_49 (by decide) ?_
          exact reti (u := ()) hx hb hr hlocks hK hP hD hS dX1_ringOfCall_50 (by unfold fnX1_ringOfCall; (try dsimp only); rw [if_neg h1]; rw [if_pos h5]; rw [if_neg h6]; rw [if_pos h7]; (try exact rfl))
        · refine lv_aload_n hx hb dX1_ringOfCall_42 rfl (lv_at hl 0 rfl) ?_
          refine va_get (D := D) (ci := 1) (v := .int (x.2.2.2.2.2.1)) hx hb hG inX1 hown hK hP 0 rfl rfl 5 (by decide) (hG _ kw15) (fun _ h9 => h9) rfl dX1_ringOfCall_43 ?_
          refine lv_goto (tgt := 50) hx hb dX1_ringOfCall_46 (by decide) ?_
          exact reti (u := ()) hx hb hr hlocks hK hP hD hS dX1_ringOfCall_50 (by unfold fnX1_ringOfCall; (try dsimp only); rw [if_neg h1]; rw [if_pos h5]; rw [if_neg h6]; rw [if_neg h7]; (try exact rfl))
    · refine lv_iload_n hx hb dX1_ringOfCall_16 rfl (lv_at hl 2 rfl) ?_
      exact reti (u := ()) hx hb hr hlocks hK hP hD hS dX1_ringOfCall_17 (by unfold fnX1_ringOfCall; (try dsimp only); rw [if_neg h1]; rw [if_neg h5]; (try exact rfl))
end
section
theorem dX0_clear_0 : decode cX0_clear 0 = .ok (.aload_n 0, 1) := by decide +kernel
theorem dX0_clear_1 : decode cX0_clear 1 = .ok (.iconst 0, 1) := by decide +kernel
theorem dX0_clear_2 : decode cX0_clear 2 = .ok (.putfield 22, 3) := by decide +kernel
theorem dX0_clear_5 : decode cX0_clear 5 = .ok (.return_, 1) := by decide +kernel
theorem dX0_nameAt_0 : decode cX0_nameAt 0 = .ok (.iload_n 1, 1) := by decide +kernel
theorem dX0_nameAt_1 : decode cX0_nameAt 1 = .ok (.ifCond .lt 20, 3) := by decide +kernel
theorem dX0_nameAt_4 : decode cX0_nameAt 4 = .ok (.iload_n 1, 1) := by decide +kernel
theorem dX0_nameAt_5 : decode cX0_nameAt 5 = .ok (.aload_n 0, 1) := by decide +kernel
theorem dX0_nameAt_6 : decode cX0_nameAt 6 = .ok (.getfield 22, 3) := by decide +kernel
theorem dX0_nameAt_9 : decode cX0_nameAt 9 = .ok (.if_icmp .ge 12, 3) := by decide +kernel
theorem dX0_nameAt_12 : decode cX0_nameAt 12 = .ok (.aload_n 0, 1) := by decide +kernel
theorem dX0_nameAt_13 : decode cX0_nameAt 13 = .ok (.getfield 11, 3) := by decide +kernel
theorem dX0_nameAt_16 : decode cX0_nameAt 16 = .ok (.iload_n 1, 1) := by decide +kernel
theorem dX0_nameAt_17 : decode cX0_nameAt 17 = .ok (.iaload, 1) := by decide +kernel
theorem dX0_nameAt_18 : decode cX0_nameAt 18 = .ok (.goto 4, 3) := by decide +kernel
theorem dX0_nameAt_21 : decode cX0_nameAt 21 = .ok (.iconst (-1), 1) := by decide +kernel
theorem dX0_nameAt_22 : decode cX0_nameAt 22 = .ok (.ireturn, 1) := by decide +kernel
theorem dX0_placeOf_0 : decode cX0_placeOf 0 = .ok (.iconst 0, 1) := by decide +kernel
theorem dX0_placeOf_1 : decode cX0_placeOf 1 = .ok (.istore_n 2, 1) := by decide +kernel
theorem dX0_placeOf_2 : decode cX0_placeOf 2 = .ok (.iload_n 2, 1) := by decide +kernel
theorem dX0_placeOf_3 : decode cX0_placeOf 3 = .ok (.aload_n 0, 1) := by decide +kernel
theorem dX0_placeOf_4 : decode cX0_placeOf 4 = .ok (.getfield 22, 3) := by decide +kernel
theorem dX0_placeOf_7 : decode cX0_placeOf 7 = .ok (.if_icmp .ge 21, 3) := by decide +kernel
theorem dX0_placeOf_10 : decode cX0_placeOf 10 = .ok (.aload_n 0, 1) := by decide +kernel
theorem dX0_placeOf_11 : decode cX0_placeOf 11 = .ok (.getfield 11, 3) := by decide +kernel
theorem dX0_placeOf_14 : decode cX0_placeOf 14 = .ok (.iload_n 2, 1) := by decide +kernel
theorem dX0_placeOf_15 : decode cX0_placeOf 15 = .ok (.iaload, 1) := by decide +kernel
theorem dX0_placeOf_16 : decode cX0_placeOf 16 = .ok (.iload_n 1, 1) := by decide +kernel
theorem dX0_placeOf_17 : decode cX0_placeOf 17 = .ok (.if_icmp .ne 5, 3) := by decide +kernel
theorem dX0_placeOf_20 : decode cX0_placeOf 20 = .ok (.iload_n 2, 1) := by decide +kernel
theorem dX0_placeOf_21 : decode cX0_placeOf 21 = .ok (.ireturn, 1) := by decide +kernel
theorem dX0_placeOf_22 : decode cX0_placeOf 22 = .ok (.iinc 2 1, 3) := by decide +kernel
theorem dX0_placeOf_25 : decode cX0_placeOf 25 = .ok (.goto (-23), 3) := by decide +kernel
theorem dX0_placeOf_28 : decode cX0_placeOf 28 = .ok (.iconst (-1), 1) := by decide +kernel
theorem dX0_placeOf_29 : decode cX0_placeOf 29 = .ok (.ireturn, 1) := by decide +kernel
theorem dX0_add_0 : decode cX0_add 0 = .ok (.aload_n 0, 1) := by decide +kernel
theorem dX0_add_1 : decode cX0_add 1 = .ok (.getfield 22, 3) := by decide +kernel
theorem dX0_add_4 : decode cX0_add 4 = .ok (.iconst 4, 1) := by decide +kernel
theorem dX0_add_5 : decode cX0_add 5 = .ok (.if_icmp .ge 13, 3) := by decide +kernel
theorem dX0_add_8 : decode cX0_add 8 = .ok (.aload_n 0, 1) := by decide +kernel
theorem dX0_add_9 : decode cX0_add 9 = .ok (.dup, 1) := by decide +kernel
theorem dX0_add_10 : decode cX0_add 10 = .ok (.getfield 22, 3) := by decide +kernel
theorem dX0_add_13 : decode cX0_add 13 = .ok (.iconst 1, 1) := by decide +kernel
theorem dX0_add_14 : decode cX0_add 14 = .ok (.iadd, 1) := by decide +kernel
theorem dX0_add_15 : decode cX0_add 15 = .ok (.putfield 22, 3) := by decide +kernel
theorem dX0_add_18 : decode cX0_add 18 = .ok (.aload_n 0, 1) := by decide +kernel
theorem dX0_add_19 : decode cX0_add 19 = .ok (.getfield 22, 3) := by decide +kernel
theorem dX0_add_22 : decode cX0_add 22 = .ok (.iconst 1, 1) := by decide +kernel
theorem dX0_add_23 : decode cX0_add 23 = .ok (.isub, 1) := by decide +kernel
theorem dX0_add_24 : decode cX0_add 24 = .ok (.istore 6, 2) := by decide +kernel
theorem dX0_add_26 : decode cX0_add 26 = .ok (.aload_n 0, 1) := by decide +kernel
theorem dX0_add_27 : decode cX0_add 27 = .ok (.getfield 11, 3) := by decide +kernel
theorem dX0_add_30 : decode cX0_add 30 = .ok (.iload 6, 2) := by decide +kernel
theorem dX0_add_32 : decode cX0_add 32 = .ok (.iload_n 1, 1) := by decide +kernel
theorem dX0_add_33 : decode cX0_add 33 = .ok (.iastore, 1) := by decide +kernel
theorem dX0_add_34 : decode cX0_add 34 = .ok (.aload_n 0, 1) := by decide +kernel
theorem dX0_add_35 : decode cX0_add 35 = .ok (.getfield 15, 3) := by decide +kernel
theorem dX0_add_38 : decode cX0_add 38 = .ok (.iload 6, 2) := by decide +kernel
theorem dX0_add_40 : decode cX0_add 40 = .ok (.lload_n 2, 1) := by decide +kernel
theorem dX0_add_41 : decode cX0_add 41 = .ok (.lastore, 1) := by decide +kernel
theorem dX0_add_42 : decode cX0_add 42 = .ok (.aload_n 0, 1) := by decide +kernel
theorem dX0_add_43 : decode cX0_add 43 = .ok (.getfield 19, 3) := by decide +kernel
theorem dX0_add_46 : decode cX0_add 46 = .ok (.iload 6, 2) := by decide +kernel
theorem dX0_add_48 : decode cX0_add 48 = .ok (.lload 4, 2) := by decide +kernel
theorem dX0_add_50 : decode cX0_add 50 = .ok (.lastore, 1) := by decide +kernel
theorem dX0_add_51 : decode cX0_add 51 = .ok (.iload 6, 2) := by decide +kernel
theorem dX0_add_53 : decode cX0_add 53 = .ok (.ireturn, 1) := by decide +kernel
theorem dX0_moveToFront_0 : decode cX0_moveToFront 0 = .ok (.aload_n 0, 1) := by decide +kernel
theorem dX0_moveToFront_1 : decode cX0_moveToFront 1 = .ok (.getfield 11, 3) := by decide +kernel
theorem dX0_moveToFront_4 : decode cX0_moveToFront 4 = .ok (.iload_n 1, 1) := by decide +kernel
theorem dX0_moveToFront_5 : decode cX0_moveToFront 5 = .ok (.iaload, 1) := by decide +kernel
theorem dX0_moveToFront_6 : decode cX0_moveToFront 6 = .ok (.istore_n 2, 1) := by decide +kernel
theorem dX0_moveToFront_7 : decode cX0_moveToFront 7 = .ok (.aload_n 0, 1) := by decide +kernel
theorem dX0_moveToFront_8 : decode cX0_moveToFront 8 = .ok (.getfield 15, 3) := by decide +kernel
theorem dX0_moveToFront_11 : decode cX0_moveToFront 11 = .ok (.iload_n 1, 1) := by decide +kernel
theorem dX0_moveToFront_12 : decode cX0_moveToFront 12 = .ok (.laload, 1) := by decide +kernel
theorem dX0_moveToFront_13 : decode cX0_moveToFront 13 = .ok (.lstore_n 3, 1) := by decide +kernel
theorem dX0_moveToFront_14 : decode cX0_moveToFront 14 = .ok (.aload_n 0, 1) := by decide +kernel
theorem dX0_moveToFront_15 : decode cX0_moveToFront 15 = .ok (.getfield 19, 3) := by decide +kernel
theorem dX0_moveToFront_18 : decode cX0_moveToFront 18 = .ok (.iload_n 1, 1) := by decide +kernel
theorem dX0_moveToFront_19 : decode cX0_moveToFront 19 = .ok (.laload, 1) := by decide +kernel
theorem dX0_moveToFront_20 : decode cX0_moveToFront 20 = .ok (.lstore 5, 2) := by decide +kernel
theorem dX0_moveToFront_22 : decode cX0_moveToFront 22 = .ok (.iload_n 1, 1) := by decide +kernel
theorem dX0_moveToFront_23 : decode cX0_moveToFront 23 = .ok (.istore 7, 2) := by decide +kernel
theorem dX0_moveToFront_25 : decode cX0_moveToFront 25 = .ok (.iload 7, 2) := by decide +kernel
theorem dX0_moveToFront_27 : decode cX0_moveToFront 27 = .ok (.ifCond .le 57, 3) := by decide +kernel
theorem dX0_moveToFront_30 : decode cX0_moveToFront 30 = .ok (.aload_n 0, 1) := by decide +kernel
theorem dX0_moveToFront_31 : decode cX0_moveToFront 31 = .ok (.getfield 11, 3) := by decide +kernel
theorem dX0_moveToFront_34 : decode cX0_moveToFront 34 = .ok (.iload 7, 2) := by decide +kernel
theorem dX0_moveToFront_36 : decode cX0_moveToFront 36 = .ok (.aload_n 0, 1) := by decide +kernel
theorem dX0_moveToFront_37 : decode cX0_moveToFront 37 = .ok (.getfield 11, 3) := by decide +kernel
theorem dX0_moveToFront_40 : decode cX0_moveToFront 40 = .ok (.iload 7, 2) := by decide +kernel
theorem dX0_moveToFront_42 : decode cX0_moveToFront 42 = .ok (.iconst 1, 1) := by decide +kernel
theorem dX0_moveToFront_43 : decode cX0_moveToFront 43 = .ok (.isub, 1) := by decide +kernel
theorem dX0_moveToFront_44 : decode cX0_moveToFront 44 = .ok (.iaload, 1) := by decide +kernel
theorem dX0_moveToFront_45 : decode cX0_moveToFront 45 = .ok (.iastore, 1) := by decide +kernel
theorem dX0_moveToFront_46 : decode cX0_moveToFront 46 = .ok (.aload_n 0, 1) := by decide +kernel
theorem dX0_moveToFront_47 : decode cX0_moveToFront 47 = .ok (.getfield 15, 3) := by decide +kernel
theorem dX0_moveToFront_50 : decode cX0_moveToFront 50 = .ok (.iload 7, 2) := by decide +kernel
theorem dX0_moveToFront_52 : decode cX0_moveToFront 52 = .ok (.aload_n 0, 1) := by decide +kernel
theorem dX0_moveToFront_53 : decode cX0_moveToFront 53 = .ok (.getfield 15, 3) := by decide +kernel
theorem dX0_moveToFront_56 : decode cX0_moveToFront 56 = .ok (.iload 7, 2) := by decide +kernel
theorem dX0_moveToFront_58 : decode cX0_moveToFront 58 = .ok (.iconst 1, 1) := by decide +kernel
theorem dX0_moveToFront_59 : decode cX0_moveToFront 59 = .ok (.isub, 1) := by decide +kernel
theorem dX0_moveToFront_60 : decode cX0_moveToFront 60 = .ok (.laload, 1) := by decide +kernel
theorem dX0_moveToFront_61 : decode cX0_moveToFront 61 = .ok (.lastore, 1) := by decide +kernel
theorem dX0_moveToFront_62 : decode cX0_moveToFront 62 = .ok (.aload_n 0, 1) := by decide +kernel
theorem dX0_moveToFront_63 : decode cX0_moveToFront 63 = .ok (.getfield 19, 3) := by decide +kernel
theorem dX0_moveToFront_66 : decode cX0_moveToFront 66 = .ok (.iload 7, 2) := by decide +kernel
theorem dX0_moveToFront_68 : decode cX0_moveToFront 68 = .ok (.aload_n 0, 1) := by decide +kernel
theorem dX0_moveToFront_69 : decode cX0_moveToFront 69 = .ok (.getfield 19, 3) := by decide +kernel
theorem dX0_moveToFront_72 : decode cX0_moveToFront 72 = .ok (.iload 7, 2) := by decide +kernel
theorem dX0_moveToFront_74 : decode cX0_moveToFront 74 = .ok (.iconst 1, 1) := by decide +kernel
theorem dX0_moveToFront_75 : decode cX0_moveToFront 75 = .ok (.isub, 1) := by decide +kernel
theorem dX0_moveToFront_76 : decode cX0_moveToFront 76 = .ok (.laload, 1) := by decide +kernel
theorem dX0_moveToFront_77 : decode cX0_moveToFront 77 = .ok (.lastore, 1) := by decide +kernel
theorem dX0_moveToFront_78 : decode cX0_moveToFront 78 = .ok (.iinc 7 (-1), 3) := by decide +kernel
theorem dX0_moveToFront_81 : decode cX0_moveToFront 81 = .ok (.goto (-56), 3) := by decide +kernel
theorem dX0_moveToFront_84 : decode cX0_moveToFront 84 = .ok (.aload_n 0, 1) := by decide +kernel
theorem dX0_moveToFront_85 : decode cX0_moveToFront 85 = .ok (.getfield 11, 3) := by decide +kernel
theorem dX0_moveToFront_88 : decode cX0_moveToFront 88 = .ok (.iconst 0, 1) := by decide +kernel
theorem dX0_moveToFront_89 : decode cX0_moveToFront 89 = .ok (.iload_n 2, 1) := by decide +kernel
theorem dX0_moveToFront_90 : decode cX0_moveToFront 90 = .ok (.iastore, 1) := by decide +kernel
theorem dX0_moveToFront_91 : decode cX0_moveToFront 91 = .ok (.aload_n 0, 1) := by decide +kernel
theorem dX0_moveToFront_92 : decode cX0_moveToFront 92 = .ok (.getfield 15, 3) := by decide +kernel
theorem dX0_moveToFront_95 : decode cX0_moveToFront 95 = .ok (.iconst 0, 1) := by decide +kernel
theorem dX0_moveToFront_96 : decode cX0_moveToFront 96 = .ok (.lload_n 3, 1) := by decide +kernel
theorem dX0_moveToFront_97 : decode cX0_moveToFront 97 = .ok (.lastore, 1) := by decide +kernel
theorem dX0_moveToFront_98 : decode cX0_moveToFront 98 = .ok (.aload_n 0, 1) := by decide +kernel
theorem dX0_moveToFront_99 : decode cX0_moveToFront 99 = .ok (.getfield 19, 3) := by decide +kernel
theorem dX0_moveToFront_102 : decode cX0_moveToFront 102 = .ok (.iconst 0, 1) := by decide +kernel
theorem dX0_moveToFront_103 : decode cX0_moveToFront 103 = .ok (.lload 5, 2) := by decide +kernel
theorem dX0_moveToFront_105 : decode cX0_moveToFront 105 = .ok (.lastore, 1) := by decide +kernel
theorem dX0_moveToFront_106 : decode cX0_moveToFront 106 = .ok (.return_, 1) := by decide +kernel
theorem kw24 : Cond.fieldLink RX0 22 RX0 "count" "I" ∈ gG := inG 80 (by decide +kernel) (by decide +kernel)
theorem kw25 : Cond.fieldLink RX0 11 RX0 "names" "[I" ∈ gG := inG 75 (by decide +kernel) (by decide +kernel)
theorem kw26 : Cond.fieldLink RX0 15 RX0 "firsts" "[J" ∈ gG := inG 76 (by decide +kernel) (by decide +kernel)
theorem kw27 : Cond.fieldLink RX0 19 RX0 "seconds" "[J" ∈ gG := inG 78 (by decide +kernel) (by decide +kernel)
end
section
def fnX0_clear (x : TC)  : TC :=
  (x.1, x.2.1, x.2.2.1, (0 : Int32))
abbrev ivX0_clearP (z : TC) : Prop := iC z
set_option maxRecDepth 100000 in
set_option maxHeartbeats 4000000 in
theorem ivX0_clear (x : TC)  (hI : iC x) : ivX0_clearP (fnX0_clear x) := by
  unfold fnX0_clear
  try dsimp only
  exact ⟨hI.1, (show i5 (0 : Int32) from by decide)⟩
set_option maxRecDepth 100000 in
set_option maxHeartbeats 4000000 in
theorem okX0_clear (l : Launch) (D : va_G) (cI cJ cP : ClassId) (b0 b1 b2 b3 : Nat) (sz : Nat) (x : TC)  (hI : iC x) : Met l yX0_clear (Cond.code yX0_clear cX0_clear 1 none :: gG) { frames := 0, cells := 0, slots := 0, locals := 0 } (va_Pc [.ref (b0)] (PRE D (tz cI cJ cP) sz (wC cI cJ b0 b1 b2 b3 x))) (va_Qv (fun (u : TC) => u = fnX0_clear x) (AT D (tz cI cJ cP) (va_A (wC cI cJ b0 b1 b2 b3 x) sz) (fun (u : TC) => (wC cI cJ b0 b1 b2 b3 u))) (va_A (wC cI cJ b0 b1 b2 b3 x) sz)) 0 0 (va_A (wC cI cJ b0 b1 b2 b3 x) sz) := by
  refine mo (QA := fun A => va_Qv (fun (u : TC) => u = fnX0_clear x) (AT D (tz cI cJ cP) A (fun (u : TC) => (wC cI cJ b0 b1 b2 b3 u))) A) (by decide) (Nat.le_of_ble_eq_true rfl) ?_
  intro p e s m below meth c A ls H hx hb hr hml hown hG hlocks hnm hA hS hP hK hD hl hN
  have hown : s.vm.findClass RX0 = some m.cls := hown
  have hl : lv_has ls 1 [(0, .ref (b0))] := hl
  refine lv_aload_n hx hb dX0_clear_0 rfl (lv_at hl 0 rfl) ?_
  refine lv_iconst (v := 0) hx hb dX0_clear_1 (by decide) ?_
  refine pu (D := D) (ci := 0) (v := .int ((0 : Int32))) (ty := .int) (W' := (wC cI cJ b0 b1 b2 b3 (x.1, x.2.1, x.2.2.1, (0 : Int32)))) hx hb hG inX0 tyX0 tyokX0 nmX0 hown hK hP hD hS 0 rfl rfl 3 (by decide) (hG _ kw24) (fun _ h9 => h9) rfl (by decide +kernel) rfl rfl (Nat.le_of_ble_eq_true rfl) dX0_clear_2 rfl (fun H locs hP hD hS => ?_)
  exact retv (u := (x.1, x.2.1, x.2.2.1, (0 : Int32))) hx hb hr hlocks hK hP hD hS dX0_clear_5 (by unfold fnX0_clear; (try exact rfl))
def fnX0_nameAt (x : TC) (a0 : Int32) : Int32 :=
  if a0 < (0 : Int32) then
   (-1 : Int32)
  else
   if x.2.2.2 ≤ a0 then
    (-1 : Int32)
   else
    (x.1 (a0).toNatClampNeg)
set_option maxRecDepth 100000 in
set_option maxHeartbeats 4000000 in
theorem okX0_nameAt (l : Launch) (D : va_G) (cI cJ cP : ClassId) (b0 b1 b2 b3 : Nat) (sz : Nat) (x : TC) (a0 : Int32) (hI : iC x) : Met l yX0_nameAt (Cond.code yX0_nameAt cX0_nameAt 2 (some .int) :: gG) { frames := 0, cells := 0, slots := 0, locals := 0 } (va_Pc [.ref (b0), .int a0] (PRE D (tz cI cJ cP) sz (wC cI cJ b0 b1 b2 b3 x))) (va_Qi (fun (r : Int32) (_ : Unit) => r = fnX0_nameAt x a0) (AT D (tz cI cJ cP) (va_A (wC cI cJ b0 b1 b2 b3 x) sz) (fun (_ : Unit) => (wC cI cJ b0 b1 b2 b3 x))) (va_A (wC cI cJ b0 b1 b2 b3 x) sz)) 0 0 (va_A (wC cI cJ b0 b1 b2 b3 x) sz) := by
  refine mo (QA := fun A => va_Qi (fun (r : Int32) (_ : Unit) => r = fnX0_nameAt x a0) (AT D (tz cI cJ cP) A (fun (_ : Unit) => (wC cI cJ b0 b1 b2 b3 x))) A) (by decide) (Nat.le_of_ble_eq_true rfl) ?_
  intro p e s m below meth c A ls H hx hb hr hml hown hG hlocks hnm hA hS hP hK hD hl hN
  have hown : s.vm.findClass RX0 = some m.cls := hown
  have hl : lv_has ls 2 [(0, .ref (b0)), (1, .int a0)] := hl
  refine lv_iload_n hx hb dX0_nameAt_0 rfl (lv_at hl 1 rfl) ?_
  refine lv_if_lt (tgt := 21) hx hb dX0_nameAt_1 (by decide) (fun h1 => ?_) (fun h1 => ?_)
  · refine lv_iconst (v := (-1)) hx hb dX0_nameAt_21 (by decide) ?_
    exact reti (u := ()) hx hb hr hlocks hK hP hD hS dX0_nameAt_22 (by unfold fnX0_nameAt; (try dsimp only); rw [if_pos h1]; (try exact rfl))
  · refine lv_iload_n hx hb dX0_nameAt_4 rfl (lv_at hl 1 rfl) ?_
    refine lv_aload_n hx hb dX0_nameAt_5 rfl (lv_at hl 0 rfl) ?_
    refine va_get (D := D) (ci := 0) (v := .int (x.2.2.2)) hx hb hG inX0 hown hK hP 0 rfl rfl 3 (by decide) (hG _ kw24) (fun _ h9 => h9) rfl dX0_nameAt_6 ?_
    refine lv_icmp_ge (tgt := 21) hx hb dX0_nameAt_9 (by decide) (fun h2 => ?_) (fun h2 => ?_)
    · refine lv_iconst (v := (-1)) hx hb dX0_nameAt_21 (by decide) ?_
      exact reti (u := ()) hx hb hr hlocks hK hP hD hS dX0_nameAt_22 (by unfold fnX0_nameAt; (try dsimp only); rw [if_neg h1]; rw [if_pos h2]; (try exact rfl))
    · refine lv_aload_n hx hb dX0_nameAt_12 rfl (lv_at hl 0 rfl) ?_
      refine va_get (D := D) (ci := 0) (v := .ref (b1)) hx hb hG inX0 hown hK hP 0 rfl rfl 0 (by decide) (hG _ kw25) (fun _ h9 => h9) rfl dX0_nameAt_13 ?_
      refine lv_iload_n hx hb dX0_nameAt_16 rfl (lv_at hl 1 rfl) ?_
      refine gi (D := D) (j := (a0).toNatClampNeg) (f := x.1) hx hb hK hP 1 0 rfl rfl (nameIn hI.2 h1 h2) rfl dX0_nameAt_17 ?_
      refine lv_goto (tgt := 22) hx hb dX0_nameAt_18 (by decide) ?_
      exact reti (u := ()) hx hb hr hlocks hK hP hD hS dX0_nameAt_22 (by unfold fnX0_nameAt; (try dsimp only); rw [if_neg h1]; rw [if_neg h2]; (try exact rfl))
def fnX0_placeOf (x : TC) (a0 : Int32) : Int32 :=
  if x.2.2.2 ≤ (0 : Int32) then
   (-1 : Int32)
  else
   if (x.1 0) = a0 then
    (0 : Int32)
   else
    if x.2.2.2 ≤ (1 : Int32) then
     (-1 : Int32)
    else
     if (x.1 1) = a0 then
      (1 : Int32)
     else
      if x.2.2.2 ≤ (2 : Int32) then
       (-1 : Int32)
      else
       if (x.1 2) = a0 then
        (2 : Int32)
       else
        if x.2.2.2 ≤ (3 : Int32) then
         (-1 : Int32)
        else
         if (x.1 3) = a0 then
          (3 : Int32)
         else
          (-1 : Int32)
abbrev ivX0_placeOfP (z : Int32) : Prop := ipl z
set_option maxRecDepth 100000 in
set_option maxHeartbeats 4000000 in
theorem ivX0_placeOf (x : TC) (a0 : Int32) (hI : iC x) : ivX0_placeOfP (fnX0_placeOf x a0) := by
  unfold fnX0_placeOf
  try dsimp only
  refine iteI (fun h1 => ?_) (fun h1 => ?_)
  · exact (Or.inl rfl)
  · refine iteI (fun h2 => ?_) (fun h2 => ?_)
    · exact (Or.inr (by decide))
    · refine iteI (fun h3 => ?_) (fun h3 => ?_)
      · exact (Or.inl rfl)
      · refine iteI (fun h4 => ?_) (fun h4 => ?_)
        · exact (Or.inr (by decide))
        · refine iteI (fun h5 => ?_) (fun h5 => ?_)
          · exact (Or.inl rfl)
          · refine iteI (fun h6 => ?_) (fun h6 => ?_)
            · exact (Or.inr (by decide))
            · refine iteI (fun h7 => ?_) (fun h7 => ?_)
              · exact (Or.inl rfl)
              · refine iteI (fun h8 => ?_) (fun h8 => ?_)
                · exact (Or.inr (by decide))
                · exact (Or.inl rfl)
set_option maxRecDepth 100000 in
set_option maxHeartbeats 4000000 in
theorem okX0_placeOf (l : Launch) (D : va_G) (cI cJ cP : ClassId) (b0 b1 b2 b3 : Nat) (sz : Nat) (x : TC) (a0 : Int32) (hI : iC x) : Met l yX0_placeOf (Cond.code yX0_placeOf cX0_placeOf 3 (some .int) :: gG) { frames := 0, cells := 0, slots := 0, locals := 0 } (va_Pc [.ref (b0), .int a0] (PRE D (tz cI cJ cP) sz (wC cI cJ b0 b1 b2 b3 x))) (va_Qi (fun (r : Int32) (_ : Unit) => r = fnX0_placeOf x a0) (AT D (tz cI cJ cP) (va_A (wC cI cJ b0 b1 b2 b3 x) sz) (fun (_ : Unit) => (wC cI cJ b0 b1 b2 b3 x))) (va_A (wC cI cJ b0 b1 b2 b3 x) sz)) 0 0 (va_A (wC cI cJ b0 b1 b2 b3 x) sz) := by
  refine mo (QA := fun A => va_Qi (fun (r : Int32) (_ : Unit) => r = fnX0_placeOf x a0) (AT D (tz cI cJ cP) A (fun (_ : Unit) => (wC cI cJ b0 b1 b2 b3 x))) A) (by decide) (Nat.le_of_ble_eq_true rfl) ?_
  intro p e s m below meth c A ls H hx hb hr hml hown hG hlocks hnm hA hS hP hK hD hl hN
  have hown : s.vm.findClass RX0 = some m.cls := hown
  have hl : lv_has ls 3 [(0, .ref (b0)), (1, .int a0)] := hl
  refine lv_iconst (v := 0) hx hb dX0_placeOf_0 (by decide) ?_
  refine lv_istore_n (lv' := [(2, .int ((0 : Int32))), (0, .ref (b0)), (1, .int (a0))]) hx hb dX0_placeOf_1 rfl hl (by decide) rfl (fun ls hl => ?_)
  refine lv_iload_n hx hb dX0_placeOf_2 rfl (lv_at hl 0 rfl) ?_
  refine lv_aload_n hx hb dX0_placeOf_3 rfl (lv_at hl 1 rfl) ?_
  refine va_get (D := D) (ci := 0) (v := .int (x.2.2.2)) hx hb hG inX0 hown hK hP 0 rfl rfl 3 (by decide) (hG _ kw24) (fun _ h9 => h9) rfl dX0_placeOf_4 ?_
  refine lv_icmp_ge (tgt := 28) hx hb dX0_placeOf_7 (by decide) (fun h1 => ?_) (fun h1 => ?_)
  · refine lv_iconst (v := (-1)) hx hb dX0_placeOf_28 (by decide) ?_
    exact reti (u := ()) hx hb hr hlocks hK hP hD hS dX0_placeOf_29 (by unfold fnX0_placeOf; (try dsimp only); rw [if_pos h1]; (try exact rfl))
  · refine lv_aload_n hx hb dX0_placeOf_10 rfl (lv_at hl 1 rfl) ?_
    refine va_get (D := D) (ci := 0) (v := .ref (b1)) hx hb hG inX0 hown hK hP 0 rfl rfl 0 (by decide) (hG _ kw25) (fun _ h9 => h9) rfl dX0_placeOf_11 ?_
    refine lv_iload_n hx hb dX0_placeOf_14 rfl (lv_at hl 0 rfl) ?_
    refine gi (D := D) (j := 0) (f := x.1) hx hb hK hP 1 0 rfl rfl (inL (by decide)) (by decide) dX0_placeOf_15 ?_
    refine lv_iload_n hx hb dX0_placeOf_16 rfl (lv_at hl 2 rfl) ?_
    refine lv_icmp_ne (tgt := 22) hx hb dX0_placeOf_17 (by decide) (fun h2 => ?_) (fun h2 => ?_)
    · refine lv_iinc (k := 0) (v := (1 : Int32)) (lv' := [(2, .int ((1 : Int32))), (0, .ref (b0)), (1, .int (a0))]) hx hb dX0_placeOf_22 hl rfl (by decide) (by decide) rfl (fun ls hl => ?_)
      refine lv_goto (tgt := 2) hx hb dX0_placeOf_25 (by decide) ?_
      refine lv_iload_n hx hb dX0_placeOf_2 rfl (lv_at hl 0 rfl) ?_
      refine lv_aload_n hx hb dX0_placeOf_3 rfl (lv_at hl 1 rfl) ?_
      refine va_get (D := D) (ci := 0) (v := .int (x.2.2.2)) hx hb hG inX0 hown hK hP 0 rfl rfl 3 (by decide) (hG _ kw24) (fun _ h9 => h9) rfl dX0_placeOf_4 ?_
      refine lv_icmp_ge (tgt := 28) hx hb dX0_placeOf_7 (by decide) (fun h3 => ?_) (fun h3 => ?_)
      · refine lv_iconst (v := (-1)) hx hb dX0_placeOf_28 (by decide) ?_
        exact reti (u := ()) hx hb hr hlocks hK hP hD hS dX0_placeOf_29 (by unfold fnX0_placeOf; (try dsimp only); rw [if_neg h1]; rw [if_neg h2]; rw [if_pos h3]; (try exact rfl))
      · refine lv_aload_n hx hb dX0_placeOf_10 rfl (lv_at hl 1 rfl) ?_
        refine va_get (D := D) (ci := 0) (v := .ref (b1)) hx hb hG inX0 hown hK hP 0 rfl rfl 0 (by decide) (hG _ kw25) (fun _ h9 => h9) rfl dX0_placeOf_11 ?_
        refine lv_iload_n hx hb dX0_placeOf_14 rfl (lv_at hl 0 rfl) ?_
        refine gi (D := D) (j := 1) (f := x.1) hx hb hK hP 1 0 rfl rfl (inL (by decide)) (by decide) dX0_placeOf_15 ?_
        refine lv_iload_n hx hb dX0_placeOf_16 rfl (lv_at hl 2 rfl) ?_
        refine lv_icmp_ne (tgt := 22) hx hb dX0_placeOf_17 (by decide) (fun h4 => ?_) (fun h4 => ?_)
        · refine lv_iinc (k := 0) (v := (2 : Int32)) (lv' := [(2, .int ((2 : Int32))), (0, .ref (b0)), (1, .int (a0))]) hx hb dX0_placeOf_22 hl rfl (by decide) (by decide) rfl (fun ls hl => ?_)
          refine lv_goto (tgt := 2) hx hb dX0_placeOf_25 (by decide) ?_
          refine lv_iload_n hx hb dX0_placeOf_2 rfl (lv_at hl 0 rfl) ?_
          refine lv_aload_n hx hb dX0_placeOf_3 rfl (lv_at hl 1 rfl) ?_
          refine va_get (D := D) (ci := 0) (v := .int (x.2.2.2)) hx hb hG inX0 hown hK hP 0 rfl rfl 3 (by decide) (hG _ kw24) (fun _ h9 => h9) rfl dX0_placeOf_4 ?_
          refine lv_icmp_ge (tgt := 28) hx hb dX0_placeOf_7 (by decide) (fun h5 => ?_) (fun h5 => ?_)
          · refine lv_iconst (v := (-1)) hx hb dX0_placeOf_28 (by decide) ?_
            exact reti (u := ()) hx hb hr hlocks hK hP hD hS dX0_placeOf_29 (by unfold fnX0_placeOf; (try dsimp only); rw [if_neg h1]; rw [if_neg h2]; rw [if_neg h3]; rw [if_neg h4]; rw [if_pos h5]; (try exact rfl))
          · refine lv_aload_n hx hb dX0_placeOf_10 rfl (lv_at hl 1 rfl) ?_
            refine va_get (D := D) (ci := 0) (v := .ref (b1)) hx hb hG inX0 hown hK hP 0 rfl rfl 0 (by decide) (hG _ kw25) (fun _ h9 => h9) rfl dX0_placeOf_11 ?_
            refine lv_iload_n hx hb dX0_placeOf_14 rfl (lv_at hl 0 rfl) ?_
            refine gi (D := D) (j := 2) (f := x.1) hx hb hK hP 1 0 rfl rfl (inL (by decide)) (by decide) dX0_placeOf_15 ?_
            refine lv_iload_n hx hb dX0_placeOf_16 rfl (lv_at hl 2 rfl) ?_
            refine lv_icmp_ne (tgt := 22) hx hb dX0_placeOf_17 (by decide) (fun h6 => ?_) (fun h6 => ?_)
            · refine lv_iinc (k := 0) (v := (3 : Int32)) (lv' := [(2, .int ((3 : Int32))), (0, .ref (b0)), (1, .int (a0))]) hx hb dX0_placeOf_22 hl rfl (by decide) (by decide) rfl (fun ls hl => ?_)
              refine lv_goto (tgt := 2) hx hb dX0_placeOf_25 (by decide) ?_
              refine lv_iload_n hx hb dX0_placeOf_2 rfl (lv_at hl 0 rfl) ?_
              refine lv_aload_n hx hb dX0_placeOf_3 rfl (lv_at hl 1 rfl) ?_
              refine va_get (D := D) (ci := 0) (v := .int (x.2.2.2)) hx hb hG inX0 hown hK hP 0 rfl rfl 3 (by decide) (hG _ kw24) (fun _ h9 => h9) rfl dX0_placeOf_4 ?_
              refine lv_icmp_ge (tgt := 28) hx hb dX0_placeOf_7 (by decide) (fun h7 => ?_) (fun h7 => ?_)
              · refine lv_iconst (v := (-1)) hx hb dX0_placeOf_28 (by decide) ?_
                exact reti (u := ()) hx hb hr hlocks hK hP hD hS dX0_placeOf_29 (by unfold fnX0_placeOf; (try dsimp only); rw [if_neg h1]; rw [if_neg h2]; rw [if_neg h3]; rw [if_neg h4]; rw [if_neg h5]; rw [if_neg h6]; rw [if_pos h7]; (try exact rfl))
              · refine lv_aload_n hx hb dX0_placeOf_10 rfl (lv_at hl 1 rfl) ?_
                refine va_get (D := D) (ci := 0) (v := .ref (b1)) hx hb hG inX0 hown hK hP 0 rfl rfl 0 (by decide) (hG _ kw25) (fun _ h9 => h9) rfl dX0_placeOf_11 ?_
                refine lv_iload_n hx hb dX0_placeOf_14 rfl (lv_at hl 0 rfl) ?_
                refine gi (D := D) (j := 3) (f := x.1) hx hb hK hP 1 0 rfl rfl (inL (by decide)) (by decide) dX0_placeOf_15 ?_
                refine lv_iload_n hx hb dX0_placeOf_16 rfl (lv_at hl 2 rfl) ?_
                refine lv_icmp_ne (tgt := 22) hx hb dX0_placeOf_17 (by decide) (fun h8 => ?_) (fun h8 => ?_)
                · refine lv_iinc (k := 0) (v := (4 : Int32)) (lv' := [(2, .int ((4 : Int32))), (0, .ref (b0)), (1, .int (a0))]) hx hb dX0_placeOf_22 hl rfl (by decide) (by decide) rfl (fun ls hl => ?_)
                  refine lv_goto (tgt := 2) hx hb dX0_placeOf_25 (by decide) ?_
                  refine lv_iload_n hx hb dX0_placeOf_2 rfl (lv_at hl 0 rfl) ?_
                  refine lv_aload_n hx hb dX0_placeOf_3 rfl (lv_at hl 1 rfl) ?_
                  refine va_get (D := D) (ci := 0) (v := .int (x.2.2.2)) hx hb hG inX0 hown hK hP 0 rfl rfl 3 (by decide) (hG _ kw24) (fun _ h9 => h9) rfl dX0_placeOf_4 ?_
                  refine lv_icmp_ge (tgt := 28) hx hb dX0_placeOf_7 (by decide) (fun _ => ?_) (fun h9 => absurd (le4 hI.2) h9)
                  refine lv_iconst (v := (-1)) hx hb dX0_placeOf_28 (by decide) ?_
                  exact reti (u := ()) hx hb hr hlocks hK hP hD hS dX0_placeOf_29 (by unfold fnX0_placeOf; (try dsimp only); rw [if_neg h1]; rw [if_neg h2]; rw [if_neg h3]; rw [if_neg h4]; rw [if_neg h5]; rw [if_neg h6]; rw [if_neg h7]; rw [if_neg h8]; (try exact rfl))
                · refine lv_iload_n hx hb dX0_placeOf_20 rfl (lv_at hl 0 rfl) ?_
                  exact reti (u := ()) hx hb hr hlocks hK hP hD hS dX0_placeOf_21 (by unfold fnX0_placeOf; (try dsimp only); rw [if_neg h1]; rw [if_neg h2]; rw [if_neg h3]; rw [if_neg h4]; rw [if_neg h5]; rw [if_neg h6]; rw [if_neg h7]; rw [if_pos h8]; (try exact rfl))
            · refine lv_iload_n hx hb dX0_placeOf_20 rfl (lv_at hl 0 rfl) ?_
              exact reti (u := ()) hx hb hr hlocks hK hP hD hS dX0_placeOf_21 (by unfold fnX0_placeOf; (try dsimp only); rw [if_neg h1]; rw [if_neg h2]; rw [if_neg h3]; rw [if_neg h4]; rw [if_neg h5]; rw [if_pos h6]; (try exact rfl))
        · refine lv_iload_n hx hb dX0_placeOf_20 rfl (lv_at hl 0 rfl) ?_
          exact reti (u := ()) hx hb hr hlocks hK hP hD hS dX0_placeOf_21 (by unfold fnX0_placeOf; (try dsimp only); rw [if_neg h1]; rw [if_neg h2]; rw [if_neg h3]; rw [if_pos h4]; (try exact rfl))
    · refine lv_iload_n hx hb dX0_placeOf_20 rfl (lv_at hl 0 rfl) ?_
      exact reti (u := ()) hx hb hr hlocks hK hP hD hS dX0_placeOf_21 (by unfold fnX0_placeOf; (try dsimp only); rw [if_neg h1]; rw [if_pos h2]; (try exact rfl))
def fnX0_add (x : TC) (a0 : Int32) (a1 : Int64) (a2 : Int64) : Int32 × TC :=
  if (4 : Int32) ≤ x.2.2.2 then
   ((x.2.2.2 - (1 : Int32)), ((upd x.1 ((x.2.2.2 - (1 : Int32))).toNatClampNeg a0), (vp_updL x.2.1 ((x.2.2.2 - (1 : Int32))).toNatClampNeg a1), (vp_updL x.2.2.1 ((x.2.2.2 - (1 : Int32))).toNatClampNeg a2), x.2.2.2))
  else
   (((x.2.2.2 + (1 : Int32)) - (1 : Int32)), ((upd x.1 (((x.2.2.2 + (1 : Int32)) - (1 : Int32))).toNatClampNeg a0), (vp_updL x.2.1 (((x.2.2.2 + (1 : Int32)) - (1 : Int32))).toNatClampNeg a1), (vp_updL x.2.2.1 (((x.2.2.2 + (1 : Int32)) - (1 : Int32))).toNatClampNeg a2), (x.2.2.2 + (1 : Int32))))
abbrev ivX0_addP (z : Int32 × TC) : Prop := i2 z.1 ∧ iC z.2
set_option maxRecDepth 100000 in
set_option maxHeartbeats 4000000 in
theorem ivX0_add (x : TC) (a0 : Int32) (a1 : Int64) (a2 : Int64) (hI : iC x) (g1 : i36 a1) : ivX0_addP (fnX0_add x a0 a1 a2) := by
  unfold fnX0_add
  try dsimp only
  refine iteI (fun h1 => ?_) (fun h1 => ?_)
  · exact ⟨(addB hI.2 h1), ⟨(upW hI.1 g1), hI.2⟩⟩
  · exact ⟨(addA hI.2 h1), ⟨(upW hI.1 g1), (addC hI.2 h1)⟩⟩
set_option maxRecDepth 100000 in
set_option maxHeartbeats 4000000 in
theorem okX0_add (l : Launch) (D : va_G) (cI cJ cP : ClassId) (b0 b1 b2 b3 : Nat) (sz : Nat) (x : TC) (a0 : Int32) (a1 : Int64) (a2 : Int64) (hI : iC x) (g1 : i36 a1) : Met l yX0_add (Cond.code yX0_add cX0_add 7 (some .int) :: gG) { frames := 0, cells := 0, slots := 0, locals := 0 } (va_Pc [.ref (b0), .int a0, .long a1, .long a2] (PRE D (tz cI cJ cP) sz (wC cI cJ b0 b1 b2 b3 x))) (va_Qi (fun (r : Int32) (u : TC) => (r, u) = fnX0_add x a0 a1 a2) (AT D (tz cI cJ cP) (va_A (wC cI cJ b0 b1 b2 b3 x) sz) (fun (u : TC) => (wC cI cJ b0 b1 b2 b3 u))) (va_A (wC cI cJ b0 b1 b2 b3 x) sz)) 0 0 (va_A (wC cI cJ b0 b1 b2 b3 x) sz) := by
  refine mo (QA := fun A => va_Qi (fun (r : Int32) (u : TC) => (r, u) = fnX0_add x a0 a1 a2) (AT D (tz cI cJ cP) A (fun (u : TC) => (wC cI cJ b0 b1 b2 b3 u))) A) (by decide) (Nat.le_of_ble_eq_true rfl) ?_
  intro p e s m below meth c A ls H hx hb hr hml hown hG hlocks hnm hA hS hP hK hD hl hN
  have hown : s.vm.findClass RX0 = some m.cls := hown
  have hl : lv_has ls 7 [(0, .ref (b0)), (1, .int a0), (2, .long a1), (4, .long a2)] := hl
  refine lv_aload_n hx hb dX0_add_0 rfl (lv_at hl 0 rfl) ?_
  refine va_get (D := D) (ci := 0) (v := .int (x.2.2.2)) hx hb hG inX0 hown hK hP 0 rfl rfl 3 (by decide) (hG _ kw24) (fun _ h9 => h9) rfl dX0_add_1 ?_
  refine lv_iconst (v := 4) hx hb dX0_add_4 (by decide) ?_
  refine lv_icmp_ge (tgt := 18) hx hb dX0_add_5 (by decide) (fun h1 => ?_) (fun h1 => ?_)
  · refine lv_aload_n hx hb dX0_add_18 rfl (lv_at hl 0 rfl) ?_
    refine va_get (D := D) (ci := 0) (v := .int (x.2.2.2)) hx hb hG inX0 hown hK hP 0 rfl rfl 3 (by decide) (hG _ kw24) (fun _ h9 => h9) rfl dX0_add_19 ?_
    refine lv_iconst (v := 1) hx hb dX0_add_22 (by decide) ?_
    refine lv_isub hx hb dX0_add_23 ?_
    refine lv_istore (lv' := [(6, .int ((x.2.2.2 - (1 : Int32)))), (0, .ref (b0)), (1, .int (a0)), (2, .long (a1)), (4, .long (a2))]) hx hb dX0_add_24 hl (by decide) rfl (fun ls hl => ?_)
    refine lv_aload_n hx hb dX0_add_26 rfl (lv_at hl 1 rfl) ?_
    refine va_get (D := D) (ci := 0) (v := .ref (b1)) hx hb hG inX0 hown hK hP 0 rfl rfl 0 (by decide) (hG _ kw25) (fun _ h9 => h9) rfl dX0_add_27 ?_
    refine lv_iload hx hb dX0_add_30 (lv_at hl 0 rfl) ?_
    refine lv_iload_n hx hb dX0_add_32 rfl (lv_at hl 2 rfl) ?_
    refine si (D := D) (j := ((x.2.2.2 - (1 : Int32))).toNatClampNeg) (f := x.1) (x := a0) (W' := (wC cI cJ b0 b1 b2 b3 ((upd x.1 ((x.2.2.2 - (1 : Int32))).toNatClampNeg a0), x.2.1, x.2.2.1, x.2.2.2))) hx hb hK hP hD hS 1 0 rfl rfl (in2 (addB hI.2 h1)) rfl dX0_add_33 rfl (fun H locs hP hD hS => ?_)
    refine lv_aload_n hx hb dX0_add_34 rfl (lv_at hl 1 rfl) ?_
    refine va_get (D := D) (ci := 0) (v := .ref (b2)) hx hb hG inX0 hown hK hP 0 rfl rfl 1 (by decide) (hG _ kw26) (fun _ h9 => h9) rfl dX0_add_35 ?_
    refine lv_iload hx hb dX0_add_38 (lv_at hl 0 rfl) ?_
    refine lv_lload_n hx hb dX0_add_40 rfl (lv_at hl 3 rfl) ?_
    refine sl (D := D) (j := ((x.2.2.2 - (1 : Int32))).toNatClampNeg) (f := x.2.1) (x := a1) (W' := (wC cI cJ b0 b1 b2 b3 ((upd x.1 ((x.2.2.2 - (1 : Int32))).toNatClampNeg a0), (vp_updL x.2.1 ((x.2.2.2 - (1 : Int32))).toNatClampNeg a1), x.2.2.1, x.2.2.2))) hx hb hK hP hD hS 2 1 rfl rfl (in2 (addB hI.2 h1)) rfl dX0_add_41 rfl (fun H locs hP hD hS => ?_)
    refine lv_aload_n hx hb dX0_add_42 rfl (lv_at hl 1 rfl) ?_
    refine va_get (D := D) (ci := 0) (v := .ref (b3)) hx hb hG inX0 hown hK hP 0 rfl rfl 2 (by decide) (hG _ kw27) (fun _ h9 => h9) rfl dX0_add_43 ?_
    refine lv_iload hx hb dX0_add_46 (lv_at hl 0 rfl) ?_
    refine lv_lload hx hb dX0_add_48 (lv_at hl 4 rfl) ?_
    refine sl (D := D) (j := ((x.2.2.2 - (1 : Int32))).toNatClampNeg) (f := x.2.2.1) (x := a2) (W' := (wC cI cJ b0 b1 b2 b3 ((upd x.1 ((x.2.2.2 - (1 : Int32))).toNatClampNeg a0), (vp_updL x.2.1 ((x.2.2.2 - (1 : Int32))).toNatClampNeg a1), (vp_updL x.2.2.1 ((x.2.2.2 - (1 : Int32))).toNatClampNeg a2), x.2.2.2))) hx hb hK hP hD hS 3 1 rfl rfl (in2 (addB hI.2 h1)) rfl dX0_add_50 rfl (fun H locs hP hD hS => ?_)
    refine lv_iload hx hb dX0_add_51 (lv_at hl 0 rfl) ?_
    exact reti (u := ((upd x.1 ((x.2.2.2 - (1 : Int32))).toNatClampNeg a0), (vp_updL x.2.1 ((x.2.2.2 - (1 : Int32))).toNatClampNeg a1), (vp_updL x.2.2.1 ((x.2.2.2 - (1 : Int32))).toNatClampNeg a2), x.2.2.2)) hx hb hr hlocks hK hP hD hS dX0_add_53 (by unfold fnX0_add; (try dsimp only); rw [if_pos h1]; (try exact rfl))
  · refine lv_aload_n hx hb dX0_add_8 rfl (lv_at hl 0 rfl) ?_
    refine lv_dup hx hb dX0_add_9 rfl ?_
    refine va_get (D := D) (ci := 0) (v := .int (x.2.2.2)) hx hb hG inX0 hown hK hP 0 rfl rfl 3 (by decide) (hG _ kw24) (fun _ h9 => h9) rfl dX0_add_10 ?_
    refine lv_iconst (v := 1) hx hb dX0_add_13 (by decide) ?_
    refine lv_iadd hx hb dX0_add_14 ?_
    refine pu (D := D) (ci := 0) (v := .int ((x.2.2.2 + (1 : Int32)))) (ty := .int) (W' := (wC cI cJ b0 b1 b2 b3 (x.1, x.2.1, x.2.2.1, (x.2.2.2 + (1 : Int32))))) hx hb hG inX0 tyX0 tyokX0 nmX0 hown hK hP hD hS 0 rfl rfl 3 (by decide) (hG _ kw24) (fun _ h9 => h9) rfl (by decide +kernel) rfl rfl (Nat.le_of_ble_eq_true rfl) dX0_add_15 rfl (fun H locs hP hD hS => ?_)
    refine lv_aload_n hx hb dX0_add_18 rfl (lv_at hl 0 rfl) ?_
    refine va_get (D := D) (ci := 0) (v := .int ((x.2.2.2 + (1 : Int32)))) hx hb hG inX0 hown hK hP 0 rfl rfl 3 (by decide) (hG _ kw24) (fun _ h9 => h9) rfl dX0_add_19 ?_
    refine lv_iconst (v := 1) hx hb dX0_add_22 (by decide) ?_
    refine lv_isub hx hb dX0_add_23 ?_
    refine lv_istore (lv' := [(6, .int (((x.2.2.2 + (1 : Int32)) - (1 : Int32)))), (0, .ref (b0)), (1, .int (a0)), (2, .long (a1)), (4, .long (a2))]) hx hb dX0_add_24 hl (by decide) rfl (fun ls hl => ?_)
    refine lv_aload_n hx hb dX0_add_26 rfl (lv_at hl 1 rfl) ?_
    refine va_get (D := D) (ci := 0) (v := .ref (b1)) hx hb hG inX0 hown hK hP 0 rfl rfl 0 (by decide) (hG _ kw25) (fun _ h9 => h9) rfl dX0_add_27 ?_
    refine lv_iload hx hb dX0_add_30 (lv_at hl 0 rfl) ?_
    refine lv_iload_n hx hb dX0_add_32 rfl (lv_at hl 2 rfl) ?_
    refine si (D := D) (j := (((x.2.2.2 + (1 : Int32)) - (1 : Int32))).toNatClampNeg) (f := x.1) (x := a0) (W' := (wC cI cJ b0 b1 b2 b3 ((upd x.1 (((x.2.2.2 + (1 : Int32)) - (1 : Int32))).toNatClampNeg a0), x.2.1, x.2.2.1, (x.2.2.2 + (1 : Int32))))) hx hb hK hP hD hS 1 0 rfl rfl (in2 (addA hI.2 h1)) rfl dX0_add_33 rfl (fun H locs hP hD hS => ?_)
    refine lv_aload_n hx hb dX0_add_34 rfl (lv_at hl 1 rfl) ?_
    refine va_get (D := D) (ci := 0) (v := .ref (b2)) hx hb hG inX0 hown hK hP 0 rfl rfl 1 (by decide) (hG _ kw26) (fun _ h9 => h9) rfl dX0_add_35 ?_
    refine lv_iload hx hb dX0_add_38 (lv_at hl 0 rfl) ?_
    refine lv_lload_n hx hb dX0_add_40 rfl (lv_at hl 3 rfl) ?_
    refine sl (D := D) (j := (((x.2.2.2 + (1 : Int32)) - (1 : Int32))).toNatClampNeg) (f := x.2.1) (x := a1) (W' := (wC cI cJ b0 b1 b2 b3 ((upd x.1 (((x.2.2.2 + (1 : Int32)) - (1 : Int32))).toNatClampNeg a0), (vp_updL x.2.1 (((x.2.2.2 + (1 : Int32)) - (1 : Int32))).toNatClampNeg a1), x.2.2.1, (x.2.2.2 + (1 : Int32))))) hx hb hK hP hD hS 2 1 rfl rfl (in2 (addA hI.2 h1)) rfl dX0_add_41 rfl (fun H locs hP hD hS => ?_)
    refine lv_aload_n hx hb dX0_add_42 rfl (lv_at hl 1 rfl) ?_
    refine va_get (D := D) (ci := 0) (v := .ref (b3)) hx hb hG inX0 hown hK hP 0 rfl rfl 2 (by decide) (hG _ kw27) (fun _ h9 => h9) rfl dX0_add_43 ?_
    refine lv_iload hx hb dX0_add_46 (lv_at hl 0 rfl) ?_
    refine lv_lload hx hb dX0_add_48 (lv_at hl 4 rfl) ?_
    refine sl (D := D) (j := (((x.2.2.2 + (1 : Int32)) - (1 : Int32))).toNatClampNeg) (f := x.2.2.1) (x := a2) (W' := (wC cI cJ b0 b1 b2 b3 ((upd x.1 (((x.2.2.2 + (1 : Int32)) - (1 : Int32))).toNatClampNeg a0), (vp_updL x.2.1 (((x.2.2.2 + (1 : Int32)) - (1 : Int32))).toNatClampNeg a1), (vp_updL x.2.2.1 (((x.2.2.2 + (1 : Int32)) - (1 : Int32))).toNatClampNeg a2), (x.2.2.2 + (1 : Int32))))) hx hb hK hP hD hS 3 1 rfl rfl (in2 (addA hI.2 h1)) rfl dX0_add_50 rfl (fun H locs hP hD hS => ?_)
    refine lv_iload hx hb dX0_add_51 (lv_at hl 0 rfl) ?_
    exact reti (u := ((upd x.1 (((x.2.2.2 + (1 : Int32)) - (1 : Int32))).toNatClampNeg a0), (vp_updL x.2.1 (((x.2.2.2 + (1 : Int32)) - (1 : Int32))).toNatClampNeg a1), (vp_updL x.2.2.1 (((x.2.2.2 + (1 : Int32)) - (1 : Int32))).toNatClampNeg a2), (x.2.2.2 + (1 : Int32)))) hx hb hr hlocks hK hP hD hS dX0_add_53 (by unfold fnX0_add; (try dsimp only); rw [if_neg h1]; (try exact rfl))
def fnX0_moveToFront (x : TC) (a0 : Int32) : TC :=
  if a0 = (0 : Int32) then
   ((upd x.1 0 (x.1 0)), (vp_updL x.2.1 0 (x.2.1 0)), (vp_updL x.2.2.1 0 (x.2.2.1 0)), x.2.2.2)
  else
   if a0 = (1 : Int32) then
    ((upd (upd x.1 1 (x.1 0)) 0 (x.1 1)), (vp_updL (vp_updL x.2.1 1 (x.2.1 0)) 0 (x.2.1 1)), (vp_updL (vp_updL x.2.2.1 1 (x.2.2.1 0)) 0 (x.2.2.1 1)), x.2.2.2)
   else
    if a0 = (2 : Int32) then
     ((upd (upd (upd x.1 2 (x.1 1)) 1 ((upd x.1 2 (x.1 1)) 0)) 0 (x.1 2)), (vp_updL (vp_updL (vp_updL x.2.1 2 (x.2.1 1)) 1 ((vp_updL x.2.1 2 (x.2.1 1)) 0)) 0 (x.2.1 2)), (vp_updL (vp_updL (vp_updL x.2.2.1 2 (x.2.2.1 1)) 1 ((vp_updL x.2.2.1 2 (x.2.2.1 1)) 0)) 0 (x.2.2.1 2)), x.2.2.2)
    else
     ((upd (upd (upd (upd x.1 3 (x.1 2)) 2 ((upd x.1 3 (x.1 2)) 1)) 1 ((upd (upd x.1 3 (x.1 2)) 2 ((upd x.1 3 (x.1 2)) 1)) 0)) 0 (x.1 3)), (vp_updL (vp_updL (vp_updL (vp_updL x.2.1 3 (x.2.1 2)) 2 ((vp_updL x.2.1 3 (x.2.1 2)) 1)) 1 ((vp_updL (vp_updL x.2.1 3 (x.2.1 2)) 2 ((vp_updL x.2.1 3 (x.2.1 2)) 1)) 0)) 0 (x.2.1 3)), (vp_updL (vp_updL (vp_updL (vp_updL x.2.2.1 3 (x.2.2.1 2)) 2 ((vp_updL x.2.2.1 3 (x.2.2.1 2)) 1)) 1 ((vp_updL (vp_updL x.2.2.1 3 (x.2.2.1 2)) 2 ((vp_updL x.2.2.1 3 (x.2.2.1 2)) 1)) 0)) 0 (x.2.2.1 3)), x.2.2.2)
abbrev ivX0_moveToFrontP (z : TC) : Prop := iC z
set_option maxRecDepth 100000 in
set_option maxHeartbeats 4000000 in
theorem ivX0_moveToFront (x : TC) (a0 : Int32) (hI : iC x) (g0 : i2 a0) : ivX0_moveToFrontP (fnX0_moveToFront x a0) := by
  unfold fnX0_moveToFront
  try dsimp only
  refine iteI (fun h1 => ?_) (fun h1 => ?_)
  · exact ⟨(upW hI.1 (hI.1 0)), hI.2⟩
  · refine iteI (fun h2 => ?_) (fun h2 => ?_)
    · exact ⟨(upW (upW hI.1 (hI.1 0)) (hI.1 1)), hI.2⟩
    · refine iteI (fun h3 => ?_) (fun h3 => ?_)
      · exact ⟨(upW (upW (upW hI.1 (hI.1 1)) ((upW hI.1 (hI.1 1)) 0)) (hI.1 2)), hI.2⟩
      · exact ⟨(upW (upW (upW (upW hI.1 (hI.1 2)) ((upW hI.1 (hI.1 2)) 1)) ((upW (upW hI.1 (hI.1 2)) ((upW hI.1 (hI.1 2)) 1)) 0)) (hI.1 3)), hI.2⟩
set_option maxRecDepth 100000 in
set_option maxHeartbeats 4000000 in
theorem okX0_moveToFront (l : Launch) (D : va_G) (cI cJ cP : ClassId) (b0 b1 b2 b3 : Nat) (sz : Nat) (x : TC) (a0 : Int32) (hI : iC x) (g0 : i2 a0) : Met l yX0_moveToFront (Cond.code yX0_moveToFront cX0_moveToFront 8 none :: gG) { frames := 0, cells := 0, slots := 0, locals := 0 } (va_Pc [.ref (b0), .int a0] (PRE D (tz cI cJ cP) sz (wC cI cJ b0 b1 b2 b3 x))) (va_Qv (fun (u : TC) => u = fnX0_moveToFront x a0) (AT D (tz cI cJ cP) (va_A (wC cI cJ b0 b1 b2 b3 x) sz) (fun (u : TC) => (wC cI cJ b0 b1 b2 b3 u))) (va_A (wC cI cJ b0 b1 b2 b3 x) sz)) 0 0 (va_A (wC cI cJ b0 b1 b2 b3 x) sz) := by
  refine mo (QA := fun A => va_Qv (fun (u : TC) => u = fnX0_moveToFront x a0) (AT D (tz cI cJ cP) A (fun (u : TC) => (wC cI cJ b0 b1 b2 b3 u))) A) (by decide) (Nat.le_of_ble_eq_true rfl) ?_
  intro p e s m below meth c A ls H hx hb hr hml hown hG hlocks hnm hA hS hP hK hD hl hN
  have hown : s.vm.findClass RX0 = some m.cls := hown
  have hl : lv_has ls 8 [(0, .ref (b0)), (1, .int a0)] := hl
  by_cases h1 : a0 = (0 : Int32)
  · subst h1
    refine lv_aload_n hx hb dX0_moveToFront_0 rfl (lv_at hl 0 rfl) ?_
    refine va_get (D := D) (ci := 0) (v := .ref (b1)) hx hb hG inX0 hown hK hP 0 rfl rfl 0 (by decide) (hG _ kw25) (fun _ h9 => h9) rfl dX0_moveToFront_1 ?_
    refine lv_iload_n hx hb dX0_moveToFront_4 rfl (lv_at hl 1 rfl) ?_
    refine gi (D := D) (j := 0) (f := x.1) hx hb hK hP 1 0 rfl rfl (inL (by decide)) (by decide) dX0_moveToFront_5 ?_
    refine lv_istore_n (lv' := [(2, .int ((x.1 0))), (0, .ref (b0)), (1, .int ((0 : Int32)))]) hx hb dX0_moveToFront_6 rfl hl (by decide) rfl (fun ls hl => ?_)
    refine lv_aload_n hx hb dX0_moveToFront_7 rfl (lv_at hl 1 rfl) ?_
    refine va_get (D := D) (ci := 0) (v := .ref (b2)) hx hb hG inX0 hown hK hP 0 rfl rfl 1 (by decide) (hG _ kw26) (fun _ h9 => h9) rfl dX0_moveToFront_8 ?_
    refine lv_iload_n hx hb dX0_moveToFront_11 rfl (lv_at hl 2 rfl) ?_
    refine gl (D := D) (j := 0) (f := x.2.1) hx hb hK hP 2 1 rfl rfl (inL (by decide)) (by decide) dX0_moveToFront_12 ?_
    refine lv_lstore_n (lv' := [(3, .long ((x.2.1 0))), (2, .int ((x.1 0))), (0, .ref (b0)), (1, .int ((0 : Int32)))]) hx hb dX0_moveToFront_13 rfl hl (by decide) rfl (fun ls hl => ?_)
    refine lv_aload_n hx hb dX0_moveToFront_14 rfl (lv_at hl 2 rfl) ?_
    refine va_get (D := D) (ci := 0) (v := .ref (b3)) hx hb hG inX0 hown hK hP 0 rfl rfl 2 (by decide) (hG _ kw27) (fun _ h9 => h9) rfl dX0_moveToFront_15 ?_
    refine lv_iload_n hx hb dX0_moveToFront_18 rfl (lv_at hl 3 rfl) ?_
    refine gl (D := D) (j := 0) (f := x.2.2.1) hx hb hK hP 3 1 rfl rfl (inL (by decide)) (by decide) dX0_moveToFront_19 ?_
    refine lv_lstore (lv' := [(5, .long ((x.2.2.1 0))), (3, .long ((x.2.1 0))), (2, .int ((x.1 0))), (0, .ref (b0)), (1, .int ((0 : Int32)))]) hx hb dX0_moveToFront_20 hl (by decide) rfl (fun ls hl => ?_)
    refine lv_iload_n hx hb dX0_moveToFront_22 rfl (lv_at hl 4 rfl) ?_
    refine lv_istore (lv' := [(7, .int ((0 : Int32))), (5, .long ((x.2.2.1 0))), (3, .long ((x.2.1 0))), (2, .int ((x.1 0))), (0, .ref (b0)), (1, .int ((0 : Int32)))]) hx hb dX0_moveToFront_23 hl (by decide) rfl (fun ls hl => ?_)
    refine lv_iload hx hb dX0_moveToFront_25 (lv_at hl 0 rfl) ?_
    refine lv_if_le (tgt := 84) hx hb dX0_moveToFront_27 (by decide) (fun _ => ?_) (fun h9 => absurd (by decide) h9)
    refine lv_aload_n hx hb dX0_moveToFront_84 rfl (lv_at hl 4 rfl) ?_
    refine va_get (D := D) (ci := 0) (v := .ref (b1)) hx hb hG inX0 hown hK hP 0 rfl rfl 0 (by decide) (hG _ kw25) (fun _ h9 => h9) rfl dX0_moveToFront_85 ?_
    refine lv_iconst (v := 0) hx hb dX0_moveToFront_88 (by decide) ?_
    refine lv_iload_n hx hb dX0_moveToFront_89 rfl (lv_at hl 3 rfl) ?_
    refine si (D := D) (j := 0) (f := x.1) (x := (x.1 0)) (W' := (wC cI cJ b0 b1 b2 b3 ((upd x.1 0 (x.1 0)), x.2.1, x.2.2.1, x.2.2.2))) hx hb hK hP hD hS 1 0 rfl rfl (inL (by decide)) (by decide) dX0_moveToFront_90 rfl (fun H locs hP hD hS => ?_)
    refine lv_aload_n hx hb dX0_moveToFront_91 rfl (lv_at hl 4 rfl) ?_
    refine va_get (D := D) (ci := 0) (v := .ref (b2)) hx hb hG inX0 hown hK hP 0 rfl rfl 1 (by decide) (hG _ kw26) (fun _ h9 => h9) rfl dX0_moveToFront_92 ?_
    refine lv_iconst (v := 0) hx hb dX0_moveToFront_95 (by decide) ?_
    refine lv_lload_n hx hb dX0_moveToFront_96 rfl (lv_at hl 2 rfl) ?_
    refine sl (D := D) (j := 0) (f := x.2.1) (x := (x.2.1 0)) (W' := (wC cI cJ b0 b1 b2 b3 ((upd x.1 0 (x.1 0)), (vp_updL x.2.1 0 (x.2.1 0)), x.2.2.1, x.2.2.2))) hx hb hK hP hD hS 2 1 rfl rfl (inL (by decide)) (by decide) dX0_moveToFront_97 rfl (fun H locs hP hD hS => ?_)
    refine lv_aload_n hx hb dX0_moveToFront_98 rfl (lv_at hl 4 rfl) ?_
    refine va_get (D := D) (ci := 0) (v := .ref (b3)) hx hb hG inX0 hown hK hP 0 rfl rfl 2 (by decide) (hG _ kw27) (fun _ h9 => h9) rfl dX0_moveToFront_99 ?_
    refine lv_iconst (v := 0) hx hb dX0_moveToFront_102 (by decide) ?_
    refine lv_lload hx hb dX0_moveToFront_103 (lv_at hl 1 rfl) ?_
    refine sl (D := D) (j := 0) (f := x.2.2.1) (x := (x.2.2.1 0)) (W' := (wC cI cJ b0 b1 b2 b3 ((upd x.1 0 (x.1 0)), (vp_updL x.2.1 0 (x.2.1 0)), (vp_updL x.2.2.1 0 (x.2.2.1 0)), x.2.2.2))) hx hb hK hP hD hS 3 1 rfl rfl (inL (by decide)) (by decide) dX0_moveToFront_105 rfl (fun H locs hP hD hS => ?_)
    exact retv (u := ((upd x.1 0 (x.1 0)), (vp_updL x.2.1 0 (x.2.1 0)), (vp_updL x.2.2.1 0 (x.2.2.1 0)), x.2.2.2)) hx hb hr hlocks hK hP hD hS dX0_moveToFront_106 (by unfold fnX0_moveToFront; (try dsimp only); rw [if_pos (rfl : (0 : Int32) = (0 : Int32))]; (try exact rfl))
  by_cases h2 : a0 = (1 : Int32)
  · subst h2
    refine lv_aload_n hx hb dX0_moveToFront_0 rfl (lv_at hl 0 rfl) ?_
    refine va_get (D := D) (ci := 0) (v := .ref (b1)) hx hb hG inX0 hown hK hP 0 rfl rfl 0 (by decide) (hG _ kw25) (fun _ h9 => h9) rfl dX0_moveToFront_1 ?_
    refine lv_iload_n hx hb dX0_moveToFront_4 rfl (lv_at hl 1 rfl) ?_
    refine gi (D := D) (j := 1) (f := x.1) hx hb hK hP 1 0 rfl rfl (inL (by decide)) (by decide) dX0_moveToFront_5 ?_
    refine lv_istore_n (lv' := [(2, .int ((x.1 1))), (0, .ref (b0)), (1, .int ((1 : Int32)))]) hx hb dX0_moveToFront_6 rfl hl (by decide) rfl (fun ls hl => ?_)
    refine lv_aload_n hx hb dX0_moveToFront_7 rfl (lv_at hl 1 rfl) ?_
    refine va_get (D := D) (ci := 0) (v := .ref (b2)) hx hb hG inX0 hown hK hP 0 rfl rfl 1 (by decide) (hG _ kw26) (fun _ h9 => h9) rfl dX0_moveToFront_8 ?_
    refine lv_iload_n hx hb dX0_moveToFront_11 rfl (lv_at hl 2 rfl) ?_
    refine gl (D := D) (j := 1) (f := x.2.1) hx hb hK hP 2 1 rfl rfl (inL (by decide)) (by decide) dX0_moveToFront_12 ?_
    refine lv_lstore_n (lv' := [(3, .long ((x.2.1 1))), (2, .int ((x.1 1))), (0, .ref (b0)), (1, .int ((1 : Int32)))]) hx hb dX0_moveToFront_13 rfl hl (by decide) rfl (fun ls hl => ?_)
    refine lv_aload_n hx hb dX0_moveToFront_14 rfl (lv_at hl 2 rfl) ?_
    refine va_get (D := D) (ci := 0) (v := .ref (b3)) hx hb hG inX0 hown hK hP 0 rfl rfl 2 (by decide) (hG _ kw27) (fun _ h9 => h9) rfl dX0_moveToFront_15 ?_
    refine lv_iload_n hx hb dX0_moveToFront_18 rfl (lv_at hl 3 rfl) ?_
    refine gl (D := D) (j := 1) (f := x.2.2.1) hx hb hK hP 3 1 rfl rfl (inL (by decide)) (by decide) dX0_moveToFront_19 ?_
    refine lv_lstore (lv' := [(5, .long ((x.2.2.1 1))), (3, .long ((x.2.1 1))), (2, .int ((x.1 1))), (0, .ref (b0)), (1, .int ((1 : Int32)))]) hx hb dX0_moveToFront_20 hl (by decide) rfl (fun ls hl => ?_)
    refine lv_iload_n hx hb dX0_moveToFront_22 rfl (lv_at hl 4 rfl) ?_
    refine lv_istore (lv' := [(7, .int ((1 : Int32))), (5, .long ((x.2.2.1 1))), (3, .long ((x.2.1 1))), (2, .int ((x.1 1))), (0, .ref (b0)), (1, .int ((1 : Int32)))]) hx hb dX0_moveToFront_23 hl (by decide) rfl (fun ls hl => ?_)
    refine lv_iload hx hb dX0_moveToFront_25 (lv_at hl 0 rfl) ?_
    refine lv_if_le (tgt := 84) hx hb dX0_moveToFront_27 (by decide) (fun h9 => absurd h9 (by decide)) (fun _ => ?_)
    refine lv_aload_n hx hb dX0_moveToFront_30 rfl (lv_at hl 4 rfl) ?_
    refine va_get (D := D) (ci := 0) (v := .ref (b1)) hx hb hG inX0 hown hK hP 0 rfl rfl 0 (by decide) (hG _ kw25) (fun _ h9 => h9) rfl dX0_moveToFront_31 ?_
    refine lv_iload hx hb dX0_moveToFront_34 (lv_at hl 0 rfl) ?_
    refine lv_aload_n hx hb dX0_moveToFront_36 rfl (lv_at hl 4 rfl) ?_
    refine va_get (D := D) (ci := 0) (v := .ref (b1)) hx hb hG inX0 hown hK hP 0 rfl rfl 0 (by decide) (hG _ kw25) (fun _ h9 => h9) rfl dX0_moveToFront_37 ?_
    refine lv_iload hx hb dX0_moveToFront_40 (lv_at hl 0 rfl) ?_
    refine lv_iconst (v := 1) hx hb dX0_moveToFront_42 (by decide) ?_
    refine lv_isub hx hb dX0_moveToFront_43 ?_
    refine tI (y := 0) (by decide) ?_
    refine gi (D := D) (j := 0) (f := x.1) hx hb hK hP 1 0 rfl rfl (inL (by decide)) (by decide) dX0_moveToFront_44 ?_
    refine si (D := D) (j := 1) (f := x.1) (x := (x.1 0)) (W' := (wC cI cJ b0 b1 b2 b3 ((upd x.1 1 (x.1 0)), x.2.1, x.2.2.1, x.2.2.2))) hx hb hK hP hD hS 1 0 rfl rfl (inL (by decide)) (by decide) dX0_moveToFront_45 rfl (fun H locs hP hD hS => ?_)
    refine lv_aload_n hx hb dX0_moveToFront_46 rfl (lv_at hl 4 rfl) ?_
    refine va_get (D := D) (ci := 0) (v := .ref (b2)) hx hb hG inX0 hown hK hP 0 rfl rfl 1 (by decide) (hG _ kw26) (fun _ h9 => h9) rfl dX0_moveToFront_47 ?_
    refine lv_iload hx hb dX0_moveToFront_50 (lv_at hl 0 rfl) ?_
    refine lv_aload_n hx hb dX0_moveToFront_52 rfl (lv_at hl 4 rfl) ?_
    refine va_get (D := D) (ci := 0) (v := .ref (b2)) hx hb hG inX0 hown hK hP 0 rfl rfl 1 (by decide) (hG _ kw26) (fun _ h9 => h9) rfl dX0_moveToFront_53 ?_
    refine lv_iload hx hb dX0_moveToFront_56 (lv_at hl 0 rfl) ?_
    refine lv_iconst (v := 1) hx hb dX0_moveToFront_58 (by decide) ?_
    refine lv_isub hx hb dX0_moveToFront_59 ?_
    refine tI (y := 0) (by decide) ?_
    refine gl (D := D) (j := 0) (f := x.2.1) hx hb hK hP 2 1 rfl rfl (inL (by decide)) (by decide) dX0_moveToFront_60 ?_
    refine sl (D := D) (j := 1) (f := x.2.1) (x := (x.2.1 0)) (W' := (wC cI cJ b0 b1 b2 b3 ((upd x.1 1 (x.1 0)), (vp_updL x.2.1 1 (x.2.1 0)), x.2.2.1, x.2.2.2))) hx hb hK hP hD hS 2 1 rfl rfl (inL (by decide)) (by decide) dX0_moveToFront_61 rfl (fun H locs hP hD hS => ?_)
    refine lv_aload_n hx hb dX0_moveToFront_62 rfl (lv_at hl 4 rfl) ?_
    refine va_get (D := D) (ci := 0) (v := .ref (b3)) hx hb hG inX0 hown hK hP 0 rfl rfl 2 (by decide) (hG _ kw27) (fun _ h9 => h9) rfl dX0_moveToFront_63 ?_
    refine lv_iload hx hb dX0_moveToFront_66 (lv_at hl 0 rfl) ?_
    refine lv_aload_n hx hb dX0_moveToFront_68 rfl (lv_at hl 4 rfl) ?_
    refine va_get (D := D) (ci := 0) (v := .ref (b3)) hx hb hG inX0 hown hK hP 0 rfl rfl 2 (by decide) (hG _ kw27) (fun _ h9 => h9) rfl dX0_moveToFront_69 ?_
    refine lv_iload hx hb dX0_moveToFront_72 (lv_at hl 0 rfl) ?_
    refine lv_iconst (v := 1) hx hb dX0_moveToFront_74 (by decide) ?_
    refine lv_isub hx hb dX0_moveToFront_75 ?_
    refine tI (y := 0) (by decide) ?_
    refine gl (D := D) (j := 0) (f := x.2.2.1) hx hb hK hP 3 1 rfl rfl (inL (by decide)) (by decide) dX0_moveToFront_76 ?_
    refine sl (D := D) (j := 1) (f := x.2.2.1) (x := (x.2.2.1 0)) (W' := (wC cI cJ b0 b1 b2 b3 ((upd x.1 1 (x.1 0)), (vp_updL x.2.1 1 (x.2.1 0)), (vp_updL x.2.2.1 1 (x.2.2.1 0)), x.2.2.2))) hx hb hK hP hD hS 3 1 rfl rfl (inL (by decide)) (by decide) dX0_moveToFront_77 rfl (fun H locs hP hD hS => ?_)
    refine lv_iinc (k := 0) (v := (0 : Int32)) (lv' := [(7, .int ((0 : Int32))), (5, .long ((x.2.2.1 1))), (3, .long ((x.2.1 1))), (2, .int ((x.1 1))), (0, .ref (b0)), (1, .int ((1 : Int32)))]) hx hb dX0_moveToFront_78 hl rfl (by decide) (by decide) rfl (fun ls hl => ?_)
    refine lv_goto (tgt := 25) hx hb dX0_moveToFront_81 (by decide) ?_
    refine lv_iload hx hb dX0_moveToFront_25 (lv_at hl 0 rfl) ?_
    refine lv_if_le (tgt := 84) hx hb dX0_moveToFront_27 (by decide) (fun _ => ?_) (fun h9 => absurd (by decide) h9)
    refine lv_aload_n hx hb dX0_moveToFront_84 rfl (lv_at hl 4 rfl) ?_
    refine va_get (D := D) (ci := 0) (v := .ref (b1)) hx hb hG inX0 hown hK hP 0 rfl rfl 0 (by decide) (hG _ kw25) (fun _ h9 => h9) rfl dX0_moveToFront_85 ?_
    refine lv_iconst (v := 0) hx hb dX0_moveToFront_88 (by decide) ?_
    refine lv_iload_n hx hb dX0_moveToFront_89 rfl (lv_at hl 3 rfl) ?_
    refine si (D := D) (j := 0) (f := (upd x.1 1 (x.1 0))) (x := (x.1 1)) (W' := (wC cI cJ b0 b1 b2 b3 ((upd (upd x.1 1 (x.1 0)) 0 (x.1 1)), (vp_updL x.2.1 1 (x.2.1 0)), (vp_updL x.2.2.1 1 (x.2.2.1 0)), x.2.2.2))) hx hb hK hP hD hS 1 0 rfl rfl (inL (by decide)) (by decide) dX0_moveToFront_90 rfl (fun H locs hP hD hS => ?_)
    refine lv_aload_n hx hb dX0_moveToFront_91 rfl (lv_at hl 4 rfl) ?_
    refine va_get (D := D) (ci := 0) (v := .ref (b2)) hx hb hG inX0 hown hK hP 0 rfl rfl 1 (by decide) (hG _ kw26) (fun _ h9 => h9) rfl dX0_moveToFront_92 ?_
    refine lv_iconst (v := 0) hx hb dX0_moveToFront_95 (by decide) ?_
    refine lv_lload_n hx hb dX0_moveToFront_96 rfl (lv_at hl 2 rfl) ?_
    refine sl (D := D) (j := 0) (f := (vp_updL x.2.1 1 (x.2.1 0))) (x := (x.2.1 1)) (W' := (wC cI cJ b0 b1 b2 b3 ((upd (upd x.1 1 (x.1 0)) 0 (x.1 1)), (vp_updL (vp_updL x.2.1 1 (x.2.1 0)) 0 (x.2.1 1)), (vp_updL x.2.2.1 1 (x.2.2.1 0)), x.2.2.2))) hx hb hK hP hD hS 2 1 rfl rfl (inL (by decide)) (by decide) dX0_moveToFront_97 rfl (fun H locs hP hD hS => ?_)
    refine lv_aload_n hx hb dX0_moveToFront_98 rfl (lv_at hl 4 rfl) ?_
    refine va_get (D := D) (ci := 0) (v := .ref (b3)) hx hb hG inX0 hown hK hP 0 rfl rfl 2 (by decide) (hG _ kw27) (fun _ h9 => h9) rfl dX0_moveToFront_99 ?_
    refine lv_iconst (v := 0) hx hb dX0_moveToFront_102 (by decide) ?_
    refine lv_lload hx hb dX0_moveToFront_103 (lv_at hl 1 rfl) ?_
    refine sl (D := D) (j := 0) (f := (vp_updL x.2.2.1 1 (x.2.2.1 0))) (x := (x.2.2.1 1)) (W' := (wC cI cJ b0 b1 b2 b3 ((upd (upd x.1 1 (x.1 0)) 0 (x.1 1)), (vp_updL (vp_updL x.2.1 1 (x.2.1 0)) 0 (x.2.1 1)), (vp_updL (vp_updL x.2.2.1 1 (x.2.2.1 0)) 0 (x.2.2.1 1)), x.2.2.2))) hx hb hK hP hD hS 3 1 rfl rfl (inL (by decide)) (by decide) dX0_moveToFront_105 rfl (fun H locs hP hD hS => ?_)
    exact retv (u := ((upd (upd x.1 1 (x.1 0)) 0 (x.1 1)), (vp_updL (vp_updL x.2.1 1 (x.2.1 0)) 0 (x.2.1 1)), (vp_updL (vp_updL x.2.2.1 1 (x.2.2.1 0)) 0 (x.2.2.1 1)), x.2.2.2)) hx hb hr hlocks hK hP hD hS dX0_moveToFront_106 (by unfold fnX0_moveToFront; (try dsimp only); rw [if_neg h1]; rw [if_pos (rfl : (1 : Int32) = (1 : Int32))]; (try exact rfl))
  by_cases h3 : a0 = (2 : Int32)
  · subst h3
    refine lv_aload_n hx hb dX0_moveToFront_0 rfl (lv_at hl 0 rfl) ?_
    refine va_get (D := D) (ci := 0) (v := .ref (b1)) hx hb hG inX0 hown hK hP 0 rfl rfl 0 (by decide) (hG _ kw25) (fun _ h9 => h9) rfl dX0_moveToFront_1 ?_
    refine lv_iload_n hx hb dX0_moveToFront_4 rfl (lv_at hl 1 rfl) ?_
    refine gi (D := D) (j := 2) (f := x.1) hx hb hK hP 1 0 rfl rfl (inL (by decide)) (by decide) dX0_moveToFront_5 ?_
    refine lv_istore_n (lv' := [(2, .int ((x.1 2))), (0, .ref (b0)), (1, .int ((2 : Int32)))]) hx hb dX0_moveToFront_6 rfl hl (by decide) rfl (fun ls hl => ?_)
    refine lv_aload_n hx hb dX0_moveToFront_7 rfl (lv_at hl 1 rfl) ?_
    refine va_get (D := D) (ci := 0) (v := .ref (b2)) hx hb hG inX0 hown hK hP 0 rfl rfl 1 (by decide) (hG _ kw26) (fun _ h9 => h9) rfl dX0_moveToFront_8 ?_
    refine lv_iload_n hx hb dX0_moveToFront_11 rfl (lv_at hl 2 rfl) ?_
    refine gl (D := D) (j := 2) (f := x.2.1) hx hb hK hP 2 1 rfl rfl (inL (by decide)) (by decide) dX0_moveToFront_12 ?_
    refine lv_lstore_n (lv' := [(3, .long ((x.2.1 2))), (2, .int ((x.1 2))), (0, .ref (b0)), (1, .int ((2 : Int32)))]) hx hb dX0_moveToFront_13 rfl hl (by decide) rfl (fun ls hl => ?_)
    refine lv_aload_n hx hb dX0_moveToFront_14 rfl (lv_at hl 2 rfl) ?_
    refine va_get (D := D) (ci := 0) (v := .ref (b3)) hx hb hG inX0 hown hK hP 0 rfl rfl 2 (by decide) (hG _ kw27) (fun _ h9 => h9) rfl dX0_moveToFront_15 ?_
    refine lv_iload_n hx hb dX0_moveToFront_18 rfl (lv_at hl 3 rfl) ?_
    refine gl (D := D) (j := 2) (f := x.2.2.1) hx hb hK hP 3 1 rfl rfl (inL (by decide)) (by decide) dX0_moveToFront_19 ?_
    refine lv_lstore (lv' := [(5, .long ((x.2.2.1 2))), (3, .long ((x.2.1 2))), (2, .int ((x.1 2))), (0, .ref (b0)), (1, .int ((2 : Int32)))]) hx hb dX0_moveToFront_20 hl (by decide) rfl (fun ls hl => ?_)
    refine lv_iload_n hx hb dX0_moveToFront_22 rfl (lv_at hl 4 rfl) ?_
    refine lv_istore (lv' := [(7, .int ((2 : Int32))), (5, .long ((x.2.2.1 2))), (3, .long ((x.2.1 2))), (2, .int ((x.1 2))), (0, .ref (b0)), (1, .int ((2 : Int32)))]) hx hb dX0_moveToFront_23 hl (by decide) rfl (fun ls hl => ?_)
    refine lv_iload hx hb dX0_moveToFront_25 (lv_at hl 0 rfl) ?_
    refine lv_if_le (tgt := 84) hx hb dX0_moveToFront_27 (by decide) (fun h9 => absurd h9 (by decide)) (fun _ => ?_)
    refine lv_aload_n hx hb dX0_moveToFront_30 rfl (lv_at hl 4 rfl) ?_
    refine va_get (D := D) (ci := 0) (v := .ref (b1)) hx hb hG inX0 hown hK hP 0 rfl rfl 0 (by decide) (hG _ kw25) (fun _ h9 => h9) rfl dX0_moveToFront_31 ?_
    refine lv_iload hx hb dX0_moveToFront_34 (lv_at hl 0 rfl) ?_
    refine lv_aload_n hx hb dX0_moveToFront_36 rfl (lv_at hl 4 rfl) ?_
    refine va_get (D := D) (ci := 0) (v := .ref (b1)) hx hb hG inX0 hown hK hP 0 rfl rfl 0 (by decide) (hG _ kw25) (fun _ h9 => h9) rfl dX0_moveToFront_37 ?_
    refine lv_iload hx hb dX0_moveToFront_40 (lv_at hl 0 rfl) ?_
    refine lv_iconst (v := 1) hx hb dX0_moveToFront_42 (by decide) ?_
    refine lv_isub hx hb dX0_moveToFront_43 ?_
    refine tI (y := 1) (by decide) ?_
    refine gi (D := D) (j := 1) (f := x.1) hx hb hK hP 1 0 rfl rfl (inL (by decide)) (by decide) dX0_moveToFront_44 ?_
    refine si (D := D) (j := 2) (f := x.1) (x := (x.1 1)) (W' := (wC cI cJ b0 b1 b2 b3 ((upd x.1 2 (x.1 1)), x.2.1, x.2.2.1, x.2.2.2))) hx hb hK hP hD hS 1 0 rfl rfl (inL (by decide)) (by decide) dX0_moveToFront_45 rfl (fun H locs hP hD hS => ?_)
    refine lv_aload_n hx hb dX0_moveToFront_46 rfl (lv_at hl 4 rfl) ?_
    refine va_get (D := D) (ci := 0) (v := .ref (b2)) hx hb hG inX0 hown hK hP 0 rfl rfl 1 (by decide) (hG _ kw26) (fun _ h9 => h9) rfl dX0_moveToFront_47 ?_
    refine lv_iload hx hb dX0_moveToFront_50 (lv_at hl 0 rfl) ?_
    refine lv_aload_n hx hb dX0_moveToFront_52 rfl (lv_at hl 4 rfl) ?_
    refine va_get (D := D) (ci := 0) (v := .ref (b2)) hx hb hG inX0 hown hK hP 0 rfl rfl 1 (by decide) (hG _ kw26) (fun _ h9 => h9) rfl dX0_moveToFront_53 ?_
    refine lv_iload hx hb dX0_moveToFront_56 (lv_at hl 0 rfl) ?_
    refine lv_iconst (v := 1) hx hb dX0_moveToFront_58 (by decide) ?_
    refine lv_isub hx hb dX0_moveToFront_59 ?_
    refine tI (y := 1) (by decide) ?_
    refine gl (D := D) (j := 1) (f := x.2.1) hx hb hK hP 2 1 rfl rfl (inL (by decide)) (by decide) dX0_moveToFront_60 ?_
    refine sl (D := D) (j := 2) (f := x.2.1) (x := (x.2.1 1)) (W' := (wC cI cJ b0 b1 b2 b3 ((upd x.1 2 (x.1 1)), (vp_updL x.2.1 2 (x.2.1 1)), x.2.2.1, x.2.2.2))) hx hb hK hP hD hS 2 1 rfl rfl (inL (by decide)) (by decide) dX0_moveToFront_61 rfl (fun H locs hP hD hS => ?_)
    refine lv_aload_n hx hb dX0_moveToFront_62 rfl (lv_at hl 4 rfl) ?_
    refine va_get (D := D) (ci := 0) (v := .ref (b3)) hx hb hG inX0 hown hK hP 0 rfl rfl 2 (by decide) (hG _ kw27) (fun _ h9 => h9) rfl dX0_moveToFront_63 ?_
    refine lv_iload hx hb dX0_moveToFront_66 (lv_at hl 0 rfl) ?_
    refine lv_aload_n hx hb dX0_moveToFront_68 rfl (lv_at hl 4 rfl) ?_
    refine va_get (D := D) (ci := 0) (v := .ref (b3)) hx hb hG inX0 hown hK hP 0 rfl rfl 2 (by decide) (hG _ kw27) (fun _ h9 => h9) rfl dX0_moveToFront_69 ?_
    refine lv_iload hx hb dX0_moveToFront_72 (lv_at hl 0 rfl) ?_
    refine lv_iconst (v := 1) hx hb dX0_moveToFront_74 (by decide) ?_
    refine lv_isub hx hb dX0_moveToFront_75 ?_
    refine tI (y := 1) (by decide) ?_
    refine gl (D := D) (j := 1) (f := x.2.2.1) hx hb hK hP 3 1 rfl rfl (inL (by decide)) (by decide) dX0_moveToFront_76 ?_
    refine sl (D := D) (j := 2) (f := x.2.2.1) (x := (x.2.2.1 1)) (W' := (wC cI cJ b0 b1 b2 b3 ((upd x.1 2 (x.1 1)), (vp_updL x.2.1 2 (x.2.1 1)), (vp_updL x.2.2.1 2 (x.2.2.1 1)), x.2.2.2))) hx hb hK hP hD hS 3 1 rfl rfl (inL (by decide)) (by decide) dX0_moveToFront_77 rfl (fun H locs hP hD hS => ?_)
    refine lv_iinc (k := 0) (v := (1 : Int32)) (lv' := [(7, .int ((1 : Int32))), (5, .long ((x.2.2.1 2))), (3, .long ((x.2.1 2))), (2, .int ((x.1 2))), (0, .ref (b0)), (1, .int ((2 : Int32)))]) hx hb dX0_moveToFront_78 hl rfl (by decide) (by decide) rfl (fun ls hl => ?_)
    refine lv_goto (tgt := 25) hx hb dX0_moveToFront_81 (by decide) ?_
    refine lv_iload hx hb dX0_moveToFront_25 (lv_at hl 0 rfl) ?_
    refine lv_if_le (tgt := 84) hx hb dX0_moveToFront_27 (by decide) (fun h9 => absurd h9 (by decide)) (fun _ => ?_)
    refine lv_aload_n hx hb dX0_moveToFront_30 rfl (lv_at hl 4 rfl) ?_
    refine va_get (D := D) (ci := 0) (v := .ref (b1)) hx hb hG inX0 hown hK hP 0 rfl rfl 0 (by decide) (hG _ kw25) (fun _ h9 => h9) rfl dX0_moveToFront_31 ?_
    refine lv_iload hx hb dX0_moveToFront_34 (lv_at hl 0 rfl) ?_
    refine lv_aload_n hx hb dX0_moveToFront_36 rfl (lv_at hl 4 rfl) ?_
    refine va_get (D := D) (ci := 0) (v := .ref (b1)) hx hb hG inX0 hown hK hP 0 rfl rfl 0 (by decide) (hG _ kw25) (fun _ h9 => h9) rfl dX0_moveToFront_37 ?_
    refine lv_iload hx hb dX0_moveToFront_40 (lv_at hl 0 rfl) ?_
    refine lv_iconst (v := 1) hx hb dX0_moveToFront_42 (by decide) ?_
    refine lv_isub hx hb dX0_moveToFront_43 ?_
    refine tI (y := 0) (by decide) ?_
    refine gi (D := D) (j := 0) (f := (upd x.1 2 (x.1 1))) hx hb hK hP 1 0 rfl rfl (inL (by decide)) (by decide) dX0_moveToFront_44 ?_
    refine si (D := D) (j := 1) (f := (upd x.1 2 (x.1 1))) (x := ((upd x.1 2 (x.1 1)) 0)) (W' := (wC cI cJ b0 b1 b2 b3 ((upd (upd x.1 2 (x.1 1)) 1 ((upd x.1 2 (x.1 1)) 0)), (vp_updL x.2.1 2 (x.2.1 1)), (vp_updL x.2.2.1 2 (x.2.2.1 1)), x.2.2.2))) hx hb hK hP hD hS 1 0 rfl rfl (inL (by decide)) (by decide) dX0_moveToFront_45 rfl (fun H locs hP hD hS => ?_)
    refine lv_aload_n hx hb dX0_moveToFront_46 rfl (lv_at hl 4 rfl) ?_
    refine va_get (D := D) (ci := 0) (v := .ref (b2)) hx hb hG inX0 hown hK hP 0 rfl rfl 1 (by decide) (hG _ kw26) (fun _ h9 => h9) rfl dX0_moveToFront_47 ?_
    refine lv_iload hx hb dX0_moveToFront_50 (lv_at hl 0 rfl) ?_
    refine lv_aload_n hx hb dX0_moveToFront_52 rfl (lv_at hl 4 rfl) ?_
    refine va_get (D := D) (ci := 0) (v := .ref (b2)) hx hb hG inX0 hown hK hP 0 rfl rfl 1 (by decide) (hG _ kw26) (fun _ h9 => h9) rfl dX0_moveToFront_53 ?_
    refine lv_iload hx hb dX0_moveToFront_56 (lv_at hl 0 rfl) ?_
    refine lv_iconst (v := 1) hx hb dX0_moveToFront_58 (by decide) ?_
    refine lv_isub hx hb dX0_moveToFront_59 ?_
    refine tI (y := 0) (by decide) ?_
    refine gl (D := D) (j := 0) (f := (vp_updL x.2.1 2 (x.2.1 1))) hx hb hK hP 2 1 rfl rfl (inL (by decide)) (by decide) dX0_moveToFront_60 ?_
    refine sl (D := D) (j := 1) (f := (vp_updL x.2.1 2 (x.2.1 1))) (x := ((vp_updL x.2.1 2 (x.2.1 1)) 0)) (W' := (wC cI cJ b0 b1 b2 b3 ((upd (upd x.1 2 (x.1 1)) 1 ((upd x.1 2 (x.1 1)) 0)), (vp_updL (vp_updL x.2.1 2 (x.2.1 1)) 1 ((vp_updL x.2.1 2 (x.2.1 1)) 0)), (vp_updL x.2.2.1 2 (x.2.2.1 1)), x.2.2.2))) hx hb hK hP hD hS 2 1 rfl rfl (inL (by decide)) (by decide) dX0_moveToFront_61 rfl (fun H locs hP hD hS => ?_)
    refine lv_aload_n hx hb dX0_moveToFront_62 rfl (lv_at hl 4 rfl) ?_
    refine va_get (D := D) (ci := 0) (v := .ref (b3)) hx hb hG inX0 hown hK hP 0 rfl rfl 2 (by decide) (hG _ kw27) (fun _ h9 => h9) rfl dX0_moveToFront_63 ?_
    refine lv_iload hx hb dX0_moveToFront_66 (lv_at hl 0 rfl) ?_
    refine lv_aload_n hx hb dX0_moveToFront_68 rfl (lv_at hl 4 rfl) ?_
    refine va_get (D := D) (ci := 0) (v := .ref (b3)) hx hb hG inX0 hown hK hP 0 rfl rfl 2 (by decide) (hG _ kw27) (fun _ h9 => h9) rfl dX0_moveToFront_69 ?_
    refine lv_iload hx hb dX0_moveToFront_72 (lv_at hl 0 rfl) ?_
    refine lv_iconst (v := 1) hx hb dX0_moveToFront_74 (by decide) ?_
    refine lv_isub hx hb dX0_moveToFront_75 ?_
    refine tI (y := 0) (by decide) ?_
    refine gl (D := D) (j := 0) (f := (vp_updL x.2.2.1 2 (x.2.2.1 1))) hx hb hK hP 3 1 rfl rfl (inL (by decide)) (by decide) dX0_moveToFront_76 ?_
    refine sl (D := D) (j := 1) (f := (vp_updL x.2.2.1 2 (x.2.2.1 1))) (x := ((vp_updL x.2.2.1 2 (x.2.2.1 1)) 0)) (W' := (wC cI cJ b0 b1 b2 b3 ((upd (upd x.1 2 (x.1 1)) 1 ((upd x.1 2 (x.1 1)) 0)), (vp_updL (vp_updL x.2.1 2 (x.2.1 1)) 1 ((vp_updL x.2.1 2 (x.2.1 1)) 0)), (vp_updL (vp_updL x.2.2.1 2 (x.2.2.1 1)) 1 ((vp_updL x.2.2.1 2 (x.2.2.1 1)) 0)), x.2.2.2))) hx hb hK hP hD hS 3 1 rfl rfl (inL (by decide)) (by decide) dX0_moveToFront_77 rfl (fun H locs hP hD hS => ?_)
    refine lv_iinc (k := 0) (v := (0 : Int32)) (lv' := [(7, .int ((0 : Int32))), (5, .long ((x.2.2.1 2))), (3, .long ((x.2.1 2))), (2, .int ((x.1 2))), (0, .ref (b0)), (1, .int ((2 : Int32)))]) hx hb dX0_moveToFront_78 hl rfl (by decide) (by decide) rfl (fun ls hl => ?_)
    refine lv_goto (tgt := 25) hx hb dX0_moveToFront_81 (by decide) ?_
    refine lv_iload hx hb dX0_moveToFront_25 (lv_at hl 0 rfl) ?_
    refine lv_if_le (tgt := 84) hx hb dX0_moveToFront_27 (by decide) (fun _ => ?_) (fun h9 => absurd (by decide) h9)
    refine lv_aload_n hx hb dX0_moveToFront_84 rfl (lv_at hl 4 rfl) ?_
    refine va_get (D := D) (ci := 0) (v := .ref (b1)) hx hb hG inX0 hown hK hP 0 rfl rfl 0 (by decide) (hG _ kw25) (fun _ h9 => h9) rfl dX0_moveToFront_85 ?_
    refine lv_iconst (v := 0) hx hb dX0_moveToFront_88 (by decide) ?_
    refine lv_iload_n hx hb dX0_moveToFront_89 rfl (lv_at hl 3 rfl) ?_
    refine si (D := D) (j := 0) (f := (upd (upd x.1 2 (x.1 1)) 1 ((upd x.1 2 (x.1 1)) 0))) (x := (x.1 2)) (W' := (wC cI cJ b0 b1 b2 b3 ((upd (upd (upd x.1 2 (x.1 1)) 1 ((upd x.1 2 (x.1 1)) 0)) 0 (x.1 2)), (vp_updL (vp_updL x.2.1 2 (x.2.1 1)) 1 ((vp_updL x.2.1 2 (x.2.1 1)) 0)), (vp_updL (vp_updL x.2.2.1 2 (x.2.2.1 1)) 1 ((vp_updL x.2.2.1 2 (x.2.2.1 1)) 0)), x.2.2.2))) hx hb hK hP hD hS 1 0 rfl rfl (inL (by decide)) (by decide) dX0_moveToFront_90 rfl (fun H locs hP hD hS => ?_)
    refine lv_aload_n hx hb dX0_moveToFront_91 rfl (lv_at hl 4 rfl) ?_
    refine va_get (D := D) (ci := 0) (v := .ref (b2)) hx hb hG inX0 hown hK hP 0 rfl rfl 1 (by decide) (hG _ kw26) (fun _ h9 => h9) rfl dX0_moveToFront_92 ?_
    refine lv_iconst (v := 0) hx hb dX0_moveToFront_95 (by decide) ?_
    refine lv_lload_n hx hb dX0_moveToFront_96 rfl (lv_at hl 2 rfl) ?_
    refine sl (D := D) (j := 0) (f := (vp_updL (vp_updL x.2.1 2 (x.2.1 1)) 1 ((vp_updL x.2.1 2 (x.2.1 1)) 0))) (x := (x.2.1 2)) (W' := (wC cI cJ b0 b1 b2 b3 ((upd (upd (upd x.1 2 (x.1 1)) 1 ((upd x.1 2 (x.1 1)) 0)) 0 (x.1 2)), (vp_updL (vp_updL (vp_updL x.2.1 2 (x.2.1 1)) 1 ((vp_updL x.2.1 2 (x.2.1 1)) 0)) 0 (x.2.1 2)), (vp_updL (vp_updL x.2.2.1 2 (x.2.2.1 1)) 1 ((vp_updL x.2.2.1 2 (x.2.2.1 1)) 0)), x.2.2.2))) hx hb hK hP hD hS 2 1 rfl rfl (inL (by decide)) (by decide) dX0_moveToFront_97 rfl (fun H locs hP hD hS => ?_)
    refine lv_aload_n hx hb dX0_moveToFront_98 rfl (lv_at hl 4 rfl) ?_
    refine va_get (D := D) (ci := 0) (v := .ref (b3)) hx hb hG inX0 hown hK hP 0 rfl rfl 2 (by decide) (hG _ kw27) (fun _ h9 => h9) rfl dX0_moveToFront_99 ?_
    refine lv_iconst (v := 0) hx hb dX0_moveToFront_102 (by decide) ?_
    refine lv_lload hx hb dX0_moveToFront_103 (lv_at hl 1 rfl) ?_
    refine sl (D := D) (j := 0) (f := (vp_updL (vp_updL x.2.2.1 2 (x.2.2.1 1)) 1 ((vp_updL x.2.2.1 2 (x.2.2.1 1)) 0))) (x := (x.2.2.1 2)) (W' := (wC cI cJ b0 b1 b2 b3 ((upd (upd (upd x.1 2 (x.1 1)) 1 ((upd x.1 2 (x.1 1)) 0)) 0 (x.1 2)), (vp_updL (vp_updL (vp_updL x.2.1 2 (x.2.1 1)) 1 ((vp_updL x.2.1 2 (x.2.1 1)) 0)) 0 (x.2.1 2)), (vp_updL (vp_updL (vp_updL x.2.2.1 2 (x.2.2.1 1)) 1 ((vp_updL x.2.2.1 2 (x.2.2.1 1)) 0)) 0 (x.2.2.1 2)), x.2.2.2))) hx hb hK hP hD hS 3 1 rfl rfl (inL (by decide)) (by decide) dX0_moveToFront_105 rfl (fun H locs hP hD hS => ?_)
    exact retv (u := ((upd (upd (upd x.1 2 (x.1 1)) 1 ((upd x.1 2 (x.1 1)) 0)) 0 (x.1 2)), (vp_updL (vp_updL (vp_updL x.2.1 2 (x.2.1 1)) 1 ((vp_updL x.2.1 2 (x.2.1 1)) 0)) 0 (x.2.1 2)), (vp_updL (vp_updL (vp_updL x.2.2.1 2 (x.2.2.1 1)) 1 ((vp_updL x.2.2.1 2 (x.2.2.1 1)) 0)) 0 (x.2.2.1 2)), x.2.2.2)) hx hb hr hlocks hK hP hD hS dX0_moveToFront_106 (by unfold fnX0_moveToFront; (try dsimp only); rw [if_neg h1]; rw [if_neg h2]; rw [if_pos (rfl : (2 : Int32) = (2 : Int32))]; (try exact rfl))
  have h4 : a0 = (3 : Int32) := c4l g0 h1 h2 h3
  subst h4
  refine lv_aload_n hx hb dX0_moveToFront_0 rfl (lv_at hl 0 rfl) ?_
  refine va_get (D := D) (ci := 0) (v := .ref (b1)) hx hb hG inX0 hown hK hP 0 rfl rfl 0 (by decide) (hG _ kw25) (fun _ h9 => h9) rfl dX0_moveToFront_1 ?_
  refine lv_iload_n hx hb dX0_moveToFront_4 rfl (lv_at hl 1 rfl) ?_
  refine gi (D := D) (j := 3) (f := x.1) hx hb hK hP 1 0 rfl rfl (inL (by decide)) (by decide) dX0_moveToFront_5 ?_
  refine lv_istore_n (lv' := [(2, .int ((x.1 3))), (0, .ref (b0)), (1, .int ((3 : Int32)))]) hx hb dX0_moveToFront_6 rfl hl (by decide) rfl (fun ls hl => ?_)
  refine lv_aload_n hx hb dX0_moveToFront_7 rfl (lv_at hl 1 rfl) ?_
  refine va_get (D := D) (ci := 0) (v := .ref (b2)) hx hb hG inX0 hown hK hP 0 rfl rfl 1 (by decide) (hG _ kw26) (fun _ h9 => h9) rfl dX0_moveToFront_8 ?_
  refine lv_iload_n hx hb dX0_moveToFront_11 rfl (lv_at hl 2 rfl) ?_
  refine gl (D := D) (j := 3) (f := x.2.1) hx hb hK hP 2 1 rfl rfl (inL (by decide)) (by decide) dX0_moveToFront_12 ?_
  refine lv_lstore_n (lv' := [(3, .long ((x.2.1 3))), (2, .int ((x.1 3))), (0, .ref (b0)), (1, .int ((3 : Int32)))]) hx hb dX0_moveToFront_13 rfl hl (by decide) rfl (fun ls hl => ?_)
  refine lv_aload_n hx hb dX0_moveToFront_14 rfl (lv_at hl 2 rfl) ?_
  refine va_get (D := D) (ci := 0) (v := .ref (b3)) hx hb hG inX0 hown hK hP 0 rfl rfl 2 (by decide) (hG _ kw27) (fun _ h9 => h9) rfl dX0_moveToFront_15 ?_
  refine lv_iload_n hx hb dX0_moveToFront_18 rfl (lv_at hl 3 rfl) ?_
  refine gl (D := D) (j := 3) (f := x.2.2.1) hx hb hK hP 3 1 rfl rfl (inL (by decide)) (by decide) dX0_moveToFront_19 ?_
  refine lv_lstore (lv' := [(5, .long ((x.2.2.1 3))), (3, .long ((x.2.1 3))), (2, .int ((x.1 3))), (0, .ref (b0)), (1, .int ((3 : Int32)))]) hx hb dX0_moveToFront_20 hl (by decide) rfl (fun ls hl => ?_)
  refine lv_iload_n hx hb dX0_moveToFront_22 rfl (lv_at hl 4 rfl) ?_
  refine lv_istore (lv' := [(7, .int ((3 : Int32))), (5, .long ((x.2.2.1 3))), (3, .long ((x.2.1 3))), (2, .int ((x.1 3))), (0, .ref (b0)), (1, .int ((3 : Int32)))]) hx hb dX0_moveToFront_23 hl (by decide) rfl (fun ls hl => ?_)
  refine lv_iload hx hb dX0_moveToFront_25 (lv_at hl 0 rfl) ?_
  refine lv_if_le (tgt := 84) hx hb dX0_moveToFront_27 (by decide) (fun h9 => absurd h9 (by decide)) (fun _ => ?_)
  refine lv_aload_n hx hb dX0_moveToFront_30 rfl (lv_at hl 4 rfl) ?_
  refine va_get (D := D) (ci := 0) (v := .ref (b1)) hx hb hG inX0 hown hK hP 0 rfl rfl 0 (by decide) (hG _ kw25) (fun _ h9 => h9) rfl dX0_moveToFront_31 ?_
  refine lv_iload hx hb dX0_moveToFront_34 (lv_at hl 0 rfl) ?_
  refine lv_aload_n hx hb dX0_moveToFront_36 rfl (lv_at hl 4 rfl) ?_
  refine va_get (D := D) (ci := 0) (v := .ref (b1)) hx hb hG inX0 hown hK hP 0 rfl rfl 0 (by decide) (hG _ kw25) (fun _ h9 => h9) rfl dX0_moveToFront_37 ?_
  refine lv_iload hx hb dX0_moveToFront_40 (lv_at hl 0 rfl) ?_
  refine lv_iconst (v := 1) hx hb dX0_moveToFront_42 (by decide) ?_
  refine lv_isub hx hb dX0_moveToFront_43 ?_
  refine tI (y := 2) (by decide) ?_
  refine gi (D := D) (j := 2) (f := x.1) hx hb hK hP 1 0 rfl rfl (inL (by decide)) (by decide) dX0_moveToFront_44 ?_
  refine si (D := D) (j := 3) (f := x.1) (x := (x.1 2)) (W' := (wC cI cJ b0 b1 b2 b3 ((upd x.1 3 (x.1 2)), x.2.1, x.2.2.1, x.2.2.2))) hx hb hK hP hD hS 1 0 rfl rfl (inL (by decide)) (by decide) dX0_moveToFront_45 rfl (fun H locs hP hD hS => ?_)
  refine lv_aload_n hx hb dX0_moveToFront_46 rfl (lv_at hl 4 rfl) ?_
  refine va_get (D := D) (ci := 0) (v := .ref (b2)) hx hb hG inX0 hown hK hP 0 rfl rfl 1 (by decide) (hG _ kw26) (fun _ h9 => h9) rfl dX0_moveToFront_47 ?_
  refine lv_iload hx hb dX0_moveToFront_50 (lv_at hl 0 rfl) ?_
  refine lv_aload_n hx hb dX0_moveToFront_52 rfl (lv_at hl 4 rfl) ?_
  refine va_get (D := D) (ci := 0) (v := .ref (b2)) hx hb hG inX0 hown hK hP 0 rfl rfl 1 (by decide) (hG _ kw26) (fun _ h9 => h9) rfl dX0_moveToFront_53 ?_
  refine lv_iload hx hb dX0_moveToFront_56 (lv_at hl 0 rfl) ?_
  refine lv_iconst (v := 1) hx hb dX0_moveToFront_58 (by decide) ?_
  refine lv_isub hx hb dX0_moveToFront_59 ?_
  refine tI (y := 2) (by decide) ?_
  refine gl (D := D) (j := 2) (f := x.2.1) hx hb hK hP 2 1 rfl rfl (inL (by decide)) (by decide) dX0_moveToFront_60 ?_
  refine sl (D := D) (j := 3) (f := x.2.1) (x := (x.2.1 2)) (W' := (wC cI cJ b0 b1 b2 b3 ((upd x.1 3 (x.1 2)), (vp_updL x.2.1 3 (x.2.1 2)), x.2.2.1, x.2.2.2))) hx hb hK hP hD hS 2 1 rfl rfl (inL (by decide)) (by decide) dX0_moveToFront_61 rfl (fun H locs hP hD hS => ?_)
  refine lv_aload_n hx hb dX0_moveToFront_62 rfl (lv_at hl 4 rfl) ?_
  refine va_get (D := D) (ci := 0) (v := .ref (b3)) hx hb hG inX0 hown hK hP 0 rfl rfl 2 (by decide) (hG _ kw27) (fun _ h9 => h9) rfl dX0_moveToFront_63 ?_
  refine lv_iload hx hb dX0_moveToFront_66 (lv_at hl 0 rfl) ?_
  refine lv_aload_n hx hb dX0_moveToFront_68 rfl (lv_at hl 4 rfl) ?_
  refine va_get (D := D) (ci := 0) (v := .ref (b3)) hx hb hG inX0 hown hK hP 0 rfl rfl 2 (by decide) (hG _ kw27) (fun _ h9 => h9) rfl dX0_moveToFront_69 ?_
  refine lv_iload hx hb dX0_moveToFront_72 (lv_at hl 0 rfl) ?_
  refine lv_iconst (v := 1) hx hb dX0_moveToFront_74 (by decide) ?_
  refine lv_isub hx hb dX0_moveToFront_75 ?_
  refine tI (y := 2) (by decide) ?_
  refine gl (D := D) (j := 2) (f := x.2.2.1) hx hb hK hP 3 1 rfl rfl (inL (by decide)) (by decide) dX0_moveToFront_76 ?_
  refine sl (D := D) (j := 3) (f := x.2.2.1) (x := (x.2.2.1 2)) (W' := (wC cI cJ b0 b1 b2 b3 ((upd x.1 3 (x.1 2)), (vp_updL x.2.1 3 (x.2.1 2)), (vp_updL x.2.2.1 3 (x.2.2.1 2)), x.2.2.2))) hx hb hK hP hD hS 3 1 rfl rfl (inL (by decide)) (by decide) dX0_moveToFront_77 rfl (fun H locs hP hD hS => ?_)
  refine lv_iinc (k := 0) (v := (2 : Int32)) (lv' := [(7, .int ((2 : Int32))), (5, .long ((x.2.2.1 3))), (3, .long ((x.2.1 3))), (2, .int ((x.1 3))), (0, .ref (b0)), (1, .int ((3 : Int32)))]) hx hb dX0_moveToFront_78 hl rfl (by decide) (by decide) rfl (fun ls hl => ?_)
  refine lv_goto (tgt := 25) hx hb dX0_moveToFront_81 (by decide) ?_
  refine lv_iload hx hb dX0_moveToFront_25 (lv_at hl 0 rfl) ?_
  refine lv_if_le (tgt := 84) hx hb dX0_moveToFront_27 (by decide) (fun h9 => absurd h9 (by decide)) (fun _ => ?_)
  refine lv_aload_n hx hb dX0_moveToFront_30 rfl (lv_at hl 4 rfl) ?_
  refine va_get (D := D) (ci := 0) (v := .ref (b1)) hx hb hG inX0 hown hK hP 0 rfl rfl 0 (by decide) (hG _ kw25) (fun _ h9 => h9) rfl dX0_moveToFront_31 ?_
  refine lv_iload hx hb dX0_moveToFront_34 (lv_at hl 0 rfl) ?_
  refine lv_aload_n hx hb dX0_moveToFront_36 rfl (lv_at hl 4 rfl) ?_
  refine va_get (D := D) (ci := 0) (v := .ref (b1)) hx hb hG inX0 hown hK hP 0 rfl rfl 0 (by decide) (hG _ kw25) (fun _ h9 => h9) rfl dX0_moveToFront_37 ?_
  refine lv_iload hx hb dX0_moveToFront_40 (lv_at hl 0 rfl) ?_
  refine lv_iconst (v := 1) hx hb dX0_moveToFront_42 (by decide) ?_
  refine lv_isub hx hb dX0_moveToFront_43 ?_
  refine tI (y := 1) (by decide) ?_
  refine gi (D := D) (j := 1) (f := (upd x.1 3 (x.1 2))) hx hb hK hP 1 0 rfl rfl (inL (by decide)) (by decide) dX0_moveToFront_44 ?_
  refine si (D := D) (j := 2) (f := (upd x.1 3 (x.1 2))) (x := ((upd x.1 3 (x.1 2)) 1)) (W' := (wC cI cJ b0 b1 b2 b3 ((upd (upd x.1 3 (x.1 2)) 2 ((upd x.1 3 (x.1 2)) 1)), (vp_updL x.2.1 3 (x.2.1 2)), (vp_updL x.2.2.1 3 (x.2.2.1 2)), x.2.2.2))) hx hb hK hP hD hS 1 0 rfl rfl (inL (by decide)) (by decide) dX0_moveToFront_45 rfl (fun H locs hP hD hS => ?_)
  refine lv_aload_n hx hb dX0_moveToFront_46 rfl (lv_at hl 4 rfl) ?_
  refine va_get (D := D) (ci := 0) (v := .ref (b2)) hx hb hG inX0 hown hK hP 0 rfl rfl 1 (by decide) (hG _ kw26) (fun _ h9 => h9) rfl dX0_moveToFront_47 ?_
  refine lv_iload hx hb dX0_moveToFront_50 (lv_at hl 0 rfl) ?_
  refine lv_aload_n hx hb dX0_moveToFront_52 rfl (lv_at hl 4 rfl) ?_
  refine va_get (D := D) (ci := 0) (v := .ref (b2)) hx hb hG inX0 hown hK hP 0 rfl rfl 1 (by decide) (hG _ kw26) (fun _ h9 => h9) rfl dX0_moveToFront_53 ?_
  refine lv_iload hx hb dX0_moveToFront_56 (lv_at hl 0 rfl) ?_
  refine lv_iconst (v := 1) hx hb dX0_moveToFront_58 (by decide) ?_
  refine lv_isub hx hb dX0_moveToFront_59 ?_
  refine tI (y := 1) (by decide) ?_
  refine gl (D := D) (j := 1) (f := (vp_updL x.2.1 3 (x.2.1 2))) hx hb hK hP 2 1 rfl rfl (inL (by decide)) (by decide) dX0_moveToFront_60 ?_
  refine sl (D := D) (j := 2) (f := (vp_updL x.2.1 3 (x.2.1 2))) (x := ((vp_updL x.2.1 3 (x.2.1 2)) 1)) (W' := (wC cI cJ b0 b1 b2 b3 ((upd (upd x.1 3 (x.1 2)) 2 ((upd x.1 3 (x.1 2)) 1)), (vp_updL (vp_updL x.2.1 3 (x.2.1 2)) 2 ((vp_updL x.2.1 3 (x.2.1 2)) 1)), (vp_updL x.2.2.1 3 (x.2.2.1 2)), x.2.2.2))) hx hb hK hP hD hS 2 1 rfl rfl (inL (by decide)) (by decide) dX0_moveToFront_61 rfl (fun H locs hP hD hS => ?_)
  refine lv_aload_n hx hb dX0_moveToFront_62 rfl (lv_at hl 4 rfl) ?_
  refine va_get (D := D) (ci := 0) (v := .ref (b3)) hx hb hG inX0 hown hK hP 0 rfl rfl 2 (by decide) (hG _ kw27) (fun _ h9 => h9) rfl dX0_moveToFront_63 ?_
  refine lv_iload hx hb dX0_moveToFront_66 (lv_at hl 0 rfl) ?_
  refine lv_aload_n hx hb dX0_moveToFront_68 rfl (lv_at hl 4 rfl) ?_
  refine va_get (D := D) (ci := 0) (v := .ref (b3)) hx hb hG inX0 hown hK hP 0 rfl rfl 2 (by decide) (hG _ kw27) (fun _ h9 => h9) rfl dX0_moveToFront_69 ?_
  refine lv_iload hx hb dX0_moveToFront_72 (lv_at hl 0 rfl) ?_
  refine lv_iconst (v := 1) hx hb dX0_moveToFront_74 (by decide) ?_
  refine lv_isub hx hb dX0_moveToFront_75 ?_
  refine tI (y := 1) (by decide) ?_
  refine gl (D := D) (j := 1) (f := (vp_updL x.2.2.1 3 (x.2.2.1 2))) hx hb hK hP 3 1 rfl rfl (inL (by decide)) (by decide) dX0_moveToFront_76 ?_
  refine sl (D := D) (j := 2) (f := (vp_updL x.2.2.1 3 (x.2.2.1 2))) (x := ((vp_updL x.2.2.1 3 (x.2.2.1 2)) 1)) (W' := (wC cI cJ b0 b1 b2 b3 ((upd (upd x.1 3 (x.1 2)) 2 ((upd x.1 3 (x.1 2)) 1)), (vp_updL (vp_updL x.2.1 3 (x.2.1 2)) 2 ((vp_updL x.2.1 3 (x.2.1 2)) 1)), (vp_updL (vp_updL x.2.2.1 3 (x.2.2.1 2)) 2 ((vp_updL x.2.2.1 3 (x.2.2.1 2)) 1)), x.2.2.2))) hx hb hK hP hD hS 3 1 rfl rfl (inL (by decide)) (by decide) dX0_moveToFront_77 rfl (fun H locs hP hD hS => ?_)
  refine lv_iinc (k := 0) (v := (1 : Int32)) (lv' := [(7, .int ((1 : Int32))), (5, .long ((x.2.2.1 3))), (3, .long ((x.2.1 3))), (2, .int ((x.1 3))), (0, .ref (b0)), (1, .int ((3 : Int32)))]) hx hb dX0_moveToFront_78 hl rfl (by decide) (by decide) rfl (fun ls hl => ?_)
  refine lv_goto (tgt := 25) hx hb dX0_moveToFront_81 (by decide) ?_
  refine lv_iload hx hb dX0_moveToFront_25 (lv_at hl 0 rfl) ?_
  refine lv_if_le (tgt := 84) hx hb dX0_moveToFront_27 (by decide) (fun h9 => absurd h9 (by decide)) (fun _ => ?_)
  refine lv_aload_n hx hb dX0_moveToFront_30 rfl (lv_at hl 4 rfl) ?_
  refine va_get (D := D) (ci := 0) (v := .ref (b1)) hx hb hG inX0 hown hK hP 0 rfl rfl 0 (by decide) (hG _ kw25) (fun _ h9 => h9) rfl dX0_moveToFront_31 ?_
  refine lv_iload hx hb dX0_moveToFront_34 (lv_at hl 0 rfl) ?_
  refine lv_aload_n hx hb dX0_moveToFront_36 rfl (lv_at hl 4 rfl) ?_
  refine va_get (D := D) (ci := 0) (v := .ref (b1)) hx hb hG inX0 hown hK hP 0 rfl rfl 0 (by decide) (hG _ kw25) (fun _ h9 => h9) rfl dX0_moveToFront_37 ?_
  refine lv_iload hx hb dX0_moveToFront_40 (lv_at hl 0 rfl) ?_
  refine lv_iconst (v := 1) hx hb dX0_moveToFront_42 (by decide) ?_
  refine lv_isub hx hb dX0_moveToFront_43 ?_
  refine tI (y := 0) (by decide) ?_
  refine gi (D := D) (j := 0) (f := (upd (upd x.1 3 (x.1 2)) 2 ((upd x.1 3 (x.1 2)) 1))) hx hb hK hP 1 0 rfl rfl (inL (by decide)) (by decide) dX0_moveToFront_44 ?_
  refine si (D := D) (j := 1) (f := (upd (upd x.1 3 (x.1 2)) 2 ((upd x.1 3 (x.1 2)) 1))) (x := ((upd (upd x.1 3 (x.1 2)) 2 ((upd x.1 3 (x.1 2)) 1)) 0)) (W' := (wC cI cJ b0 b1 b2 b3 ((upd (upd (upd x.1 3 (x.1 2)) 2 ((upd x.1 3 (x.1 2)) 1)) 1 ((upd (upd x.1 3 (x.1 2)) 2 ((upd x.1 3 (x.1 2)) 1)) 0)), (vp_updL (vp_updL x.2.1 3 (x.2.1 2)) 2 ((vp_updL x.2.1 3 (x.2.1 2)) 1)), (vp_updL (vp_updL x.2.2.1 3 (x.2.2.1 2)) 2 ((vp_updL x.2.2.1 3 (x.2.2.1 2)) 1)), x.2.2.2))) hx hb hK hP hD hS 1 0 rfl rfl (inL (by decide)) (by decide) dX0_moveToFront_45 rfl (fun H locs hP hD hS => ?_)
  refine lv_aload_n hx hb dX0_moveToFront_46 rfl (lv_at hl 4 rfl) ?_
  refine va_get (D := D) (ci := 0) (v := .ref (b2)) hx hb hG inX0 hown hK hP 0 rfl rfl 1 (by decide) (hG _ kw26) (fun _ h9 => h9) rfl dX0_moveToFront_47 ?_
  refine lv_iload hx hb dX0_moveToFront_50 (lv_at hl 0 rfl) ?_
  refine lv_aload_n hx hb dX0_moveToFront_52 rfl (lv_at hl 4 rfl) ?_
  refine va_get (D := D) (ci := 0) (v := .ref (b2)) hx hb hG inX0 hown hK hP 0 rfl rfl 1 (by decide) (hG _ kw26) (fun _ h9 => h9) rfl dX0_moveToFront_53 ?_
  refine lv_iload hx hb dX0_moveToFront_56 (lv_at hl 0 rfl) ?_
  refine lv_iconst (v := 1) hx hb dX0_moveToFront_58 (by decide) ?_
  refine lv_isub hx hb dX0_moveToFront_59 ?_
  refine tI (y := 0) (by decide) ?_
  refine gl (D := D) (j := 0) (f := (vp_updL (vp_updL x.2.1 3 (x.2.1 2)) 2 ((vp_updL x.2.1 3 (x.2.1 2)) 1))) hx hb hK hP 2 1 rfl rfl (inL (by decide)) (by decide) dX0_moveToFront_60 ?_
  refine sl (D := D) (j := 1) (f := (vp_updL (vp_updL x.2.1 3 (x.2.1 2)) 2 ((vp_updL x.2.1 3 (x.2.1 2)) 1))) (x := ((vp_updL (vp_updL x.2.1 3 (x.2.1 2)) 2 ((vp_updL x.2.1 3 (x.2.1 2)) 1)) 0)) (W' := (wC cI cJ b0 b1 b2 b3 ((upd (upd (upd x.1 3 (x.1 2)) 2 ((upd x.1 3 (x.1 2)) 1)) 1 ((upd (upd x.1 3 (x.1 2)) 2 ((upd x.1 3 (x.1 2)) 1)) 0)), (vp_updL (vp_updL (vp_updL x.2.1 3 (x.2.1 2)) 2 ((vp_updL x.2.1 3 (x.2.1 2)) 1)) 1 ((vp_updL (vp_updL x.2.1 3 (x.2.1 2)) 2 ((vp_updL x.2.1 3 (x.2.1 2)) 1)) 0)), (vp_updL (vp_updL x.2.2.1 3 (x.2.2.1 2)) 2 ((vp_updL x.2.2.1 3 (x.2.2.1 2)) 1)), x.2.2.2))) hx hb hK hP hD hS 2 1 rfl rfl (inL (by decide)) (by decide) dX0_moveToFront_61 rfl (fun H locs hP hD hS => ?_)
  refine lv_aload_n hx hb dX0_moveToFront_62 rfl (lv_at hl 4 rfl) ?_
  refine va_get (D := D) (ci := 0) (v := .ref (b3)) hx hb hG inX0 hown hK hP 0 rfl rfl 2 (by decide) (hG _ kw27) (fun _ h9 => h9) rfl dX0_moveToFront_63 ?_
  refine lv_iload hx hb dX0_moveToFront_66 (lv_at hl 0 rfl) ?_
  refine lv_aload_n hx hb dX0_moveToFront_68 rfl (lv_at hl 4 rfl) ?_
  refine va_get (D := D) (ci := 0) (v := .ref (b3)) hx hb hG inX0 hown hK hP 0 rfl rfl 2 (by decide) (hG _ kw27) (fun _ h9 => h9) rfl dX0_moveToFront_69 ?_
  refine lv_iload hx hb dX0_moveToFront_72 (lv_at hl 0 rfl) ?_
  refine lv_iconst (v := 1) hx hb dX0_moveToFront_74 (by decide) ?_
  refine lv_isub hx hb dX0_moveToFront_75 ?_
  refine tI (y := 0) (by decide) ?_
  refine gl (D := D) (j := 0) (f := (vp_updL (vp_updL x.2.2.1 3 (x.2.2.1 2)) 2 ((vp_updL x.2.2.1 3 (x.2.2.1 2)) 1))) hx hb hK hP 3 1 rfl rfl (inL (by decide)) (by decide) dX0_moveToFront_76 ?_
  refine sl (D := D) (j := 1) (f := (vp_updL (vp_updL x.2.2.1 3 (x.2.2.1 2)) 2 ((vp_updL x.2.2.1 3 (x.2.2.1 2)) 1))) (x := ((vp_updL (vp_updL x.2.2.1 3 (x.2.2.1 2)) 2 ((vp_updL x.2.2.1 3 (x.2.2.1 2)) 1)) 0)) (W' := (wC cI cJ b0 b1 b2 b3 ((upd (upd (upd x.1 3 (x.1 2)) 2 ((upd x.1 3 (x.1 2)) 1)) 1 ((upd (upd x.1 3 (x.1 2)) 2 ((upd x.1 3 (x.1 2)) 1)) 0)), (vp_updL (vp_updL (vp_updL x.2.1 3 (x.2.1 2)) 2 ((vp_updL x.2.1 3 (x.2.1 2)) 1)) 1 ((vp_updL (vp_updL x.2.1 3 (x.2.1 2)) 2 ((vp_updL x.2.1 3 (x.2.1 2)) 1)) 0)), (vp_updL (vp_updL (vp_updL x.2.2.1 3 (x.2.2.1 2)) 2 ((vp_updL x.2.2.1 3 (x.2.2.1 2)) 1)) 1 ((vp_updL (vp_updL x.2.2.1 3 (x.2.2.1 2)) 2 ((vp_updL x.2.2.1 3 (x.2.2.1 2)) 1)) 0)), x.2.2.2))) hx hb hK hP hD hS 3 1 rfl rfl (inL (by decide)) (by decide) dX0_moveToFront_77 rfl (fun H locs hP hD hS => ?_)
  refine lv_iinc (k := 0) (v := (0 : Int32)) (lv' := [(7, .int ((0 : Int32))), (5, .long ((x.2.2.1 3))), (3, .long ((x.2.1 3))), (2, .int ((x.1 3))), (0, .ref (b0)), (1, .int ((3 : Int32)))]) hx hb dX0_moveToFront_78 hl rfl (by decide) (by decide) rfl (fun ls hl => ?_)
  refine lv_goto (tgt := 25) hx hb dX0_moveToFront_81 (by decide) ?_
  refine lv_iload hx hb dX0_moveToFront_25 (lv_at hl 0 rfl) ?_
  refine lv_if_le (tgt := 84) hx hb dX0_moveToFront_27 (by decide) (fun _ => ?_) (fun h9 => absurd (by decide) h9)
  refine lv_aload_n hx hb dX0_moveToFront_84 rfl (lv_at hl 4 rfl) ?_
  refine va_get (D := D) (ci := 0) (v := .ref (b1)) hx hb hG inX0 hown hK hP 0 rfl rfl 0 (by decide) (hG _ kw25) (fun _ h9 => h9) rfl dX0_moveToFront_85 ?_
  refine lv_iconst (v := 0) hx hb dX0_moveToFront_88 (by decide) ?_
  refine lv_iload_n hx hb dX0_moveToFront_89 rfl (lv_at hl 3 rfl) ?_
  refine si (D := D) (j := 0) (f := (upd (upd (upd x.1 3 (x.1 2)) 2 ((upd x.1 3 (x.1 2)) 1)) 1 ((upd (upd x.1 3 (x.1 2)) 2 ((upd x.1 3 (x.1 2)) 1)) 0))) (x := (x.1 3)) (W' := (wC cI cJ b0 b1 b2 b3 ((upd (upd (upd (upd x.1 3 (x.1 2)) 2 ((upd x.1 3 (x.1 2)) 1)) 1 ((upd (upd x.1 3 (x.1 2)) 2 ((upd x.1 3 (x.1 2)) 1)) 0)) 0 (x.1 3)), (vp_updL (vp_updL (vp_updL x.2.1 3 (x.2.1 2)) 2 ((vp_updL x.2.1 3 (x.2.1 2)) 1)) 1 ((vp_updL (vp_updL x.2.1 3 (x.2.1 2)) 2 ((vp_updL x.2.1 3 (x.2.1 2)) 1)) 0)), (vp_updL (vp_updL (vp_updL x.2.2.1 3 (x.2.2.1 2)) 2 ((vp_updL x.2.2.1 3 (x.2.2.1 2)) 1)) 1 ((vp_updL (vp_updL x.2.2.1 3 (x.2.2.1 2)) 2 ((vp_updL x.2.2.1 3 (x.2.2.1 2)) 1)) 0)), x.2.2.2))) hx hb hK hP hD hS 1 0 rfl rfl (inL (by decide)) (by decide) dX0_moveToFront_90 rfl (fun H locs hP hD hS => ?_)
  refine lv_aload_n hx hb dX0_moveToFront_91 rfl (lv_at hl 4 rfl) ?_
  refine va_get (D := D) (ci := 0) (v := .ref (b2)) hx hb hG inX0 hown hK hP 0 rfl rfl 1 (by decide) (hG _ kw26) (fun _ h9 => h9) rfl dX0_moveToFront_92 ?_
  refine lv_iconst (v := 0) hx hb dX0_moveToFront_95 (by decide) ?_
  refine lv_lload_n hx hb dX0_moveToFront_96 rfl (lv_at hl 2 rfl) ?_
  refine sl (D := D) (j := 0) (f := (vp_updL (vp_updL (vp_updL x.2.1 3 (x.2.1 2)) 2 ((vp_updL x.2.1 3 (x.2.1 2)) 1)) 1 ((vp_updL (vp_updL x.2.1 3 (x.2.1 2)) 2 ((vp_updL x.2.1 3 (x.2.1 2)) 1)) 0))) (x := (x.2.1 3)) (W' := (wC cI cJ b0 b1 b2 b3 ((upd (upd (upd (upd x.1 3 (x.1 2)) 2 ((upd x.1 3 (x.1 2)) 1)) 1 ((upd (upd x.1 3 (x.1 2)) 2 ((upd x.1 3 (x.1 2)) 1)) 0)) 0 (x.1 3)), (vp_updL (vp_updL (vp_updL (vp_updL x.2.1 3 (x.2.1 2)) 2 ((vp_updL x.2.1 3 (x.2.1 2)) 1)) 1 ((vp_updL (vp_updL x.2.1 3 (x.2.1 2)) 2 ((vp_updL x.2.1 3 (x.2.1 2)) 1)) 0)) 0 (x.2.1 3)), (vp_updL (vp_updL (vp_updL x.2.2.1 3 (x.2.2.1 2)) 2 ((vp_updL x.2.2.1 3 (x.2.2.1 2)) 1)) 1 ((vp_updL (vp_updL x.2.2.1 3 (x.2.2.1 2)) 2 ((vp_updL x.2.2.1 3 (x.2.2.1 2)) 1)) 0)), x.2.2.2))) hx hb hK hP hD hS 2 1 rfl rfl (inL (by decide)) (by decide) dX0_moveToFront_97 rfl (fun H locs hP hD hS => ?_)
  refine lv_aload_n hx hb dX0_moveToFront_98 rfl (lv_at hl 4 rfl) ?_
  refine va_get (D := D) (ci := 0) (v := .ref (b3)) hx hb hG inX0 hown hK hP 0 rfl rfl 2 (by decide) (hG _ kw27) (fun _ h9 => h9) rfl dX0_moveToFront_99 ?_
  refine lv_iconst (v := 0) hx hb dX0_moveToFront_102 (by decide) ?_
  refine lv_lload hx hb dX0_moveToFront_103 (lv_at hl 1 rfl) ?_
  refine sl (D := D) (j := 0) (f := (vp_updL (vp_updL (vp_updL x.2.2.1 3 (x.2.2.1 2)) 2 ((vp_updL x.2.2.1 3 (x.2.2.1 2)) 1)) 1 ((vp_updL (vp_updL x.2.2.1 3 (x.2.2.1 2)) 2 ((vp_updL x.2.2.1 3 (x.2.2.1 2)) 1)) 0))) (x := (x.2.2.1 3)) (W' := (wC cI cJ b0 b1 b2 b3 ((upd (upd (upd (upd x.1 3 (x.1 2)) 2 ((upd x.1 3 (x.1 2)) 1)) 1 ((upd (upd x.1 3 (x.1 2)) 2 ((upd x.1 3 (x.1 2)) 1)) 0)) 0 (x.1 3)), (vp_updL (vp_updL (vp_updL (vp_updL x.2.1 3 (x.2.1 2)) 2 ((vp_updL x.2.1 3 (x.2.1 2)) 1)) 1 ((vp_updL (vp_updL x.2.1 3 (x.2.1 2)) 2 ((vp_updL x.2.1 3 (x.2.1 2)) 1)) 0)) 0 (x.2.1 3)), (vp_updL (vp_updL (vp_updL (vp_updL x.2.2.1 3 (x.2.2.1 2)) 2 ((vp_updL x.2.2.1 3 (x.2.2.1 2)) 1)) 1 ((vp_updL (vp_updL x.2.2.1 3 (x.2.2.1 2)) 2 ((vp_updL x.2.2.1 3 (x.2.2.1 2)) 1)) 0)) 0 (x.2.2.1 3)), x.2.2.2))) hx hb hK hP hD hS 3 1 rfl rfl (inL (by decide)) (by decide) dX0_moveToFront_105 rfl (fun H locs hP hD hS => ?_)
  exact retv (u := ((upd (upd (upd (upd x.1 3 (x.1 2)) 2 ((upd x.1 3 (x.1 2)) 1)) 1 ((upd (upd x.1 3 (x.1 2)) 2 ((upd x.1 3 (x.1 2)) 1)) 0)) 0 (x.1 3)), (vp_updL (vp_updL (vp_updL (vp_updL x.2.1 3 (x.2.1 2)) 2 ((vp_updL x.2.1 3 (x.2.1 2)) 1)) 1 ((vp_updL (vp_updL x.2.1 3 (x.2.1 2)) 2 ((vp_updL x.2.1 3 (x.2.1 2)) 1)) 0)) 0 (x.2.1 3)), (vp_updL (vp_updL (vp_updL (vp_updL x.2.2.1 3 (x.2.2.1 2)) 2 ((vp_updL x.2.2.1 3 (x.2.2.1 2)) 1)) 1 ((vp_updL (vp_updL x.2.2.1 3 (x.2.2.1 2)) 2 ((vp_updL x.2.2.1 3 (x.2.2.1 2)) 1)) 0)) 0 (x.2.2.1 3)), x.2.2.2)) hx hb hr hlocks hK hP hD hS dX0_moveToFront_106 (by unfold fnX0_moveToFront; (try dsimp only); rw [if_neg h1]; rw [if_neg h2]; rw [if_neg h3]; (try exact rfl))
end
section
theorem dX3_markChanged_0 : decode cX3_markChanged 0 = .ok (.aload_n 0, 1) := by decide +kernel
theorem dX3_markChanged_1 : decode cX3_markChanged 1 = .ok (.getfield 22, 3) := by decide +kernel
theorem dX3_markChanged_4 : decode cX3_markChanged 4 = .ok (.getfield 60, 3) := by decide +kernel
theorem dX3_markChanged_7 : decode cX3_markChanged 7 = .ok (.iconst 0, 1) := by decide +kernel
theorem dX3_markChanged_8 : decode cX3_markChanged 8 = .ok (.laload, 1) := by decide +kernel
theorem dX3_markChanged_9 : decode cX3_markChanged 9 = .ok (.ldc2_w 63, 3) := by decide +kernel
theorem dX3_markChanged_12 : decode cX3_markChanged 12 = .ok (.land, 1) := by decide +kernel
theorem dX3_markChanged_13 : decode cX3_markChanged 13 = .ok (.lconst 0, 1) := by decide +kernel
theorem dX3_markChanged_14 : decode cX3_markChanged 14 = .ok (.lcmp, 1) := by decide +kernel
theorem dX3_markChanged_15 : decode cX3_markChanged 15 = .ok (.ifCond .ne 40, 3) := by decide +kernel
theorem dX3_markChanged_18 : decode cX3_markChanged 18 = .ok (.aload_n 0, 1) := by decide +kernel
theorem dX3_markChanged_19 : decode cX3_markChanged 19 = .ok (.getfield 9, 3) := by decide +kernel
theorem dX3_markChanged_22 : decode cX3_markChanged 22 = .ok (.aload_n 0, 1) := by decide +kernel
theorem dX3_markChanged_23 : decode cX3_markChanged 23 = .ok (.getfield 28, 3) := by decide +kernel
theorem dX3_markChanged_26 : decode cX3_markChanged 26 = .ok (.getfield 65, 3) := by decide +kernel
theorem dX3_markChanged_29 : decode cX3_markChanged 29 = .ok (.iload_n 1, 1) := by decide +kernel
theorem dX3_markChanged_30 : decode cX3_markChanged 30 = .ok (.invokestatic 68, 3) := by decide +kernel
theorem dX3_markChanged_33 : decode cX3_markChanged 33 = .ok (.dup2, 1) := by decide +kernel
theorem dX3_markChanged_34 : decode cX3_markChanged 34 = .ok (.laload, 1) := by decide +kernel
theorem dX3_markChanged_35 : decode cX3_markChanged 35 = .ok (.ldc2_w 63, 3) := by decide +kernel
theorem dX3_markChanged_38 : decode cX3_markChanged 38 = .ok (.lor, 1) := by decide +kernel
theorem dX3_markChanged_39 : decode cX3_markChanged 39 = .ok (.lastore, 1) := by decide +kernel
theorem dX3_markChanged_40 : decode cX3_markChanged 40 = .ok (.aload_n 0, 1) := by decide +kernel
theorem dX3_markChanged_41 : decode cX3_markChanged 41 = .ok (.getfield 22, 3) := by decide +kernel
theorem dX3_markChanged_44 : decode cX3_markChanged 44 = .ok (.getfield 60, 3) := by decide +kernel
theorem dX3_markChanged_47 : decode cX3_markChanged 47 = .ok (.iconst 0, 1) := by decide +kernel
theorem dX3_markChanged_48 : decode cX3_markChanged 48 = .ok (.dup2, 1) := by decide +kernel
theorem dX3_markChanged_49 : decode cX3_markChanged 49 = .ok (.laload, 1) := by decide +kernel
theorem dX3_markChanged_50 : decode cX3_markChanged 50 = .ok (.ldc2_w 63, 3) := by decide +kernel
theorem dX3_markChanged_53 : decode cX3_markChanged 53 = .ok (.lor, 1) := by decide +kernel
theorem dX3_markChanged_54 : decode cX3_markChanged 54 = .ok (.lastore, 1) := by decide +kernel
theorem dX3_markChanged_55 : decode cX3_markChanged 55 = .ok (.return_, 1) := by decide +kernel
theorem dX3_lookForDescriptor_0 : decode cX3_lookForDescriptor 0 = .ok (.aload_n 0, 1) := by decide +kernel
theorem dX3_lookForDescriptor_1 : decode cX3_lookForDescriptor 1 = .ok (.getfield 18, 3) := by decide +kernel
theorem dX3_lookForDescriptor_4 : decode cX3_lookForDescriptor 4 = .ok (.iload_n 1, 1) := by decide +kernel
theorem dX3_lookForDescriptor_5 : decode cX3_lookForDescriptor 5 = .ok (.invokevirtual 88, 3) := by decide +kernel
theorem dX3_lookForDescriptor_8 : decode cX3_lookForDescriptor 8 = .ok (.istore_n 3, 1) := by decide +kernel
theorem dX3_lookForDescriptor_9 : decode cX3_lookForDescriptor 9 = .ok (.iload_n 3, 1) := by decide +kernel
theorem dX3_lookForDescriptor_10 : decode cX3_lookForDescriptor 10 = .ok (.iconst (-1), 1) := by decide +kernel
theorem dX3_lookForDescriptor_11 : decode cX3_lookForDescriptor 11 = .ok (.if_icmp .eq 31, 3) := by decide +kernel
theorem dX3_lookForDescriptor_14 : decode cX3_lookForDescriptor 14 = .ok (.aload_n 0, 1) := by decide +kernel
theorem dX3_lookForDescriptor_15 : decode cX3_lookForDescriptor 15 = .ok (.getfield 28, 3) := by decide +kernel
theorem dX3_lookForDescriptor_18 : decode cX3_lookForDescriptor 18 = .ok (.aload_n 0, 1) := by decide +kernel
theorem dX3_lookForDescriptor_19 : decode cX3_lookForDescriptor 19 = .ok (.getfield 18, 3) := by decide +kernel
theorem dX3_lookForDescriptor_22 : decode cX3_lookForDescriptor 22 = .ok (.getfield 60, 3) := by decide +kernel
theorem dX3_lookForDescriptor_25 : decode cX3_lookForDescriptor 25 = .ok (.iload_n 3, 1) := by decide +kernel
theorem dX3_lookForDescriptor_26 : decode cX3_lookForDescriptor 26 = .ok (.laload, 1) := by decide +kernel
theorem dX3_lookForDescriptor_27 : decode cX3_lookForDescriptor 27 = .ok (.aload_n 0, 1) := by decide +kernel
theorem dX3_lookForDescriptor_28 : decode cX3_lookForDescriptor 28 = .ok (.getfield 18, 3) := by decide +kernel
theorem dX3_lookForDescriptor_31 : decode cX3_lookForDescriptor 31 = .ok (.getfield 92, 3) := by decide +kernel
theorem dX3_lookForDescriptor_34 : decode cX3_lookForDescriptor 34 = .ok (.iload_n 3, 1) := by decide +kernel
theorem dX3_lookForDescriptor_35 : decode cX3_lookForDescriptor 35 = .ok (.laload, 1) := by decide +kernel
theorem dX3_lookForDescriptor_36 : decode cX3_lookForDescriptor 36 = .ok (.invokevirtual 95, 3) := by decide +kernel
theorem dX3_lookForDescriptor_39 : decode cX3_lookForDescriptor 39 = .ok (.goto 63, 3) := by decide +kernel
theorem dX3_lookForDescriptor_42 : decode cX3_lookForDescriptor 42 = .ok (.aload_n 0, 1) := by decide +kernel
theorem dX3_lookForDescriptor_43 : decode cX3_lookForDescriptor 43 = .ok (.getfield 9, 3) := by decide +kernel
theorem dX3_lookForDescriptor_46 : decode cX3_lookForDescriptor 46 = .ok (.iconst 2, 1) := by decide +kernel
theorem dX3_lookForDescriptor_47 : decode cX3_lookForDescriptor 47 = .ok (.iload_n 1, 1) := by decide +kernel
theorem dX3_lookForDescriptor_48 : decode cX3_lookForDescriptor 48 = .ok (.imul, 1) := by decide +kernel
theorem dX3_lookForDescriptor_49 : decode cX3_lookForDescriptor 49 = .ok (.laload, 1) := by decide +kernel
theorem dX3_lookForDescriptor_50 : decode cX3_lookForDescriptor 50 = .ok (.lstore 4, 2) := by decide +kernel
theorem dX3_lookForDescriptor_52 : decode cX3_lookForDescriptor 52 = .ok (.aload_n 0, 1) := by decide +kernel
theorem dX3_lookForDescriptor_53 : decode cX3_lookForDescriptor 53 = .ok (.getfield 9, 3) := by decide +kernel
theorem dX3_lookForDescriptor_56 : decode cX3_lookForDescriptor 56 = .ok (.iconst 2, 1) := by decide +kernel
theorem dX3_lookForDescriptor_57 : decode cX3_lookForDescriptor 57 = .ok (.iload_n 1, 1) := by decide +kernel
theorem dX3_lookForDescriptor_58 : decode cX3_lookForDescriptor 58 = .ok (.imul, 1) := by decide +kernel
theorem dX3_lookForDescriptor_59 : decode cX3_lookForDescriptor 59 = .ok (.iconst 1, 1) := by decide +kernel
theorem dX3_lookForDescriptor_60 : decode cX3_lookForDescriptor 60 = .ok (.iadd, 1) := by decide +kernel
theorem dX3_lookForDescriptor_61 : decode cX3_lookForDescriptor 61 = .ok (.laload, 1) := by decide +kernel
theorem dX3_lookForDescriptor_62 : decode cX3_lookForDescriptor 62 = .ok (.lstore 6, 2) := by decide +kernel
theorem dX3_lookForDescriptor_64 : decode cX3_lookForDescriptor 64 = .ok (.aload_n 0, 1) := by decide +kernel
theorem dX3_lookForDescriptor_65 : decode cX3_lookForDescriptor 65 = .ok (.getfield 28, 3) := by decide +kernel
theorem dX3_lookForDescriptor_68 : decode cX3_lookForDescriptor 68 = .ok (.lload 4, 2) := by decide +kernel
theorem dX3_lookForDescriptor_70 : decode cX3_lookForDescriptor 70 = .ok (.lload 6, 2) := by decide +kernel
theorem dX3_lookForDescriptor_72 : decode cX3_lookForDescriptor 72 = .ok (.invokevirtual 95, 3) := by decide +kernel
theorem dX3_lookForDescriptor_75 : decode cX3_lookForDescriptor 75 = .ok (.iload_n 2, 1) := by decide +kernel
theorem dX3_lookForDescriptor_76 : decode cX3_lookForDescriptor 76 = .ok (.ifCond .eq 26, 3) := by decide +kernel
theorem dX3_lookForDescriptor_79 : decode cX3_lookForDescriptor 79 = .ok (.aload_n 0, 1) := by decide +kernel
theorem dX3_lookForDescriptor_80 : decode cX3_lookForDescriptor 80 = .ok (.getfield 28, 3) := by decide +kernel
theorem dX3_lookForDescriptor_83 : decode cX3_lookForDescriptor 83 = .ok (.getfield 99, 3) := by decide +kernel
theorem dX3_lookForDescriptor_86 : decode cX3_lookForDescriptor 86 = .ok (.ifCond .eq 16, 3) := by decide +kernel
theorem dX3_lookForDescriptor_89 : decode cX3_lookForDescriptor 89 = .ok (.aload_n 0, 1) := by decide +kernel
theorem dX3_lookForDescriptor_90 : decode cX3_lookForDescriptor 90 = .ok (.getfield 18, 3) := by decide +kernel
theorem dX3_lookForDescriptor_93 : decode cX3_lookForDescriptor 93 = .ok (.iload_n 1, 1) := by decide +kernel
theorem dX3_lookForDescriptor_94 : decode cX3_lookForDescriptor 94 = .ok (.lload 4, 2) := by decide +kernel
theorem dX3_lookForDescriptor_96 : decode cX3_lookForDescriptor 96 = .ok (.lload 6, 2) := by decide +kernel
theorem dX3_lookForDescriptor_98 : decode cX3_lookForDescriptor 98 = .ok (.invokevirtual 102, 3) := by decide +kernel
theorem dX3_lookForDescriptor_101 : decode cX3_lookForDescriptor 101 = .ok (.istore_n 3, 1) := by decide +kernel
theorem dX3_lookForDescriptor_102 : decode cX3_lookForDescriptor 102 = .ok (.iload_n 2, 1) := by decide +kernel
theorem dX3_lookForDescriptor_103 : decode cX3_lookForDescriptor 103 = .ok (.ifCond .eq 16, 3) := by decide +kernel
theorem dX3_lookForDescriptor_106 : decode cX3_lookForDescriptor 106 = .ok (.iload_n 3, 1) := by decide +kernel
theorem dX3_lookForDescriptor_107 : decode cX3_lookForDescriptor 107 = .ok (.iconst (-1), 1) := by decide +kernel
theorem dX3_lookForDescriptor_108 : decode cX3_lookForDescriptor 108 = .ok (.if_icmp .eq 11, 3) := by decide +kernel
theorem dX3_lookForDescriptor_111 : decode cX3_lookForDescriptor 111 = .ok (.aload_n 0, 1) := by decide +kernel
theorem dX3_lookForDescriptor_112 : decode cX3_lookForDescriptor 112 = .ok (.getfield 18, 3) := by decide +kernel
theorem dX3_lookForDescriptor_115 : decode cX3_lookForDescriptor 115 = .ok (.iload_n 3, 1) := by decide +kernel
theorem dX3_lookForDescriptor_116 : decode cX3_lookForDescriptor 116 = .ok (.invokevirtual 106, 3) := by decide +kernel
theorem dX3_lookForDescriptor_119 : decode cX3_lookForDescriptor 119 = .ok (.aload_n 0, 1) := by decide +kernel
theorem dX3_lookForDescriptor_120 : decode cX3_lookForDescriptor 120 = .ok (.getfield 28, 3) := by decide +kernel
theorem dX3_lookForDescriptor_123 : decode cX3_lookForDescriptor 123 = .ok (.areturn, 1) := by decide +kernel
theorem dX3_lookForPage_0 : decode cX3_lookForPage 0 = .ok (.bipush 64, 2) := by decide +kernel
theorem dX3_lookForPage_2 : decode cX3_lookForPage 2 = .ok (.iload_n 1, 1) := by decide +kernel
theorem dX3_lookForPage_3 : decode cX3_lookForPage 3 = .ok (.imul, 1) := by decide +kernel
theorem dX3_lookForPage_4 : decode cX3_lookForPage 4 = .ok (.iload_n 2, 1) := by decide +kernel
theorem dX3_lookForPage_5 : decode cX3_lookForPage 5 = .ok (.iadd, 1) := by decide +kernel
theorem dX3_lookForPage_6 : decode cX3_lookForPage 6 = .ok (.istore 4, 2) := by decide +kernel
theorem dX3_lookForPage_8 : decode cX3_lookForPage 8 = .ok (.aload_n 0, 1) := by decide +kernel
theorem dX3_lookForPage_9 : decode cX3_lookForPage 9 = .ok (.getfield 22, 3) := by decide +kernel
theorem dX3_lookForPage_12 : decode cX3_lookForPage 12 = .ok (.iload 4, 2) := by decide +kernel
theorem dX3_lookForPage_14 : decode cX3_lookForPage 14 = .ok (.invokevirtual 88, 3) := by decide +kernel
theorem dX3_lookForPage_17 : decode cX3_lookForPage 17 = .ok (.istore 5, 2) := by decide +kernel
theorem dX3_lookForPage_19 : decode cX3_lookForPage 19 = .ok (.iload 5, 2) := by decide +kernel
theorem dX3_lookForPage_21 : decode cX3_lookForPage 21 = .ok (.iconst (-1), 1) := by decide +kernel
theorem dX3_lookForPage_22 : decode cX3_lookForPage 22 = .ok (.if_icmp .ne 22, 3) := by decide +kernel
theorem dX3_lookForPage_25 : decode cX3_lookForPage 25 = .ok (.aload_n 0, 1) := by decide +kernel
theorem dX3_lookForPage_26 : decode cX3_lookForPage 26 = .ok (.getfield 9, 3) := by decide +kernel
theorem dX3_lookForPage_29 : decode cX3_lookForPage 29 = .ok (.aload_n 0, 1) := by decide +kernel
theorem dX3_lookForPage_30 : decode cX3_lookForPage 30 = .ok (.getfield 28, 3) := by decide +kernel
theorem dX3_lookForPage_33 : decode cX3_lookForPage 33 = .ok (.getfield 65, 3) := by decide +kernel
theorem dX3_lookForPage_36 : decode cX3_lookForPage 36 = .ok (.iload_n 2, 1) := by decide +kernel
theorem dX3_lookForPage_37 : decode cX3_lookForPage 37 = .ok (.invokestatic 68, 3) := by decide +kernel
theorem dX3_lookForPage_40 : decode cX3_lookForPage 40 = .ok (.laload, 1) := by decide +kernel
theorem dX3_lookForPage_41 : decode cX3_lookForPage 41 = .ok (.goto 13, 3) := by decide +kernel
theorem dX3_lookForPage_44 : decode cX3_lookForPage 44 = .ok (.aload_n 0, 1) := by decide +kernel
theorem dX3_lookForPage_45 : decode cX3_lookForPage 45 = .ok (.getfield 22, 3) := by decide +kernel
theorem dX3_lookForPage_48 : decode cX3_lookForPage 48 = .ok (.getfield 60, 3) := by decide +kernel
theorem dX3_lookForPage_51 : decode cX3_lookForPage 51 = .ok (.iload 5, 2) := by decide +kernel
theorem dX3_lookForPage_53 : decode cX3_lookForPage 53 = .ok (.laload, 1) := by decide +kernel
theorem dX3_lookForPage_54 : decode cX3_lookForPage 54 = .ok (.lstore 6, 2) := by decide +kernel
theorem dX3_lookForPage_56 : decode cX3_lookForPage 56 = .ok (.iload_n 3, 1) := by decide +kernel
theorem dX3_lookForPage_57 : decode cX3_lookForPage 57 = .ok (.ifCond .eq 14, 3) := by decide +kernel
theorem dX3_lookForPage_60 : decode cX3_lookForPage 60 = .ok (.lload 6, 2) := by decide +kernel
theorem dX3_lookForPage_62 : decode cX3_lookForPage 62 = .ok (.ldc2_w 84, 3) := by decide +kernel
theorem dX3_lookForPage_65 : decode cX3_lookForPage 65 = .ok (.land, 1) := by decide +kernel
theorem dX3_lookForPage_66 : decode cX3_lookForPage 66 = .ok (.lconst 0, 1) := by decide +kernel
theorem dX3_lookForPage_67 : decode cX3_lookForPage 67 = .ok (.lcmp, 1) := by decide +kernel
theorem dX3_lookForPage_68 : decode cX3_lookForPage 68 = .ok (.ifCond .ne 6, 3) := by decide +kernel
theorem dX3_lookForPage_71 : decode cX3_lookForPage 71 = .ok (.lload 6, 2) := by decide +kernel
theorem dX3_lookForPage_73 : decode cX3_lookForPage 73 = .ok (.lreturn, 1) := by decide +kernel
theorem dX3_lookForPage_74 : decode cX3_lookForPage 74 = .ok (.iload 5, 2) := by decide +kernel
theorem dX3_lookForPage_76 : decode cX3_lookForPage 76 = .ok (.iconst (-1), 1) := by decide +kernel
theorem dX3_lookForPage_77 : decode cX3_lookForPage 77 = .ok (.if_icmp .ne 43, 3) := by decide +kernel
theorem dX3_lookForPage_80 : decode cX3_lookForPage 80 = .ok (.aload_n 0, 1) := by decide +kernel
theorem dX3_lookForPage_81 : decode cX3_lookForPage 81 = .ok (.getfield 9, 3) := by decide +kernel
theorem dX3_lookForPage_84 : decode cX3_lookForPage 84 = .ok (.aload_n 0, 1) := by decide +kernel
theorem dX3_lookForPage_85 : decode cX3_lookForPage 85 = .ok (.getfield 28, 3) := by decide +kernel
theorem dX3_lookForPage_88 : decode cX3_lookForPage 88 = .ok (.getfield 65, 3) := by decide +kernel
theorem dX3_lookForPage_91 : decode cX3_lookForPage 91 = .ok (.iload_n 2, 1) := by decide +kernel
theorem dX3_lookForPage_92 : decode cX3_lookForPage 92 = .ok (.invokestatic 68, 3) := by decide +kernel
theorem dX3_lookForPage_95 : decode cX3_lookForPage 95 = .ok (.dup2, 1) := by decide +kernel
theorem dX3_lookForPage_96 : decode cX3_lookForPage 96 = .ok (.laload, 1) := by decide +kernel
theorem dX3_lookForPage_97 : decode cX3_lookForPage 97 = .ok (.ldc2_w 109, 3) := by decide +kernel
theorem dX3_lookForPage_100 : decode cX3_lookForPage 100 = .ok (.lor, 1) := by decide +kernel
theorem dX3_lookForPage_101 : decode cX3_lookForPage 101 = .ok (.lastore, 1) := by decide +kernel
theorem dX3_lookForPage_102 : decode cX3_lookForPage 102 = .ok (.aload_n 0, 1) := by decide +kernel
theorem dX3_lookForPage_103 : decode cX3_lookForPage 103 = .ok (.getfield 22, 3) := by decide +kernel
theorem dX3_lookForPage_106 : decode cX3_lookForPage 106 = .ok (.iload 4, 2) := by decide +kernel
theorem dX3_lookForPage_108 : decode cX3_lookForPage 108 = .ok (.lload 6, 2) := by decide +kernel
theorem dX3_lookForPage_110 : decode cX3_lookForPage 110 = .ok (.ldc2_w 109, 3) := by decide +kernel
theorem dX3_lookForPage_113 : decode cX3_lookForPage 113 = .ok (.lor, 1) := by decide +kernel
theorem dX3_lookForPage_114 : decode cX3_lookForPage 114 = .ok (.lconst 0, 1) := by decide +kernel
theorem dX3_lookForPage_115 : decode cX3_lookForPage 115 = .ok (.invokevirtual 102, 3) := by decide +kernel
theorem dX3_lookForPage_118 : decode cX3_lookForPage 118 = .ok (.istore 5, 2) := by decide +kernel
theorem dX3_lookForPage_120 : decode cX3_lookForPage 120 = .ok (.aload_n 0, 1) := by decide +kernel
theorem dX3_lookForPage_121 : decode cX3_lookForPage 121 = .ok (.getfield 22, 3) := by decide +kernel
theorem dX3_lookForPage_124 : decode cX3_lookForPage 124 = .ok (.iload 5, 2) := by decide +kernel
theorem dX3_lookForPage_126 : decode cX3_lookForPage 126 = .ok (.invokevirtual 106, 3) := by decide +kernel
theorem dX3_lookForPage_129 : decode cX3_lookForPage 129 = .ok (.lload 6, 2) := by decide +kernel
theorem dX3_lookForPage_131 : decode cX3_lookForPage 131 = .ok (.lreturn, 1) := by decide +kernel
theorem kw28 : Cond.fieldLink RX3 22 RX3 "pages" "LRingProcessor$Copies;" ∈ gG := inG 142 (by decide +kernel) (by decide +kernel)
theorem kw29 : Cond.fieldLink RX3 60 RX0 "firsts" "[J" ∈ gG := inG 77 (by decide +kernel) (by decide +kernel)
theorem kw30 : Cond.constantLong RX3 63 8589934592 ∈ gG := inG 495 (by decide +kernel) (by decide +kernel)
theorem kw31 : Cond.fieldLink RX3 9 RX3 "words" "[J" ∈ gG := inG 138 (by decide +kernel) (by decide +kernel)
theorem kw32 : Cond.fieldLink RX3 28 RX3 "descriptor" "LRingProcessor$Descriptor;" ∈ gG := inG 144 (by decide +kernel) (by decide +kernel)
theorem kw33 : Cond.fieldLink RX3 65 RX1 "base" "I" ∈ gG := inG 104 (by decide +kernel) (by decide +kernel)
theorem kw34 : Cond.code yX4_sum cX4_sum 2 (some .int) ∈ gG := inG 423 (by decide +kernel) (by decide +kernel)
theorem kw35 : Cond.static yX4_sum ∈ gG := inG 422 (by decide +kernel) (by decide +kernel)
theorem kw36 : Cond.fieldLink RX3 18 RX3 "descriptors" "LRingProcessor$Copies;" ∈ gG := inG 140 (by decide +kernel) (by decide +kernel)
theorem kw37 : Cond.code yX0_placeOf cX0_placeOf 3 (some .int) ∈ gG := inG 399 (by decide +kernel) (by decide +kernel)
theorem kw38 : Cond.initialized RX0 ∈ gG := inG 45 (by decide +kernel) (by decide +kernel)
theorem kw39 : Cond.methodLink RX3 88 yX0_placeOf ∈ gG := inG 396 (by decide +kernel) (by decide +kernel)
theorem kw40 : Cond.instanceMethod yX0_placeOf ∈ gG := inG 397 (by decide +kernel) (by decide +kernel)
theorem kw41 : Cond.selects RX0 yX0_placeOf yX0_placeOf ∈ gG := inG 398 (by decide +kernel) (by decide +kernel)
theorem kw42 : Cond.code yX1_become cX1_become 5 none ∈ gG := inG 403 (by decide +kernel) (by decide +kernel)
theorem kw43 : Cond.initialized RX1 ∈ gG := inG 46 (by decide +kernel) (by decide +kernel)
theorem kw44 : Cond.methodLink RX3 95 yX1_become ∈ gG := inG 400 (by decide +kernel) (by decide +kernel)
theorem kw45 : Cond.instanceMethod yX1_become ∈ gG := inG 401 (by decide +kernel) (by decide +kernel)
theorem kw46 : Cond.selects RX1 yX1_become yX1_become ∈ gG := inG 402 (by decide +kernel) (by decide +kernel)
theorem kw47 : Cond.fieldLink RX3 99 RX1 "isThere" "Z" ∈ gG := inG 99 (by decide +kernel) (by decide +kernel)
theorem kw48 : Cond.code yX0_add cX0_add 7 (some .int) ∈ gG := inG 412 (by decide +kernel) (by decide +kernel)
theorem kw49 : Cond.methodLink RX3 102 yX0_add ∈ gG := inG 409 (by decide +kernel) (by decide +kernel)
theorem kw50 : Cond.instanceMethod yX0_add ∈ gG := inG 410 (by decide +kernel) (by decide +kernel)
theorem kw51 : Cond.selects RX0 yX0_add yX0_add ∈ gG := inG 411 (by decide +kernel) (by decide +kernel)
theorem kw52 : Cond.code yX0_moveToFront cX0_moveToFront 8 none ∈ gG := inG 416 (by decide +kernel) (by decide +kernel)
theorem kw53 : Cond.methodLink RX3 106 yX0_moveToFront ∈ gG := inG 413 (by decide +kernel) (by decide +kernel)
theorem kw54 : Cond.instanceMethod yX0_moveToFront ∈ gG := inG 414 (by decide +kernel) (by decide +kernel)
theorem kw55 : Cond.selects RX0 yX0_moveToFront yX0_moveToFront ∈ gG := inG 415 (by decide +kernel) (by decide +kernel)
theorem kw56 : Cond.fieldLink RX3 92 RX0 "seconds" "[J" ∈ gG := inG 79 (by decide +kernel) (by decide +kernel)
theorem kw57 : Cond.constantLong RX3 84 34359738368 ∈ gG := inG 428 (by decide +kernel) (by decide +kernel)
theorem kw58 : Cond.constantLong RX3 109 17179869184 ∈ gG := inG 429 (by decide +kernel) (by decide +kernel)
theorem hdX4_sum : yX4_sum.cls ≠ "java/lang/invoke/MethodHandle" ∧ yX4_sum.cls ≠ "java/lang/invoke/VarHandle" ∧ (parseMethodDescriptor yX4_sum.desc).map (fun d => d.parameters.length) = some 2 := by decide +kernel
theorem hdX0_placeOf : yX0_placeOf.cls ≠ "java/lang/invoke/MethodHandle" ∧ yX0_placeOf.cls ≠ "java/lang/invoke/VarHandle" ∧ (parseMethodDescriptor yX0_placeOf.desc).map (fun d => d.parameters.length) = some 1 := by decide +kernel
theorem hdX1_become : yX1_become.cls ≠ "java/lang/invoke/MethodHandle" ∧ yX1_become.cls ≠ "java/lang/invoke/VarHandle" ∧ (parseMethodDescriptor yX1_become.desc).map (fun d => d.parameters.length) = some 2 := by decide +kernel
theorem hdX0_add : yX0_add.cls ≠ "java/lang/invoke/MethodHandle" ∧ yX0_add.cls ≠ "java/lang/invoke/VarHandle" ∧ (parseMethodDescriptor yX0_add.desc).map (fun d => d.parameters.length) = some 3 := by decide +kernel
theorem hdX0_moveToFront : yX0_moveToFront.cls ≠ "java/lang/invoke/MethodHandle" ∧ yX0_moveToFront.cls ≠ "java/lang/invoke/VarHandle" ∧ (parseMethodDescriptor yX0_moveToFront.desc).map (fun d => d.parameters.length) = some 1 := by decide +kernel
end
section
def fnX3_markChanged (x : TS) (a0 : Int32) : TS :=
  if ((x.2.2.1.2.1 0) &&& (8589934592 : Int64)) = (0 : Int64) then
   let p2 := fnX4_sum x.2.2.2.2.2.1 a0
   ((vp_updL x.1 (p2).toNatClampNeg ((x.1 (p2).toNatClampNeg) ||| (8589934592 : Int64))), x.2.1, (x.2.2.1.1, (vp_updL x.2.2.1.2.1 0 ((x.2.2.1.2.1 0) ||| (8589934592 : Int64))), x.2.2.1.2.2.1, x.2.2.1.2.2.2), x.2.2.2)
  else
   x
abbrev ivX3_markChangedP (z : TS) : Prop := iS z
set_option maxRecDepth 100000 in
set_option maxHeartbeats 4000000 in
theorem ivX3_markChanged (x : TS) (a0 : Int32) (hI : iS x) : ivX3_markChangedP (fnX3_markChanged x a0) := by
  unfold fnX3_markChanged
  try dsimp only
  refine iteI (fun h1 => ?_) (fun h1 => ?_)
  · have j2 : i12 (fnX4_sum x.2.2.2.2.2.1 a0) := (sumX x.2.2.2.2.2.1 a0)
    generalize fnX4_sum x.2.2.2.2.2.1 a0 = p2 at j2 ⊢
    exact ⟨(upW hI.1 (orW (hI.1 (p2).toNatClampNeg) (show i36 (8589934592 : Int64) from by decide))), hI.2.1, ⟨(upW hI.2.2.1.1 (orW (hI.2.2.1.1 0) (show i36 (8589934592 : Int64) from by decide))), hI.2.2.1.2⟩, hI.2.2.2⟩
  · exact hI
set_option maxRecDepth 100000 in
set_option maxHeartbeats 4000000 in
theorem okX3_markChanged (l : Launch) (D : va_G) (cI cJ cP : ClassId) (ad : Nat → Nat) (sz : Nat) (x : TS) (a0 : Int32) (hI : iS x) : Met l yX3_markChanged (Cond.code yX3_markChanged cX3_markChanged 2 none :: gG) { frames := 1, cells := 0, slots := 0, locals := 21 } (va_Pc [.ref (ad 0), .int a0] (PRE D (tz cI cJ cP) sz (wS cI cJ ad x))) (va_Qv (fun (u : TS) => u = fnX3_markChanged x a0) (AT D (tz cI cJ cP) (va_A (wS cI cJ ad x) sz) (fun (u : TS) => (wS cI cJ ad u))) (va_A (wS cI cJ ad x) sz)) 0 0 (va_A (wS cI cJ ad x) sz) := by
  refine mo (QA := fun A => va_Qv (fun (u : TS) => u = fnX3_markChanged x a0) (AT D (tz cI cJ cP) A (fun (u : TS) => (wS cI cJ ad u))) A) (by decide) (Nat.le_of_ble_eq_true rfl) ?_
  intro p e s m below meth c A ls H hx hb hr hml hown hG hlocks hnm hA hS hP hK hD hl hN
  have hown : s.vm.findClass RX3 = some m.cls := hown
  have hl : lv_has ls 2 [(0, .ref (ad 0)), (1, .int a0)] := hl
  refine lv_aload_n hx hb dX3_markChanged_0 rfl (lv_at hl 0 rfl) ?_
  refine va_get (D := D) (ci := 3) (v := .ref (ad 6)) hx hb hG inX3 hown hK hP 0 rfl rfl 2 (by decide) (hG _ kw28) (fun _ h9 => h9) rfl dX3_markChanged_1 ?_
  refine va_get (D := D) (ci := 0) (v := .ref (ad 8)) hx hb hG inX0 hown hK hP 6 rfl rfl 1 (by decide) (hG _ kw29) (fun _ h9 => h9) rfl dX3_markChanged_4 ?_
  refine lv_iconst (v := 0) hx hb dX3_markChanged_7 (by decide) ?_
  refine gl (D := D) (j := 0) (f := x.2.2.1.2.1) hx hb hK hP 8 1 rfl rfl (inL (by decide)) (by decide) dX3_markChanged_8 ?_
  refine lv_ldc2 (v := 8589934592) hx hb hown (hG _ kw30) dX3_markChanged_9 ?_
  refine lv_land hx hb dX3_markChanged_12 ?_
  refine lv_lconst (v := 0) hx hb dX3_markChanged_13 (by decide) ?_
  refine lq_ne (tgt := 55) hx hb dX3_markChanged_14 dX3_markChanged_15 (by decide) (fun h1 => ?_) (fun h1 => ?_)
  · exact retv (u := x) hx hb hr hlocks hK hP hD hS dX3_markChanged_55 (by unfold fnX3_markChanged; (try dsimp only); rw [if_neg h1]; (try exact rfl))
  · refine lv_aload_n hx hb dX3_markChanged_18 rfl (lv_at hl 0 rfl) ?_
    refine va_get (D := D) (ci := 3) (v := .ref (ad 1)) hx hb hG inX3 hown hK hP 0 rfl rfl 0 (by decide) (hG _ kw31) (fun _ h9 => h9) rfl dX3_markChanged_19 ?_
    refine lv_aload_n hx hb dX3_markChanged_22 rfl (lv_at hl 0 rfl) ?_
    refine va_get (D := D) (ci := 3) (v := .ref (ad 10)) hx hb hG inX3 hown hK hP 0 rfl rfl 3 (by decide) (hG _ kw32) (fun _ h9 => h9) rfl dX3_markChanged_23 ?_
    refine va_get (D := D) (ci := 1) (v := .int (x.2.2.2.2.2.1)) hx hb hG inX1 hown hK hP 10 rfl rfl 2 (by decide) (hG _ kw33) (fun _ h9 => h9) rfl dX3_markChanged_26 ?_
    refine lv_iload_n hx hb dX3_markChanged_29 rfl (lv_at hl 1 rfl) ?_
    refine k0SNi (As := [.int (x.2.2.2.2.2.1), .int (a0)]) (rest := [.ref (ad 1)]) hx hb hml hown hG hl (okX4_sum l D cI cJ cP  H.size x.2.2.2.2.2.1 a0 ) (cSN 2 hG kw34 (nl5 hN) kw35 kw5 hdX4_sum ⟨by decide, by decide⟩) hK hP hD hS hA hN rfl rfl (Nat.le_of_ble_eq_true rfl) dX3_markChanged_30 ⟨Nat.zero_le _, Nat.zero_le _⟩ (fun r2 q2 H locs hP hD hS => ?_)
    have j2 : i12 r2 := by rw [q2]; exact (sumX x.2.2.2.2.2.1 a0)
    refine lv_dup2_11 hx hb dX3_markChanged_33 rfl rfl ?_
    refine gl (D := D) (j := (r2).toNatClampNeg) (f := x.1) hx hb hK hP 1 1 rfl rfl (in12 j2) rfl dX3_markChanged_34 ?_
    refine lv_ldc2 (v := 8589934592) hx hb hown (hG _ kw30) dX3_markChanged_35 ?_
    refine lv_lor hx hb dX3_markChanged_38 ?_
    refine sl (D := D) (j := (r2).toNatClampNeg) (f := x.1) (x := ((x.1 (r2).toNatClampNeg) ||| (8589934592 : Int64))) (W' := (wS cI cJ ad ((vp_updL x.1 (r2).toNatClampNeg ((x.1 (r2).toNatClampNeg) ||| (8589934592 : Int64))), x.2.1, x.2.2.1, x.2.2.2))) hx hb hK hP hD hS 1 1 rfl rfl (in12 j2) rfl dX3_markChanged_39 rfl (fun H locs hP hD hS => ?_)
    refine lv_aload_n hx hb dX3_markChanged_40 rfl (lv_at hl 0 rfl) ?_
    refine va_get (D := D) (ci := 3) (v := .ref (ad 6)) hx hb hG inX3 hown hK hP 0 rfl rfl 2 (by decide) (hG _ kw28) (fun _ h9 => h9) rfl dX3_markChanged_41 ?_
    refine va_get (D := D) (ci := 0) (v := .ref (ad 8)) hx hb hG inX0 hown hK hP 6 rfl rfl 1 (by decide) (hG _ kw29) (fun _ h9 => h9) rfl dX3_markChanged_44 ?_
    refine lv_iconst (v := 0) hx hb dX3_markChanged_47 (by decide) ?_
    refine lv_dup2_11 hx hb dX3_markChanged_48 rfl rfl ?_
    refine gl (D := D) (j := 0) (f := x.2.2.1.2.1) hx hb hK hP 8 1 rfl rfl (inL (by decide)) (by decide) dX3_markChanged_49 ?_
    refine lv_ldc2 (v := 8589934592) hx hb hown (hG _ kw30) dX3_markChanged_50 ?_
    refine lv_lor hx hb dX3_markChanged_53 ?_
    refine sl (D := D) (j := 0) (f := x.2.2.1.2.1) (x := ((x.2.2.1.2.1 0) ||| (8589934592 : Int64))) (W' := (wS cI cJ ad ((vp_updL x.1 (r2).toNatClampNeg ((x.1 (r2).toNatClampNeg) ||| (8589934592 : Int64))), x.2.1, (x.2.2.1.1, (vp_updL x.2.2.1.2.1 0 ((x.2.2.1.2.1 0) ||| (8589934592 : Int64))), x.2.2.1.2.2.1, x.2.2.1.2.2.2), x.2.2.2))) hx hb hK hP hD hS 8 1 rfl rfl (inL (by decide)) (by decide) dX3_markChanged_54 rfl (fun H locs hP hD hS => ?_)
    exact retv (u := ((vp_updL x.1 (r2).toNatClampNeg ((x.1 (r2).toNatClampNeg) ||| (8589934592 : Int64))), x.2.1, (x.2.2.1.1, (vp_updL x.2.2.1.2.1 0 ((x.2.2.1.2.1 0) ||| (8589934592 : Int64))), x.2.2.1.2.2.1, x.2.2.1.2.2.2), x.2.2.2)) hx hb hr hlocks hK hP hD hS dX3_markChanged_55 (by unfold fnX3_markChanged; (try dsimp only); rw [if_pos h1]; rw [← q2]; (try dsimp only); (try exact rfl))
def fnX3_lookForDescriptor (x : TS) (a0 : Int32) (a1 : Int32) : TS :=
  let p1 := fnX0_placeOf x.2.1 a0
  if p1 = (-1 : Int32) then
   let p3 := fnX1_become x.2.2.2 (x.1 (((2 : Int32) * a0)).toNatClampNeg) (x.1 ((((2 : Int32) * a0) + (1 : Int32))).toNatClampNeg)
   if a1 = (0 : Int32) then
    (x.1, x.2.1, x.2.2.1, p3)
   else
    if p3.1 = (0 : Int32) then
     (x.1, x.2.1, x.2.2.1, p3)
    else
     let p6 := fnX0_add x.2.1 a0 (x.1 (((2 : Int32) * a0)).toNatClampNeg) (x.1 ((((2 : Int32) * a0) + (1 : Int32))).toNatClampNeg)
     let p7 := fnX0_moveToFront p6.2 p6.1
     (x.1, p7, x.2.2.1, p3)
  else
   let p8 := fnX1_become x.2.2.2 (x.2.1.2.1 (p1).toNatClampNeg) (x.2.1.2.2.1 (p1).toNatClampNeg)
   if a1 = (0 : Int32) then
    (x.1, x.2.1, x.2.2.1, p8)
   else
    let p10 := fnX0_moveToFront x.2.1 p1
    (x.1, p10, x.2.2.1, p8)
abbrev ivX3_lookForDescriptorP (z : TS) : Prop := iS z
set_option maxRecDepth 100000 in
set_option maxHeartbeats 4000000 in
theorem ivX3_lookForDescriptor (x : TS) (a0 : Int32) (a1 : Int32) (hI : iS x) (g0 : i4 a0) : ivX3_lookForDescriptorP (fnX3_lookForDescriptor x a0 a1) := by
  unfold fnX3_lookForDescriptor
  try dsimp only
  have j1 : ivX0_placeOfP (fnX0_placeOf x.2.1 a0) := ivX0_placeOf x.2.1 a0 hI.2.1
  generalize fnX0_placeOf x.2.1 a0 = p1 at j1 ⊢
  refine iteI (fun h2 => ?_) (fun h2 => ?_)
  · have j3 : ivX1_becomeP (fnX1_become x.2.2.2 (x.1 (((2 : Int32) * a0)).toNatClampNeg) (x.1 ((((2 : Int32) * a0) + (1 : Int32))).toNatClampNeg)) := ivX1_become x.2.2.2 (x.1 (((2 : Int32) * a0)).toNatClampNeg) (x.1 ((((2 : Int32) * a0) + (1 : Int32))).toNatClampNeg) hI.2.2.2
    generalize fnX1_become x.2.2.2 (x.1 (((2 : Int32) * a0)).toNatClampNeg) (x.1 ((((2 : Int32) * a0) + (1 : Int32))).toNatClampNeg) = p3 at j3 ⊢
    refine iteI (fun h4 => ?_) (fun h4 => ?_)
    · exact ⟨hI.1, hI.2.1, hI.2.2.1, j3⟩
    · refine iteI (fun h5 => ?_) (fun h5 => ?_)
      · exact ⟨hI.1, hI.2.1, hI.2.2.1, j3⟩
      · have j6 : ivX0_addP (fnX0_add x.2.1 a0 (x.1 (((2 : Int32) * a0)).toNatClampNeg) (x.1 ((((2 : Int32) * a0) + (1 : Int32))).toNatClampNeg)) := ivX0_add x.2.1 a0 (x.1 (((2 : Int32) * a0)).toNatClampNeg) (x.1 ((((2 : Int32) * a0) + (1 : Int32))).toNatClampNeg) hI.2.1 (hI.1 (((2 : Int32) * a0)).toNatClampNeg)
        generalize fnX0_add x.2.1 a0 (x.1 (((2 : Int32) * a0)).toNatClampNeg) (x.1 ((((2 : Int32) * a0) + (1 : Int32))).toNatClampNeg) = p6 at j6 ⊢
        have j7 : ivX0_moveToFrontP (fnX0_moveToFront p6.2 p6.1) := ivX0_moveToFront p6.2 p6.1 j6.2 j6.1
        generalize fnX0_moveToFront p6.2 p6.1 = p7 at j7 ⊢
        exact ⟨hI.1, j7, hI.2.2.1, j3⟩
  · have j8 : ivX1_becomeP (fnX1_become x.2.2.2 (x.2.1.2.1 (p1).toNatClampNeg) (x.2.1.2.2.1 (p1).toNatClampNeg)) := ivX1_become x.2.2.2 (x.2.1.2.1 (p1).toNatClampNeg) (x.2.1.2.2.1 (p1).toNatClampNeg) hI.2.2.2
    generalize fnX1_become x.2.2.2 (x.2.1.2.1 (p1).toNatClampNeg) (x.2.1.2.2.1 (p1).toNatClampNeg) = p8 at j8 ⊢
    refine iteI (fun h9 => ?_) (fun h9 => ?_)
    · exact ⟨hI.1, hI.2.1, hI.2.2.1, j8⟩
    · have j10 : ivX0_moveToFrontP (fnX0_moveToFront x.2.1 p1) := ivX0_moveToFront x.2.1 p1 hI.2.1 (plI j1 h2)
      generalize fnX0_moveToFront x.2.1 p1 = p10 at j10 ⊢
      exact ⟨hI.1, j10, hI.2.2.1, j8⟩
set_option maxRecDepth 100000 in
set_option maxHeartbeats 4000000 in
theorem okX3_lookForDescriptor (l : Launch) (D : va_G) (cI cJ cP : ClassId) (ad : Nat → Nat) (sz : Nat) (x : TS) (a0 : Int32) (a1 : Int32) (hI : iS x) (g0 : i4 a0) : Met l yX3_lookForDescriptor (Cond.code yX3_lookForDescriptor cX3_lookForDescriptor 8 (some (.object "RingProcessor$Descriptor")) :: gG) { frames := 1, cells := 0, slots := 0, locals := 27 } (va_Pc [.ref (ad 0), .int a0, .int a1] (PRE D (tz cI cJ cP) sz (wS cI cJ ad x))) (va_Qr (fun (u : TS) => u = fnX3_lookForDescriptor x a0 a1) (fun u a t => a = ad 10 ∧ AT D (tz cI cJ cP) (va_A (wS cI cJ ad x) sz) (fun (u : TS) => (wS cI cJ ad u)) u t) (va_A (wS cI cJ ad x) sz)) 0 0 (va_A (wS cI cJ ad x) sz) := by
  refine mo (QA := fun A => va_Qr (fun (u : TS) => u = fnX3_lookForDescriptor x a0 a1) (fun u a t => a = ad 10 ∧ AT D (tz cI cJ cP) A (fun (u : TS) => (wS cI cJ ad u)) u t) A) (by decide) (Nat.le_of_ble_eq_true rfl) ?_
  intro p e s m below meth c A ls H hx hb hr hml hown hG hlocks hnm hA hS hP hK hD hl hN
  have hown : s.vm.findClass RX3 = some m.cls := hown
  have hl : lv_has ls 8 [(0, .ref (ad 0)), (1, .int a0), (2, .int a1)] := hl
  refine lv_aload_n hx hb dX3_lookForDescriptor_0 rfl (lv_at hl 0 rfl) ?_
  refine va_get (D := D) (ci := 3) (v := .ref (ad 2)) hx hb hG inX3 hown hK hP 0 rfl rfl 1 (by decide) (hG _ kw36) (fun _ h9 => h9) rfl dX3_lookForDescriptor_1 ?_
  refine lv_iload_n hx hb dX3_lookForDescriptor_4 rfl (lv_at hl 1 rfl) ?_
  refine kVi (As := [.int (a0)]) (rest := []) (W' := (fun _ => (wS cI cJ ad x))) hx hb hml hown hG hl (okX0_placeOf l D cI cJ cP (ad 2) (ad 3) (ad 4) (ad 5) H.size x.2.1 a0 hI.2.1) (cV 1 hG kw37 kw39 kw40 kw41 kw38 hdX0_placeOf ⟨by decide, by decide⟩) 2 0 rfl rfl hK hP hD hS hA hN [2, 3, 4, 5] rfl rfl rfl (fun _ => rfl) (fun _ => rfl) rfl rfl (Nat.le_of_ble_eq_true rfl) dX3_lookForDescriptor_5 ⟨Nat.zero_le _, Nat.zero_le _⟩ (fun r1 _ q1 H locs hP hD hS => ?_)
  have j1 : ivX0_placeOfP r1 := by rw [q1]; exact ivX0_placeOf x.2.1 a0 hI.2.1
  refine lv_istore_n (lv' := [(3, .int (r1)), (0, .ref (ad 0)), (1, .int (a0)), (2, .int (a1))]) hx hb dX3_lookForDescriptor_8 rfl hl (by decide) rfl (fun ls hl => ?_)
  refine lv_iload_n hx hb dX3_lookForDescriptor_9 rfl (lv_at hl 0 rfl) ?_
  refine lv_iconst (v := (-1)) hx hb dX3_lookForDescriptor_10 (by decide) ?_
  refine lv_icmp_eq (tgt := 42) hx hb dX3_lookForDescriptor_11 (by decide) (fun h2 => ?_) (fun h2 => ?_)
  · refine lv_aload_n hx hb dX3_lookForDescriptor_42 rfl (lv_at hl 1 rfl) ?_
    refine va_get (D := D) (ci := 3) (v := .ref (ad 1)) hx hb hG inX3 hown hK hP 0 rfl rfl 0 (by decide) (hG _ kw31) (fun _ h9 => h9) rfl dX3_lookForDescriptor_43 ?_
    refine lv_iconst (v := 2) hx hb dX3_lookForDescriptor_46 (by decide) ?_
    refine lv_iload_n hx hb dX3_lookForDescriptor_47 rfl (lv_at hl 2 rfl) ?_
    refine lv_imul hx hb dX3_lookForDescriptor_48 ?_
    refine gl (D := D) (j := (((2 : Int32) * a0)).toNatClampNeg) (f := x.1) hx hb hK hP 1 1 rfl rfl (in12 (seg2 g0).1) rfl dX3_lookForDescriptor_49 ?_
    refine lv_lstore (lv' := [(4, .long ((x.1 (((2 : Int32) * a0)).toNatClampNeg))), (3, .int (r1)), (0, .ref (ad 0)), (1, .int (a0)), (2, .int (a1))]) hx hb dX3_lookForDescriptor_50 hl (by decide) rfl (fun ls hl => ?_)
    refine lv_aload_n hx hb dX3_lookForDescriptor_52 rfl (lv_at hl 2 rfl) ?_
    refine va_get (D := D) (ci := 3) (v := .ref (ad 1)) hx hb hG inX3 hown hK hP 0 rfl rfl 0 (by decide) (hG _ kw31) (fun _ h9 => h9) rfl dX3_lookForDescriptor_53 ?_
    refine lv_iconst (v := 2) hx hb dX3_lookForDescriptor_56 (by decide) ?_
    refine lv_iload_n hx hb dX3_lookForDescriptor_57 rfl (lv_at hl 3 rfl) ?_
    refine lv_imul hx hb dX3_lookForDescriptor_58 ?_
    refine lv_iconst (v := 1) hx hb dX3_lookForDescriptor_59 (by decide) ?_
    refine lv_iadd hx hb dX3_lookForDescriptor_60 ?_
    refine gl (D := D) (j := ((((2 : Int32) * a0) + (1 : Int32))).toNatClampNeg) (f := x.1) hx hb hK hP 1 1 rfl rfl (in12 (seg2 g0).2) rfl dX3_lookForDescriptor_61 ?_
    refine lv_lstore (lv' := [(6, .long ((x.1 ((((2 : Int32) * a0) + (1 : Int32))).toNatClampNeg))), (4, .long ((x.1 (((2 : Int32) * a0)).toNatClampNeg))), (3, .int (r1)), (0, .ref (ad 0)), (1, .int (a0)), (2, .int (a1))]) hx hb dX3_lookForDescriptor_62 hl (by decide) rfl (fun ls hl => ?_)
    refine lv_aload_n hx hb dX3_lookForDescriptor_64 rfl (lv_at hl 3 rfl) ?_
    refine va_get (D := D) (ci := 3) (v := .ref (ad 10)) hx hb hG inX3 hown hK hP 0 rfl rfl 3 (by decide) (hG _ kw32) (fun _ h9 => h9) rfl dX3_lookForDescriptor_65 ?_
    refine lv_lload hx hb dX3_lookForDescriptor_68 (lv_at hl 1 rfl) ?_
    refine lv_lload hx hb dX3_lookForDescriptor_70 (lv_at hl 0 rfl) ?_
    refine kVv (As := [.long ((x.1 (((2 : Int32) * a0)).toNatClampNeg)), .long ((x.1 ((((2 : Int32) * a0) + (1 : Int32))).toNatClampNeg))]) (rest := []) (W' := (fun u3 => (wS cI cJ ad (x.1, x.2.1, x.2.2.1, u3)))) hx hb hml hown hG hl (okX1_become l D cI cJ cP (ad 10) H.size x.2.2.2 (x.1 (((2 : Int32) * a0)).toNatClampNeg) (x.1 ((((2 : Int32) * a0) + (1 : Int32))).toNatClampNeg) hI.2.2.2) (cV 2 hG kw42 kw44 kw45 kw46 kw43 hdX1_become ⟨by decide, by decide⟩) 10 1 rfl rfl hK hP hD hS hA hN [10] rfl rfl rfl (fun _ => rfl) (fun _ => rfl) rfl rfl (Nat.le_of_ble_eq_true rfl) dX3_lookForDescriptor_72 ⟨Nat.zero_le _, Nat.zero_le _⟩ (fun u3 q3 H locs hP hD hS => ?_)
    have j3 : ivX1_becomeP u3 := by rw [q3]; exact ivX1_become x.2.2.2 (x.1 (((2 : Int32) * a0)).toNatClampNeg) (x.1 ((((2 : Int32) * a0) + (1 : Int32))).toNatClampNeg) hI.2.2.2
    refine lv_iload_n hx hb dX3_lookForDescriptor_75 rfl (lv_at hl 5 rfl) ?_
    refine lv_if_eq (tgt := 102) hx hb dX3_lookForDescriptor_76 (by decide) (fun h4 => ?_) (fun h4 => ?_)
    · refine lv_iload_n hx hb dX3_lookForDescriptor_102 rfl (lv_at hl 5 rfl) ?_
      refine lv_if_eq (tgt := 119) hx hb dX3_lookForDescriptor_103 (by decide) (fun _ => ?_) (fun h9 => absurd h4 h9)
      refine lv_aload_n hx hb dX3_lookForDescriptor_119 rfl (lv_at hl 3 rfl) ?_
      refine va_get (D := D) (ci := 3) (v := .ref (ad 10)) hx hb hG inX3 hown hK hP 0 rfl rfl 3 (by decide) (hG _ kw32) (fun _ h9 => h9) rfl dX3_lookForDescriptor_120 ?_
      exact retr (u := (x.1, x.2.1, x.2.2.1, u3)) hx hb hr hlocks (Or.inl ⟨_, rfl⟩) hK hP hD hS dX3_lookForDescriptor_123 (by unfold fnX3_lookForDescriptor; rw [← q1]; (try dsimp only); rw [if_pos h2]; rw [← q3]; (try dsimp only); rw [if_pos h4]; (try exact rfl))
    · refine lv_aload_n hx hb dX3_lookForDescriptor_79 rfl (lv_at hl 3 rfl) ?_
      refine va_get (D := D) (ci := 3) (v := .ref (ad 10)) hx hb hG inX3 hown hK hP 0 rfl rfl 3 (by decide) (hG _ kw32) (fun _ h9 => h9) rfl dX3_lookForDescriptor_80 ?_
      refine va_get (D := D) (ci := 1) (v := .int (u3.1)) hx hb hG inX1 hown hK hP 10 rfl rfl 0 (by decide) (hG _ kw47) (fun _ h9 => h9) rfl dX3_lookForDescriptor_83 ?_
      refine lv_if_eq (tgt := 102) hx hb dX3_lookForDescriptor_86 (by decide) (fun h5 => ?_) (fun h5 => ?_)
      · refine lv_iload_n hx hb dX3_lookForDescriptor_102 rfl (lv_at hl 5 rfl) ?_
        refine lv_if_eq (tgt := 119) hx hb dX3_lookForDescriptor_103 (by decide) (fun h9 => absurd h9 h4) (fun _ => ?_)
        refine lv_iload_n hx hb dX3_lookForDescriptor_106 rfl (lv_at hl 2 rfl) ?_
        refine lv_iconst (v := (-1)) hx hb dX3_lookForDescriptor_107 (by decide) ?_
        refine lv_icmp_eq (tgt := 119) hx hb dX3_lookForDescriptor_108 (by decide) (fun _ => ?_) (fun h9 => absurd h2 h9)
        refine lv_aload_n hx hb dX3_lookForDescriptor_119 rfl (lv_at hl 3 rfl) ?_
        refine va_get (D := D) (ci := 3) (v := .ref (ad 10)) hx hb hG inX3 hown hK hP 0 rfl rfl 3 (by decide) (hG _ kw32) (fun _ h9 => h9) rfl dX3_lookForDescriptor_120 ?_
        exact retr (u := (x.1, x.2.1, x.2.2.1, u3)) hx hb hr hlocks (Or.inl ⟨_, rfl⟩) hK hP hD hS dX3_lookForDescriptor_123 (by unfold fnX3_lookForDescriptor; rw [← q1]; (try dsimp only); rw [if_pos h2]; rw [← q3]; (try dsimp only); rw [if_neg h4]; rw [if_pos h5]; (try exact rfl))
      · refine lv_aload_n hx hb dX3_lookForDescriptor_89 rfl (lv_at hl 3 rfl) ?_
        refine va_get (D := D) (ci := 3) (v := .ref (ad 2)) hx hb hG inX3 hown hK hP 0 rfl rfl 1 (by decide) (hG _ kw36) (fun _ h9 => h9) rfl dX3_lookForDescriptor_90 ?_
        refine lv_iload_n hx hb dX3_lookForDescriptor_93 rfl (lv_at hl 4 rfl) ?_
        refine lv_lload hx hb dX3_lookForDescriptor_94 (lv_at hl 1 rfl) ?_
        refine lv_lload hx hb dX3_lookForDescriptor_96 (lv_at hl 0 rfl) ?_
        refine kVi (As := [.int (a0), .long ((x.1 (((2 : Int32) * a0)).toNatClampNeg)), .long ((x.1 ((((2 : Int32) * a0) + (1 : Int32))).toNatClampNeg))]) (rest := []) (W' := (fun u6 => (wS cI cJ ad (x.1, u6, x.2.2.1, u3)))) hx hb hml hown hG hl (okX0_add l D cI cJ cP (ad 2) (ad 3) (ad 4) (ad 5) H.size x.2.1 a0 (x.1 (((2 : Int32) * a0)).toNatClampNeg) (x.1 ((((2 : Int32) * a0) + (1 : Int32))).toNatClampNeg) hI.2.1 (hI.1 (((2 : Int32) * a0)).toNatClampNeg)) (cV 3 hG kw48 kw49 kw50 kw51 kw38 hdX0_add ⟨by decide, by decide⟩) 2 0 rfl rfl hK hP hD hS hA hN [2, 3, 4, 5] rfl rfl rfl (fun _ => rfl) (fun _ => rfl) rfl rfl (Nat.le_of_ble_eq_true rfl) dX3_lookForDescriptor_98 ⟨Nat.zero_le _, Nat.zero_le _⟩ (fun r6 u6 q6 H locs hP hD hS => ?_)
        have j6 : ivX0_addP (r6, u6) := by rw [q6]; exact ivX0_add x.2.1 a0 (x.1 (((2 : Int32) * a0)).toNatClampNeg) (x.1 ((((2 : Int32) * a0) + (1 : Int32))).toNatClampNeg) hI.2.1 (hI.1 (((2 : Int32) * a0)).toNatClampNeg)
        refine lv_istore_n (lv' := [(3, .int (r6)), (6, .long ((x.1 ((((2 : Int32) * a0) + (1 : Int32))).toNatClampNeg))), (4, .long ((x.1 (((2 : Int32) * a0)).toNatClampNeg))), (0, .ref (ad 0)), (1, .int (a0)), (2, .int (a1))]) hx hb dX3_lookForDescriptor_101 rfl hl (by decide) rfl (fun ls hl => ?_)
        refine lv_iload_n hx hb dX3_lookForDescriptor_102 rfl (lv_at hl 5 rfl) ?_
        refine lv_if_eq (tgt := 119) hx hb dX3_lookForDescriptor_103 (by decide) (fun h9 => absurd h9 h4) (fun _ => ?_)
        refine lv_iload_n hx hb dX3_lookForDescriptor_106 rfl (lv_at hl 0 rfl) ?_
        refine lv_iconst (v := (-1)) hx hb dX3_lookForDescriptor_107 (by decide) ?_
        refine lv_icmp_eq (tgt := 119) hx hb dX3_lookForDescriptor_108 (by decide) (fun h9 => absurd h9 (nq_i2 j6.1)) (fun _ => ?_)
        refine lv_aload_n hx hb dX3_lookForDescriptor_111 rfl (lv_at hl 3 rfl) ?_
        refine va_get (D := D) (ci := 3) (v := .ref (ad 2)) hx hb hG inX3 hown hK hP 0 rfl rfl 1 (by decide) (hG _ kw36) (fun _ h9 => h9) rfl dX3_lookForDescriptor_112 ?_
        refine lv_iload_n hx hb dX3_lookForDescriptor_115 rfl (lv_at hl 0 rfl) ?_
        refine kVv (As := [.int (r6)]) (rest := []) (W' := (fun u7 => (wS cI cJ ad (x.1, u7, x.2.2.1, u3)))) hx hb hml hown hG hl (okX0_moveToFront l D cI cJ cP (ad 2) (ad 3) (ad 4) (ad 5) H.size u6 r6 j6.2 j6.1) (cV 1 hG kw52 kw53 kw54 kw55 kw38 hdX0_moveToFront ⟨by decide, by decide⟩) 2 0 rfl rfl hK hP hD hS hA hN [2, 3, 4, 5] rfl rfl rfl (fun _ => rfl) (fun _ => rfl) rfl rfl (Nat.le_of_ble_eq_true rfl) dX3_lookForDescriptor_116 ⟨Nat.zero_le _, Nat.zero_le _⟩ (fun u7 q7 H locs hP hD hS => ?_)
        have j7 : ivX0_moveToFrontP u7 := by rw [q7]; exact ivX0_moveToFront u6 r6 j6.2 j6.1
        refine lv_aload_n hx hb dX3_lookForDescriptor_119 rfl (lv_at hl 3 rfl) ?_
        refine va_get (D := D) (ci := 3) (v := .ref (ad 10)) hx hb hG inX3 hown hK hP 0 rfl rfl 3 (by decide) (hG _ kw32) (fun _ h9 => h9) rfl dX3_lookForDescriptor_120 ?_
        exact retr (u := (x.1, u7, x.2.2.1, u3)) hx hb hr hlocks (Or.inl ⟨_, rfl⟩) hK hP hD hS dX3_lookForDescriptor_123 (by unfold fnX3_lookForDescriptor; rw [← q1]; (try dsimp only); rw [if_pos h2]; rw [← q3]; (try dsimp only); rw [if_neg h4]; rw [if_neg h5]; rw [← q6]; (try dsimp only); rw [← q7]; (try dsimp only); (try exact rfl))
  · refine lv_aload_n hx hb dX3_lookForDescriptor_14 rfl (lv_at hl 1 rfl) ?_
    refine va_get (D := D) (ci := 3) (v := .ref (ad 10)) hx hb hG inX3 hown hK hP 0 rfl rfl 3 (by decide) (hG _ kw32) (fun _ h9 => h9) rfl dX3_lookForDescriptor_15 ?_
    refine lv_aload_n hx hb dX3_lookForDescriptor_18 rfl (lv_at hl 1 rfl) ?_
    refine va_get (D := D) (ci := 3) (v := .ref (ad 2)) hx hb hG inX3 hown hK hP 0 rfl rfl 1 (by decide) (hG _ kw36) (fun _ h9 => h9) rfl dX3_lookForDescriptor_19 ?_
    refine va_get (D := D) (ci := 0) (v := .ref (ad 4)) hx hb hG inX0 hown hK hP 2 rfl rfl 1 (by decide) (hG _ kw29) (fun _ h9 => h9) rfl dX3_lookForDescriptor_22 ?_
    refine lv_iload_n hx hb dX3_lookForDescriptor_25 rfl (lv_at hl 0 rfl) ?_
    refine gl (D := D) (j := (r1).toNatClampNeg) (f := x.2.1.2.1) hx hb hK hP 4 1 rfl rfl (in2 (plI j1 h2)) rfl dX3_lookForDescriptor_26 ?_
    refine lv_aload_n hx hb dX3_lookForDescriptor_27 rfl (lv_at hl 1 rfl) ?_
    refine va_get (D := D) (ci := 3) (v := .ref (ad 2)) hx hb hG inX3 hown hK hP 0 rfl rfl 1 (by decide) (hG _ kw36) (fun _ h9 => h9) rfl dX3_lookForDescriptor_28 ?_
    refine va_get (D := D) (ci := 0) (v := .ref (ad 5)) hx hb hG inX0 hown hK hP 2 rfl rfl 2 (by decide) (hG _ kw56) (fun _ h9 => h9) rfl dX3_lookForDescriptor_31 ?_
    refine lv_iload_n hx hb dX3_lookForDescriptor_34 rfl (lv_at hl 0 rfl) ?_
    refine gl (D := D) (j := (r1).toNatClampNeg) (f := x.2.1.2.2.1) hx hb hK hP 5 1 rfl rfl (in2 (plI j1 h2)) rfl dX3_lookForDescriptor_35 ?_
    refine kVv (As := [.long ((x.2.1.2.1 (r1).toNatClampNeg)), .long ((x.2.1.2.2.1 (r1).toNatClampNeg))]) (rest := []) (W' := (fun u8 => (wS cI cJ ad (x.1, x.2.1, x.2.2.1, u8)))) hx hb hml hown hG hl (okX1_become l D cI cJ cP (ad 10) H.size x.2.2.2 (x.2.1.2.1 (r1).toNatClampNeg) (x.2.1.2.2.1 (r1).toNatClampNeg) hI.2.2.2) (cV 2 hG kw42 kw44 kw45 kw46 kw43 hdX1_become ⟨by decide, by decide⟩) 10 1 rfl rfl hK hP hD hS hA hN [10] rfl rfl rfl (fun _ => rfl) (fun _ => rfl) rfl rfl (Nat.le_of_ble_eq_true rfl) dX3_lookForDescriptor_36 ⟨Nat.zero_le _, Nat.zero_le _⟩ (fun u8 q8 H locs hP hD hS => ?_)
    have j8 : ivX1_becomeP u8 := by rw [q8]; exact ivX1_become x.2.2.2 (x.2.1.2.1 (r1).toNatClampNeg) (x.2.1.2.2.1 (r1).toNatClampNeg) hI.2.2.2
    refine lv_goto (tgt := 102) hx hb dX3_lookForDescriptor_39 (by decide) ?_
    refine lv_iload_n hx hb dX3_lookForDescriptor_102 rfl (lv_at hl 3 rfl) ?_
    refine lv_if_eq (tgt := 119) hx hb dX3_lookForDescriptor_103 (by decide) (fun h9 => ?_) (fun h9 => ?_)
    · refine lv_aload_n hx hb dX3_lookForDescriptor_119 rfl (lv_at hl 1 rfl) ?_
      refine va_get (D := D) (ci := 3) (v := .ref (ad 10)) hx hb hG inX3 hown hK hP 0 rfl rfl 3 (by decide) (hG _ kw32) (fun _ h9 => h9) rfl dX3_lookForDescriptor_120 ?_
      exact retr (u := (x.1, x.2.1, x.2.2.1, u8)) hx hb hr hlocks (Or.inl ⟨_, rfl⟩) hK hP hD hS dX3_lookForDescriptor_123 (by unfold fnX3_lookForDescriptor; rw [← q1]; (try dsimp only); rw [if_neg h2]; rw [← q8]; (try dsimp only); rw [if_pos h9]; (try exact rfl))
    · refine lv_iload_n hx hb dX3_lookForDescriptor_106 rfl (lv_at hl 0 rfl) ?_
      refine lv_iconst (v := (-1)) hx hb dX3_lookForDescriptor_107 (by decide) ?_
      refine lv_icmp_eq (tgt := 119) hx hb dX3_lookForDescriptor_108 (by decide) (fun h9 => absurd h9 h2) (fun _ => ?_)
      refine lv_aload_n hx hb dX3_lookForDescriptor_111 rfl (lv_at hl 1 rfl) ?_
      refine va_get (D := D) (ci := 3) (v := .ref (ad 2)) hx hb hG inX3 hown hK hP 0 rfl rfl 1 (by decide) (hG _ kw36) (fun _ h9 => h9) rfl dX3_lookForDescriptor_112 ?_
      refine lv_iload_n hx hb dX3_lookForDescriptor_115 rfl (lv_at hl 0 rfl) ?_
      refine kVv (As := [.int (r1)]) (rest := []) (W' := (fun u10 => (wS cI cJ ad (x.1, u10, x.2.2.1, u8)))) hx hb hml hown hG hl (okX0_moveToFront l D cI cJ cP (ad 2) (ad 3) (ad 4) (ad 5) H.size x.2.1 r1 hI.2.1 (plI j1 h2)) (cV 1 hG kw52 kw53 kw54 kw55 kw38 hdX0_moveToFront ⟨by decide, by decide⟩) 2 0 rfl rfl hK hP hD hS hA hN [2, 3, 4, 5] rfl rfl rfl (fun _ => rfl) (fun _ => rfl) rfl rfl (Nat.le_of_ble_eq_true rfl) dX3_lookForDescriptor_116 ⟨Nat.zero_le _, Nat.zero_le _⟩ (fun u10 q10 H locs hP hD hS => ?_)
      have j10 : ivX0_moveToFrontP u10 := by rw [q10]; exact ivX0_moveToFront x.2.1 r1 hI.2.1 (plI j1 h2)
      refine lv_aload_n hx hb dX3_lookForDescriptor_119 rfl (lv_at hl 1 rfl) ?_
      refine va_get (D := D) (ci := 3) (v := .ref (ad 10)) hx hb hG inX3 hown hK hP 0 rfl rfl 3 (by decide) (hG _ kw32) (fun _ h9 => h9) rfl dX3_lookForDescriptor_120 ?_
      exact retr (u := (x.1, u10, x.2.2.1, u8)) hx hb hr hlocks (Or.inl ⟨_, rfl⟩) hK hP hD hS dX3_lookForDescriptor_123 (by unfold fnX3_lookForDescriptor; rw [← q1]; (try dsimp only); rw [if_neg h2]; rw [← q8]; (try dsimp only); rw [if_neg h9]; rw [← q10]; (try dsimp only); (try exact rfl))
def fnX3_lookForPage (x : TS) (a0 : Int32) (a1 : Int32) (a2 : Int32) : Int64 × TS :=
  let p1 := fnX0_placeOf x.2.2.1 (((64 : Int32) * a0) + a1)
  if p1 = (-1 : Int32) then
   let p6 := fnX4_sum x.2.2.2.2.2.1 a1
   if a2 = (0 : Int32) then
    ((x.1 (p6).toNatClampNeg), x)
   else
    if ((x.1 (p6).toNatClampNeg) &&& (34359738368 : Int64)) = (0 : Int64) then
     ((x.1 (p6).toNatClampNeg), x)
    else
     let p10 := fnX0_add x.2.2.1 (((64 : Int32) * a0) + a1) ((x.1 (p6).toNatClampNeg) ||| (17179869184 : Int64)) (0 : Int64)
     let p11 := fnX0_moveToFront p10.2 p10.1
     ((x.1 (p6).toNatClampNeg), ((vp_updL x.1 (p6).toNatClampNeg ((x.1 (p6).toNatClampNeg) ||| (17179869184 : Int64))), x.2.1, p11, x.2.2.2))
  else
   if a2 = (0 : Int32) then
    ((x.2.2.1.2.1 (p1).toNatClampNeg), x)
   else
    if ((x.2.2.1.2.1 (p1).toNatClampNeg) &&& (34359738368 : Int64)) = (0 : Int64) then
     ((x.2.2.1.2.1 (p1).toNatClampNeg), x)
    else
     let p5 := fnX0_moveToFront x.2.2.1 p1
     ((x.2.2.1.2.1 (p1).toNatClampNeg), (x.1, x.2.1, p5, x.2.2.2))
abbrev ivX3_lookForPageP (z : Int64 × TS) : Prop := i36 z.1 ∧ iS z.2
set_option maxRecDepth 100000 in
set_option maxHeartbeats 4000000 in
theorem ivX3_lookForPage (x : TS) (a0 : Int32) (a1 : Int32) (a2 : Int32) (hI : iS x) : ivX3_lookForPageP (fnX3_lookForPage x a0 a1 a2) := by
  unfold fnX3_lookForPage
  try dsimp only
  have j1 : ivX0_placeOfP (fnX0_placeOf x.2.2.1 (((64 : Int32) * a0) + a1)) := ivX0_placeOf x.2.2.1 (((64 : Int32) * a0) + a1) hI.2.2.1
  generalize fnX0_placeOf x.2.2.1 (((64 : Int32) * a0) + a1) = p1 at j1 ⊢
  refine iteI (fun h2 => ?_) (fun h2 => ?_)
  · have j6 : i12 (fnX4_sum x.2.2.2.2.2.1 a1) := (sumX x.2.2.2.2.2.1 a1)
    generalize fnX4_sum x.2.2.2.2.2.1 a1 = p6 at j6 ⊢
    refine iteI (fun h7 => ?_) (fun h7 => ?_)
    · exact ⟨(hI.1 (p6).toNatClampNeg), hI⟩
    · refine iteI (fun h8 => ?_) (fun h8 => ?_)
      · exact ⟨(hI.1 (p6).toNatClampNeg), hI⟩
      · have j10 : ivX0_addP (fnX0_add x.2.2.1 (((64 : Int32) * a0) + a1) ((x.1 (p6).toNatClampNeg) ||| (17179869184 : Int64)) (0 : Int64)) := ivX0_add x.2.2.1 (((64 : Int32) * a0) + a1) ((x.1 (p6).toNatClampNeg) ||| (17179869184 : Int64)) (0 : Int64) hI.2.2.1 (orW (hI.1 (p6).toNatClampNeg) (show i36 (17179869184 : Int64) from by decide))
        generalize fnX0_add x.2.2.1 (((64 : Int32) * a0) + a1) ((x.1 (p6).toNatClampNeg) ||| (17179869184 : Int64)) (0 : Int64) = p10 at j10 ⊢
        have j11 : ivX0_moveToFrontP (fnX0_moveToFront p10.2 p10.1) := ivX0_moveToFront p10.2 p10.1 j10.2 j10.1
        generalize fnX0_moveToFront p10.2 p10.1 = p11 at j11 ⊢
        exact ⟨(hI.1 (p6).toNatClampNeg), ⟨(upW hI.1 (orW (hI.1 (p6).toNatClampNeg) (show i36 (17179869184 : Int64) from by decide))), hI.2.1, j11, hI.2.2.2⟩⟩
  · refine iteI (fun h3 => ?_) (fun h3 => ?_)
    · exact ⟨(hI.2.2.1.1 (p1).toNatClampNeg), hI⟩
    · refine iteI (fun h4 => ?_) (fun h4 => ?_)
      · exact ⟨(hI.2.2.1.1 (p1).toNatClampNeg), hI⟩
      · have j5 : ivX0_moveToFrontP (fnX0_moveToFront x.2.2.1 p1) := ivX0_moveToFront x.2.2.1 p1 hI.2.2.1 (plI j1 h2)
        generalize fnX0_moveToFront x.2.2.1 p1 = p5 at j5 ⊢
        exact ⟨(hI.2.2.1.1 (p1).toNatClampNeg), ⟨hI.1, hI.2.1, j5, hI.2.2.2⟩⟩
set_option maxRecDepth 100000 in
set_option maxHeartbeats 4000000 in
theorem okX3_lookForPage (l : Launch) (D : va_G) (cI cJ cP : ClassId) (ad : Nat → Nat) (sz : Nat) (x : TS) (a0 : Int32) (a1 : Int32) (a2 : Int32) (hI : iS x) : Met l yX3_lookForPage (Cond.code yX3_lookForPage cX3_lookForPage 8 (some .long) :: gG) { frames := 1, cells := 0, slots := 0, locals := 27 } (va_Pc [.ref (ad 0), .int a0, .int a1, .int a2] (PRE D (tz cI cJ cP) sz (wS cI cJ ad x))) (va_Ql (fun (r : Int64) (u : TS) => (r, u) = fnX3_lookForPage x a0 a1 a2) (AT D (tz cI cJ cP) (va_A (wS cI cJ ad x) sz) (fun (u : TS) => (wS cI cJ ad u))) (va_A (wS cI cJ ad x) sz)) 0 0 (va_A (wS cI cJ ad x) sz) := by
  refine mo (QA := fun A => va_Ql (fun (r : Int64) (u : TS) => (r, u) = fnX3_lookForPage x a0 a1 a2) (AT D (tz cI cJ cP) A (fun (u : TS) => (wS cI cJ ad u))) A) (by decide) (Nat.le_of_ble_eq_true rfl) ?_
  intro p e s m below meth c A ls H hx hb hr hml hown hG hlocks hnm hA hS hP hK hD hl hN
  have hown : s.vm.findClass RX3 = some m.cls := hown
  have hl : lv_has ls 8 [(0, .ref (ad 0)), (1, .int a0), (2, .int a1), (3, .int a2)] := hl
  refine lv_bipush (v := 64) hx hb dX3_lookForPage_0 (by decide) ?_
  refine lv_iload_n hx hb dX3_lookForPage_2 rfl (lv_at hl 1 rfl) ?_
  refine lv_imul hx hb dX3_lookForPage_3 ?_
  refine lv_iload_n hx hb dX3_lookForPage_4 rfl (lv_at hl 2 rfl) ?_
  refine lv_iadd hx hb dX3_lookForPage_5 ?_
  refine lv_istore (lv' := [(4, .int ((((64 : Int32) * a0) + a1))), (0, .ref (ad 0)), (1, .int (a0)), (2, .int (a1)), (3, .int (a2))]) hx hb dX3_lookForPage_6 hl (by decide) rfl (fun ls hl => ?_)
  refine lv_aload_n hx hb dX3_lookForPage_8 rfl (lv_at hl 1 rfl) ?_
  refine va_get (D := D) (ci := 3) (v := .ref (ad 6)) hx hb hG inX3 hown hK hP 0 rfl rfl 2 (by decide) (hG _ kw28) (fun _ h9 => h9) rfl dX3_lookForPage_9 ?_
  refine lv_iload hx hb dX3_lookForPage_12 (lv_at hl 0 rfl) ?_
  refine kVi (As := [.int ((((64 : Int32) * a0) + a1))]) (rest := []) (W' := (fun _ => (wS cI cJ ad x))) hx hb hml hown hG hl (okX0_placeOf l D cI cJ cP (ad 6) (ad 7) (ad 8) (ad 9) H.size x.2.2.1 (((64 : Int32) * a0) + a1) hI.2.2.1) (cV 1 hG kw37 kw39 kw40 kw41 kw38 hdX0_placeOf ⟨by decide, by decide⟩) 6 0 rfl rfl hK hP hD hS hA hN [6, 7, 8, 9] rfl rfl rfl (fun _ => rfl) (fun _ => rfl) rfl rfl (Nat.le_of_ble_eq_true rfl) dX3_lookForPage_14 ⟨Nat.zero_le _, Nat.zero_le _⟩ (fun r1 _ q1 H locs hP hD hS => ?_)
  have j1 : ivX0_placeOfP r1 := by rw [q1]; exact ivX0_placeOf x.2.2.1 (((64 : Int32) * a0) + a1) hI.2.2.1
  refine lv_istore (lv' := [(5, .int (r1)), (4, .int ((((64 : Int32) * a0) + a1))), (0, .ref (ad 0)), (1, .int (a0)), (2, .int (a1)), (3, .int (a2))]) hx hb dX3_lookForPage_17 hl (by decide) rfl (fun ls hl => ?_)
  refine lv_iload hx hb dX3_lookForPage_19 (lv_at hl 0 rfl) ?_
  refine lv_iconst (v := (-1)) hx hb dX3_lookForPage_21 (by decide) ?_
  refine lv_icmp_ne (tgt := 44) hx hb dX3_lookForPage_22 (by decide) (fun h2 => ?_) (fun h2 => ?_)
  · refine lv_aload_n hx hb dX3_lookForPage_44 rfl (lv_at hl 2 rfl) ?_
    refine va_get (D := D) (ci := 3) (v := .ref (ad 6)) hx hb hG inX3 hown hK hP 0 rfl rfl 2 (by decide) (hG _ kw28) (fun _ h9 => h9) rfl dX3_lookForPage_45 ?_
    refine va_get (D := D) (ci := 0) (v := .ref (ad 8)) hx hb hG inX0 hown hK hP 6 rfl rfl 1 (by decide) (hG _ kw29) (fun _ h9 => h9) rfl dX3_lookForPage_48 ?_
    refine lv_iload hx hb dX3_lookForPage_51 (lv_at hl 0 rfl) ?_
    refine gl (D := D) (j := (r1).toNatClampNeg) (f := x.2.2.1.2.1) hx hb hK hP 8 1 rfl rfl (in2 (plI j1 h2)) rfl dX3_lookForPage_53 ?_
    refine lv_lstore (lv' := [(6, .long ((x.2.2.1.2.1 (r1).toNatClampNeg))), (5, .int (r1)), (4, .int ((((64 : Int32) * a0) + a1))), (0, .ref (ad 0)), (1, .int (a0)), (2, .int (a1)), (3, .int (a2))]) hx hb dX3_lookForPage_54 hl (by decide) rfl (fun ls hl => ?_)
    refine lv_iload_n hx hb dX3_lookForPage_56 rfl (lv_at hl 6 rfl) ?_
    refine lv_if_eq (tgt := 71) hx hb dX3_lookForPage_57 (by decide) (fun h3 => ?_) (fun h3 => ?_)
    · refine lv_lload hx hb dX3_lookForPage_71 (lv_at hl 0 rfl) ?_
      exact retl (u := x) hx hb hr hlocks hK hP hD hS dX3_lookForPage_73 (by unfold fnX3_lookForPage; rw [← q1]; (try dsimp only); rw [if_neg h2]; rw [if_pos h3]; (try exact rfl))
    · refine lv_lload hx hb dX3_lookForPage_60 (lv_at hl 0 rfl) ?_
      refine lv_ldc2 (v := 34359738368) hx hb hown (hG _ kw57) dX3_lookForPage_62 ?_
      refine lv_land hx hb dX3_lookForPage_65 ?_
      refine lv_lconst (v := 0) hx hb dX3_lookForPage_66 (by decide) ?_
      refine lq_ne (tgt := 74) hx hb dX3_lookForPage_67 dX3_lookForPage_68 (by decide) (fun h4 => ?_) (fun h4 => ?_)
      · refine lv_iload hx hb dX3_lookForPage_74 (lv_at hl 1 rfl) ?_
        refine lv_iconst (v := (-1)) hx hb dX3_lookForPage_76 (by decide) ?_
        refine lv_icmp_ne (tgt := 120) hx hb dX3_lookForPage_77 (by decide) (fun _ => ?_) (fun h9 => absurd h9 h2)
        refine lv_aload_n hx hb dX3_lookForPage_120 rfl (lv_at hl 3 rfl) ?_
        refine va_get (D := D) (ci := 3) (v := .ref (ad 6)) hx hb hG inX3 hown hK hP 0 rfl rfl 2 (by decide) (hG _ kw28) (fun _ h9 => h9) rfl dX3_lookForPage_121 ?_
        refine lv_iload hx hb dX3_lookForPage_124 (lv_at hl 1 rfl) ?_
        refine kVv (As := [.int (r1)]) (rest := []) (W' := (fun u5 => (wS cI cJ ad (x.1, x.2.1, u5, x.2.2.2)))) hx hb hml hown hG hl (okX0_moveToFront l D cI cJ cP (ad 6) (ad 7) (ad 8) (ad 9) H.size x.2.2.1 r1 hI.2.2.1 (plI j1 h2)) (cV 1 hG kw52 kw53 kw54 kw55 kw38 hdX0_moveToFront ⟨by decide, by decide⟩) 6 0 rfl rfl hK hP hD hS hA hN [6, 7, 8, 9] rfl rfl rfl (fun _ => rfl) (fun _ => rfl) rfl rfl (Nat.le_of_ble_eq_true rfl) dX3_lookForPage_126 ⟨Nat.zero_le _, Nat.zero_le _⟩ (fun u5 q5 H locs hP hD hS => ?_)
        have j5 : ivX0_moveToFrontP u5 := by rw [q5]; exact ivX0_moveToFront x.2.2.1 r1 hI.2.2.1 (plI j1 h2)
        refine lv_lload hx hb dX3_lookForPage_129 (lv_at hl 0 rfl) ?_
        exact retl (u := (x.1, x.2.1, u5, x.2.2.2)) hx hb hr hlocks hK hP hD hS dX3_lookForPage_131 (by unfold fnX3_lookForPage; rw [← q1]; (try dsimp only); rw [if_neg h2]; rw [if_neg h3]; rw [if_neg h4]; rw [← q5]; (try dsimp only); (try exact rfl))
      · refine lv_lload hx hb dX3_lookForPage_71 (lv_at hl 0 rfl) ?_
        exact retl (u := x) hx hb hr hlocks hK hP hD hS dX3_lookForPage_73 (by unfold fnX3_lookForPage; rw [← q1]; (try dsimp only); rw [if_neg h2]; rw [if_neg h3]; rw [if_pos h4]; (try exact rfl))
  · refine lv_aload_n hx hb dX3_lookForPage_25 rfl (lv_at hl 2 rfl) ?_
    refine va_get (D := D) (ci := 3) (v := .ref (ad 1)) hx hb hG inX3 hown hK hP 0 rfl rfl 0 (by decide) (hG _ kw31) (fun _ h9 => h9) rfl dX3_lookForPage_26 ?_
    refine lv_aload_n hx hb dX3_lookForPage_29 rfl (lv_at hl 2 rfl) ?_
    refine va_get (D := D) (ci := 3) (v := .ref (ad 10)) hx hb hG inX3 hown hK hP 0 rfl rfl 3 (by decide) (hG _ kw32) (fun _ h9 => h9) rfl dX3_lookForPage_30 ?_
    refine va_get (D := D) (ci := 1) (v := .int (x.2.2.2.2.2.1)) hx hb hG inX1 hown hK hP 10 rfl rfl 2 (by decide) (hG _ kw33) (fun _ h9 => h9) rfl dX3_lookForPage_33 ?_
    refine lv_iload_n hx hb dX3_lookForPage_36 rfl (lv_at hl 4 rfl) ?_
    refine k0SNi (As := [.int (x.2.2.2.2.2.1), .int (a1)]) (rest := [.ref (ad 1)]) hx hb hml hown hG hl (okX4_sum l D cI cJ cP  H.size x.2.2.2.2.2.1 a1 ) (cSN 2 hG kw34 (nl5 hN) kw35 kw5 hdX4_sum ⟨by decide, by decide⟩) hK hP hD hS hA hN rfl rfl (Nat.le_of_ble_eq_true rfl) dX3_lookForPage_37 ⟨Nat.zero_le _, Nat.zero_le _⟩ (fun r6 q6 H locs hP hD hS => ?_)
    have j6 : i12 r6 := by rw [q6]; exact (sumX x.2.2.2.2.2.1 a1)
    refine gl (D := D) (j := (r6).toNatClampNeg) (f := x.1) hx hb hK hP 1 1 rfl rfl (in12 j6) rfl dX3_lookForPage_40 ?_
    refine lv_goto (tgt := 54) hx hb dX3_lookForPage_41 (by decide) ?_
    refine lv_lstore (lv' := [(6, .long ((x.1 (r6).toNatClampNeg))), (5, .int (r1)), (4, .int ((((64 : Int32) * a0) + a1))), (0, .ref (ad 0)), (1, .int (a0)), (2, .int (a1)), (3, .int (a2))]) hx hb dX3_lookForPage_54 hl (by decide) rfl (fun ls hl => ?_)
    refine lv_iload_n hx hb dX3_lookForPage_56 rfl (lv_at hl 6 rfl) ?_
    refine lv_if_eq (tgt := 71) hx hb dX3_lookForPage_57 (by decide) (fun h7 => ?_) (fun h7 => ?_)
    · refine lv_lload hx hb dX3_lookForPage_71 (lv_at hl 0 rfl) ?_
      exact retl (u := x) hx hb hr hlocks hK hP hD hS dX3_lookForPage_73 (by unfold fnX3_lookForPage; rw [← q1]; (try dsimp only); rw [if_pos h2]; rw [← q6]; (try dsimp only); rw [if_pos h7]; (try exact rfl))
    · refine lv_lload hx hb dX3_lookForPage_60 (lv_at hl 0 rfl) ?_
      refine lv_ldc2 (v := 34359738368) hx hb hown (hG _ kw57) dX3_lookForPage_62 ?_
      refine lv_land hx hb dX3_lookForPage_65 ?_
      refine lv_lconst (v := 0) hx hb dX3_lookForPage_66 (by decide) ?_
      refine lq_ne (tgt := 74) hx hb dX3_lookForPage_67 dX3_lookForPage_68 (by decide) (fun h8 => ?_) (fun h8 => ?_)
      · refine lv_iload hx hb dX3_lookForPage_74 (lv_at hl 1 rfl) ?_
        refine lv_iconst (v := (-1)) hx hb dX3_lookForPage_76 (by decide) ?_
        refine lv_icmp_ne (tgt := 120) hx hb dX3_lookForPage_77 (by decide) (fun h9 => absurd h2 h9) (fun _ => ?_)
        refine lv_aload_n hx hb dX3_lookForPage_80 rfl (lv_at hl 3 rfl) ?_
        refine va_get (D := D) (ci := 3) (v := .ref (ad 1)) hx hb hG inX3 hown hK hP 0 rfl rfl 0 (by decide) (hG _ kw31) (fun _ h9 => h9) rfl dX3_lookForPage_81 ?_
        refine lv_aload_n hx hb dX3_lookForPage_84 rfl (lv_at hl 3 rfl) ?_
        refine va_get (D := D) (ci := 3) (v := .ref (ad 10)) hx hb hG inX3 hown hK hP 0 rfl rfl 3 (by decide) (hG _ kw32) (fun _ h9 => h9) rfl dX3_lookForPage_85 ?_
        refine va_get (D := D) (ci := 1) (v := .int (x.2.2.2.2.2.1)) hx hb hG inX1 hown hK hP 10 rfl rfl 2 (by decide) (hG _ kw33) (fun _ h9 => h9) rfl dX3_lookForPage_88 ?_
        refine lv_iload_n hx hb dX3_lookForPage_91 rfl (lv_at hl 5 rfl) ?_
        refine k0SNi (As := [.int (x.2.2.2.2.2.1), .int (a1)]) (rest := [.ref (ad 1)]) hx hb hml hown hG hl (okX4_sum l D cI cJ cP  H.size x.2.2.2.2.2.1 a1 ) (cSN 2 hG kw34 (nl5 hN) kw35 kw5 hdX4_sum ⟨by decide, by decide⟩) hK hP hD hS hA hN rfl rfl (Nat.le_of_ble_eq_true rfl) dX3_lookForPage_92 ⟨Nat.zero_le _, Nat.zero_le _⟩ (fun r9 q9 H locs hP hD hS => ?_)
        have z9 : r6 = r9 := q6.trans q9.symm
        subst z9
        refine lv_dup2_11 hx hb dX3_lookForPage_95 rfl rfl ?_
        refine gl (D := D) (j := (r6).toNatClampNeg) (f := x.1) hx hb hK hP 1 1 rfl rfl (in12 j6) rfl dX3_lookForPage_96 ?_
        refine lv_ldc2 (v := 17179869184) hx hb hown (hG _ kw58) dX3_lookForPage_97 ?_
        refine lv_lor hx hb dX3_lookForPage_100 ?_
        refine sl (D := D) (j := (r6).toNatClampNeg) (f := x.1) (x := ((x.1 (r6).toNatClampNeg) ||| (17179869184 : Int64))) (W' := (wS cI cJ ad ((vp_updL x.1 (r6).toNatClampNeg ((x.1 (r6).toNatClampNeg) ||| (17179869184 : Int64))), x.2.1, x.2.2.1, x.2.2.2))) hx hb hK hP hD hS 1 1 rfl rfl (in12 j6) rfl dX3_lookForPage_101 rfl (fun H locs hP hD hS => ?_)
        refine lv_aload_n hx hb dX3_lookForPage_102 rfl (lv_at hl 3 rfl) ?_
        refine va_get (D := D) (ci := 3) (v := .ref (ad 6)) hx hb hG inX3 hown hK hP 0 rfl rfl 2 (by decide) (hG _ kw28) (fun _ h9 => h9) rfl dX3_lookForPage_103 ?_
        refine lv_iload hx hb dX3_lookForPage_106 (lv_at hl 2 rfl) ?_
        refine lv_lload hx hb dX3_lookForPage_108 (lv_at hl 0 rfl) ?_
        refine lv_ldc2 (v := 17179869184) hx hb hown (hG _ kw58) dX3_lookForPage_110 ?_
        refine lv_lor hx hb dX3_lookForPage_113 ?_
        refine lv_lconst (v := 0) hx hb dX3_lookForPage_114 (by decide) ?_
        refine kVi (As := [.int ((((64 : Int32) * a0) + a1)), .long (((x.1 (r6).toNatClampNeg) ||| (17179869184 : Int64))), .long ((0 : Int64))]) (rest := []) (W' := (fun u10 => (wS cI cJ ad ((vp_updL x.1 (r6).toNatClampNeg ((x.1 (r6).toNatClampNeg) ||| (17179869184 : Int64))), x.2.1, u10, x.2.2.2)))) hx hb hml hown hG hl (okX0_add l D cI cJ cP (ad 6) (ad 7) (ad 8) (ad 9) H.size x.2.2.1 (((64 : Int32) * a0) + a1) ((x.1 (r6).toNatClampNeg) ||| (17179869184 : Int64)) (0 : Int64) hI.2.2.1 (orW (hI.1 (r6).toNatClampNeg) (show i36 (17179869184 : Int64) from by decide))) (cV 3 hG kw48 kw49 kw50 kw51 kw38 hdX0_add ⟨by decide, by decide⟩) 6 0 rfl rfl hK hP hD hS hA hN [6, 7, 8, 9] rfl rfl rfl (fun _ => rfl) (fun _ => rfl) rfl rfl (Nat.le_of_ble_eq_true rfl) dX3_lookForPage_115 ⟨Nat.zero_le _, Nat.zero_le _⟩ (fun r10 u10 q10 H locs hP hD hS => ?_)
        have j10 : ivX0_addP (r10, u10) := by rw [q10]; exact ivX0_add x.2.2.1 (((64 : Int32) * a0) + a1) ((x.1 (r6).toNatClampNeg) ||| (17179869184 : Int64)) (0 : Int64) hI.2.2.1 (orW (hI.1 (r6).toNatClampNeg) (show i36 (17179869184 : Int64) from by decide))
        refine lv_istore (lv' := [(5, .int (r10)), (6, .long ((x.1 (r6).toNatClampNeg))), (4, .int ((((64 : Int32) * a0) + a1))), (0, .ref (ad 0)), (1, .int (a0)), (2, .int (a1)), (3, .int (a2))]) hx hb dX3_lookForPage_118 hl (by decide) rfl (fun ls hl => ?_)
        refine lv_aload_n hx hb dX3_lookForPage_120 rfl (lv_at hl 3 rfl) ?_
        refine va_get (D := D) (ci := 3) (v := .ref (ad 6)) hx hb hG inX3 hown hK hP 0 rfl rfl 2 (by decide) (hG _ kw28) (fun _ h9 => h9) rfl dX3_lookForPage_121 ?_
        refine lv_iload hx hb dX3_lookForPage_124 (lv_at hl 0 rfl) ?_
        refine kVv (As := [.int (r10)]) (rest := []) (W' := (fun u11 => (wS cI cJ ad ((vp_updL x.1 (r6).toNatClampNeg ((x.1 (r6).toNatClampNeg) ||| (17179869184 : Int64))), x.2.1, u11, x.2.2.2)))) hx hb hml hown hG hl (okX0_moveToFront l D cI cJ cP (ad 6) (ad 7) (ad 8) (ad 9) H.size u10 r10 j10.2 j10.1) (cV 1 hG kw52 kw53 kw54 kw55 kw38 hdX0_moveToFront ⟨by decide, by decide⟩) 6 0 rfl rfl hK hP hD hS hA hN [6, 7, 8, 9] rfl rfl rfl (fun _ => rfl) (fun _ => rfl) rfl rfl (Nat.le_of_ble_eq_true rfl) dX3_lookForPage_126 ⟨Nat.zero_le _, Nat.zero_le _⟩ (fun u11 q11 H locs hP hD hS => ?_)
        have j11 : ivX0_moveToFrontP u11 := by rw [q11]; exact ivX0_moveToFront u10 r10 j10.2 j10.1
        refine lv_lload hx hb dX3_lookForPage_129 (lv_at hl 1 rfl) ?_
        exact retl (u := ((vp_updL x.1 (r6).toNatClampNeg ((x.1 (r6).toNatClampNeg) ||| (17179869184 : Int64))), x.2.1, u11, x.2.2.2)) hx hb hr hlocks hK hP hD hS dX3_lookForPage_131 (by unfold fnX3_lookForPage; rw [← q1]; (try dsimp only); rw [if_pos h2]; rw [← q6]; (try dsimp only); rw [if_neg h7]; rw [if_neg h8]; rw [← q10]; (try dsimp only); rw [← q11]; (try dsimp only); (try exact rfl))
      · refine lv_lload hx hb dX3_lookForPage_71 (lv_at hl 0 rfl) ?_
        exact retl (u := x) hx hb hr hlocks hK hP hD hS dX3_lookForPage_73 (by unfold fnX3_lookForPage; rw [← q1]; (try dsimp only); rw [if_pos h2]; rw [← q6]; (try dsimp only); rw [if_neg h7]; rw [if_pos h8]; (try exact rfl))
end
section
theorem dX3_locate_0 : decode cX3_locate 0 = .ok (.aload_n 0, 1) := by decide +kernel
theorem dX3_locate_1 : decode cX3_locate 1 = .ok (.iload_n 1, 1) := by decide +kernel
theorem dX3_locate_2 : decode cX3_locate 2 = .ok (.iload 5, 2) := by decide +kernel
theorem dX3_locate_4 : decode cX3_locate 4 = .ok (.invokevirtual 72, 3) := by decide +kernel
theorem dX3_locate_7 : decode cX3_locate 7 = .ok (.pop, 1) := by decide +kernel
theorem dX3_locate_8 : decode cX3_locate 8 = .ok (.aload_n 0, 1) := by decide +kernel
theorem dX3_locate_9 : decode cX3_locate 9 = .ok (.getfield 28, 3) := by decide +kernel
theorem dX3_locate_12 : decode cX3_locate 12 = .ok (.iload_n 2, 1) := by decide +kernel
theorem dX3_locate_13 : decode cX3_locate 13 = .ok (.iload_n 3, 1) := by decide +kernel
theorem dX3_locate_14 : decode cX3_locate 14 = .ok (.iload 4, 2) := by decide +kernel
theorem dX3_locate_16 : decode cX3_locate 16 = .ok (.invokevirtual 76, 3) := by decide +kernel
theorem dX3_locate_19 : decode cX3_locate 19 = .ok (.istore 6, 2) := by decide +kernel
theorem dX3_locate_21 : decode cX3_locate 21 = .ok (.iload 6, 2) := by decide +kernel
theorem dX3_locate_23 : decode cX3_locate 23 = .ok (.ifCond .eq 8, 3) := by decide +kernel
theorem dX3_locate_26 : decode cX3_locate 26 = .ok (.iconst (-1), 1) := by decide +kernel
theorem dX3_locate_27 : decode cX3_locate 27 = .ok (.iload 6, 2) := by decide +kernel
theorem dX3_locate_29 : decode cX3_locate 29 = .ok (.isub, 1) := by decide +kernel
theorem dX3_locate_30 : decode cX3_locate 30 = .ok (.ireturn, 1) := by decide +kernel
theorem dX3_locate_31 : decode cX3_locate 31 = .ok (.aload_n 0, 1) := by decide +kernel
theorem dX3_locate_32 : decode cX3_locate 32 = .ok (.getfield 28, 3) := by decide +kernel
theorem dX3_locate_35 : decode cX3_locate 35 = .ok (.getfield 52, 3) := by decide +kernel
theorem dX3_locate_38 : decode cX3_locate 38 = .ok (.ifCond .ne 15, 3) := by decide +kernel
theorem dX3_locate_41 : decode cX3_locate 41 = .ok (.aload_n 0, 1) := by decide +kernel
theorem dX3_locate_42 : decode cX3_locate 42 = .ok (.getfield 28, 3) := by decide +kernel
theorem dX3_locate_45 : decode cX3_locate 45 = .ok (.getfield 65, 3) := by decide +kernel
theorem dX3_locate_48 : decode cX3_locate 48 = .ok (.iload_n 2, 1) := by decide +kernel
theorem dX3_locate_49 : decode cX3_locate 49 = .ok (.invokestatic 68, 3) := by decide +kernel
theorem dX3_locate_52 : decode cX3_locate 52 = .ok (.ireturn, 1) := by decide +kernel
theorem dX3_locate_53 : decode cX3_locate 53 = .ok (.aload_n 0, 1) := by decide +kernel
theorem dX3_locate_54 : decode cX3_locate 54 = .ok (.iload_n 1, 1) := by decide +kernel
theorem dX3_locate_55 : decode cX3_locate 55 = .ok (.iload_n 2, 1) := by decide +kernel
theorem dX3_locate_56 : decode cX3_locate 56 = .ok (.bipush 64, 2) := by decide +kernel
theorem dX3_locate_58 : decode cX3_locate 58 = .ok (.idiv, 1) := by decide +kernel
theorem dX3_locate_59 : decode cX3_locate 59 = .ok (.iload 5, 2) := by decide +kernel
theorem dX3_locate_61 : decode cX3_locate 61 = .ok (.invokevirtual 80, 3) := by decide +kernel
theorem dX3_locate_64 : decode cX3_locate 64 = .ok (.lstore 7, 2) := by decide +kernel
theorem dX3_locate_66 : decode cX3_locate 66 = .ok (.lload 7, 2) := by decide +kernel
theorem dX3_locate_68 : decode cX3_locate 68 = .ok (.ldc2_w 84, 3) := by decide +kernel
theorem dX3_locate_71 : decode cX3_locate 71 = .ok (.land, 1) := by decide +kernel
theorem dX3_locate_72 : decode cX3_locate 72 = .ok (.lconst 0, 1) := by decide +kernel
theorem dX3_locate_73 : decode cX3_locate 73 = .ok (.lcmp, 1) := by decide +kernel
theorem dX3_locate_74 : decode cX3_locate 74 = .ok (.ifCond .ne 6, 3) := by decide +kernel
theorem dX3_locate_77 : decode cX3_locate 77 = .ok (.bipush (-3), 2) := by decide +kernel
theorem dX3_locate_79 : decode cX3_locate 79 = .ok (.ireturn, 1) := by decide +kernel
theorem dX3_locate_80 : decode cX3_locate 80 = .ok (.lload 7, 2) := by decide +kernel
theorem dX3_locate_82 : decode cX3_locate 82 = .ok (.ldc2_w 86, 3) := by decide +kernel
theorem dX3_locate_85 : decode cX3_locate 85 = .ok (.lrem, 1) := by decide +kernel
theorem dX3_locate_86 : decode cX3_locate 86 = .ok (.l2i, 1) := by decide +kernel
theorem dX3_locate_87 : decode cX3_locate 87 = .ok (.bipush 64, 2) := by decide +kernel
theorem dX3_locate_89 : decode cX3_locate 89 = .ok (.imul, 1) := by decide +kernel
theorem dX3_locate_90 : decode cX3_locate 90 = .ok (.iload_n 2, 1) := by decide +kernel
theorem dX3_locate_91 : decode cX3_locate 91 = .ok (.bipush 64, 2) := by decide +kernel
theorem dX3_locate_93 : decode cX3_locate 93 = .ok (.irem, 1) := by decide +kernel
theorem dX3_locate_94 : decode cX3_locate 94 = .ok (.iadd, 1) := by decide +kernel
theorem dX3_locate_95 : decode cX3_locate 95 = .ok (.ireturn, 1) := by decide +kernel
theorem kw59 : Cond.code yX3_lookForDescriptor cX3_lookForDescriptor 8 (some (.object "RingProcessor$Descriptor")) ∈ gG := inG 395 (by decide +kernel) (by decide +kernel)
theorem kw60 : Cond.initialized RX3 ∈ gG := inG 44 (by decide +kernel) (by decide +kernel)
theorem kw61 : Cond.methodLink RX3 72 yX3_lookForDescriptor ∈ gG := inG 392 (by decide +kernel) (by decide +kernel)
theorem kw62 : Cond.instanceMethod yX3_lookForDescriptor ∈ gG := inG 393 (by decide +kernel) (by decide +kernel)
theorem kw63 : Cond.selects RX3 yX3_lookForDescriptor yX3_lookForDescriptor ∈ gG := inG 394 (by decide +kernel) (by decide +kernel)
theorem kw64 : Cond.code yX1_refusal cX1_refusal 5 (some .int) ∈ gG := inG 420 (by decide +kernel) (by decide +kernel)
theorem kw65 : Cond.methodLink RX3 76 yX1_refusal ∈ gG := inG 417 (by decide +kernel) (by decide +kernel)
theorem kw66 : Cond.instanceMethod yX1_refusal ∈ gG := inG 418 (by decide +kernel) (by decide +kernel)
theorem kw67 : Cond.selects RX1 yX1_refusal yX1_refusal ∈ gG := inG 419 (by decide +kernel) (by decide +kernel)
theorem kw68 : Cond.fieldLink RX3 52 RX1 "isPaged" "Z" ∈ gG := inG 102 (by decide +kernel) (by decide +kernel)
theorem kw69 : Cond.code yX3_lookForPage cX3_lookForPage 8 (some .long) ∈ gG := inG 427 (by decide +kernel) (by decide +kernel)
theorem kw70 : Cond.methodLink RX3 80 yX3_lookForPage ∈ gG := inG 424 (by decide +kernel) (by decide +kernel)
theorem kw71 : Cond.instanceMethod yX3_lookForPage ∈ gG := inG 426 (by decide +kernel) (by decide +kernel)
theorem kw72 : Cond.selects RX3 yX3_lookForPage yX3_lookForPage ∈ gG := inG 3 (by decide +kernel) (by decide +kernel)
theorem kw73 : Cond.constantLong RX3 86 64 ∈ gG := inG 430 (by decide +kernel) (by decide +kernel)
theorem hdX3_lookForDescriptor : yX3_lookForDescriptor.cls ≠ "java/lang/invoke/MethodHandle" ∧ yX3_lookForDescriptor.cls ≠ "java/lang/invoke/VarHandle" ∧ (parseMethodDescriptor yX3_lookForDescriptor.desc).map (fun d => d.parameters.length) = some 2 := by decide +kernel
theorem hdX1_refusal : yX1_refusal.cls ≠ "java/lang/invoke/MethodHandle" ∧ yX1_refusal.cls ≠ "java/lang/invoke/VarHandle" ∧ (parseMethodDescriptor yX1_refusal.desc).map (fun d => d.parameters.length) = some 3 := by decide +kernel
theorem hdX3_lookForPage : yX3_lookForPage.cls ≠ "java/lang/invoke/MethodHandle" ∧ yX3_lookForPage.cls ≠ "java/lang/invoke/VarHandle" ∧ (parseMethodDescriptor yX3_lookForPage.desc).map (fun d => d.parameters.length) = some 3 := by decide +kernel
end
section
def fnX3_locate (x : TS) (a0 : Int32) (a1 : Int32) (a2 : Int32) (a3 : Int32) (a4 : Int32) : Int32 × TS :=
  let p1 := fnX3_lookForDescriptor x a0 a4
  let p2 := fnX1_refusal p1.2.2.2 a1 a2 a3
  if p2 = (0 : Int32) then
   if p1.2.2.2.2.1 = (0 : Int32) then
    let p7 := fnX4_sum p1.2.2.2.2.2.1 a1
    (p7, p1)
   else
    let p5 := fnX3_lookForPage p1 a0 (a1 / (64 : Int32)) a4
    if (p5.1 &&& (34359738368 : Int64)) = (0 : Int64) then
     ((-3 : Int32), p5.2)
    else
     (((((p5.1 - p5.1 / (64 : Int64) * (64 : Int64))).toInt32 * (64 : Int32)) + (a1 - a1 / (64 : Int32) * (64 : Int32))), p5.2)
  else
   (((-1 : Int32) - p2), p1)
abbrev ivX3_locateP (z : Int32 × TS) : Prop := iloc z.1 ∧ iS z.2
set_option maxRecDepth 100000 in
set_option maxHeartbeats 4000000 in
theorem ivX3_locate (x : TS) (a0 : Int32) (a1 : Int32) (a2 : Int32) (a3 : Int32) (a4 : Int32) (hI : iS x) (g0 : i4 a0) (g1 : i12 a1) : ivX3_locateP (fnX3_locate x a0 a1 a2 a3 a4) := by
  unfold fnX3_locate
  try dsimp only
  have j1 : ivX3_lookForDescriptorP (fnX3_lookForDescriptor x a0 a4) := ivX3_lookForDescriptor x a0 a4 hI g0
  generalize fnX3_lookForDescriptor x a0 a4 = p1 at j1 ⊢
  have j2 : ivX1_refusalP (fnX1_refusal p1.2.2.2 a1 a2 a3) := ivX1_refusal p1.2.2.2 a1 a2 a3 j1.2.2.2
  generalize fnX1_refusal p1.2.2.2 a1 a2 a3 = p2 at j2 ⊢
  refine iteI (fun h3 => ?_) (fun h3 => ?_)
  · refine iteI (fun h4 => ?_) (fun h4 => ?_)
    · have j7 : i12 (fnX4_sum p1.2.2.2.2.2.1 a1) := (sumX p1.2.2.2.2.2.1 a1)
      generalize fnX4_sum p1.2.2.2.2.2.1 a1 = p7 at j7 ⊢
      exact ⟨(Or.inr j7), j1⟩
    · have j5 : ivX3_lookForPageP (fnX3_lookForPage p1 a0 (a1 / (64 : Int32)) a4) := ivX3_lookForPage p1 a0 (a1 / (64 : Int32)) a4 j1
      generalize fnX3_lookForPage p1 a0 (a1 / (64 : Int32)) a4 = p5 at j5 ⊢
      refine iteI (fun h6 => ?_) (fun h6 => ?_)
      · exact ⟨(Or.inl (Or.inr (Or.inl rfl))), j5.2⟩
      · exact ⟨(Or.inr (pgI j5.1 g1)), j5.2⟩
  · exact ⟨(Or.inl (rfN j2 h3)), j1⟩
set_option maxRecDepth 100000 in
set_option maxHeartbeats 4000000 in
theorem okX3_locate (l : Launch) (D : va_G) (cI cJ cP : ClassId) (ad : Nat → Nat) (sz : Nat) (x : TS) (a0 : Int32) (a1 : Int32) (a2 : Int32) (a3 : Int32) (a4 : Int32) (hI : iS x) (g0 : i4 a0) (g1 : i12 a1) : Met l yX3_locate (Cond.code yX3_locate cX3_locate 9 (some .int) :: gG) { frames := 2, cells := 0, slots := 0, locals := 54 } (va_Pc [.ref (ad 0), .int a0, .int a1, .int a2, .int a3, .int a4] (PRE D (tz cI cJ cP) sz (wS cI cJ ad x))) (va_Qi (fun (r : Int32) (u : TS) => (r, u) = fnX3_locate x a0 a1 a2 a3 a4) (AT D (tz cI cJ cP) (va_A (wS cI cJ ad x) sz) (fun (u : TS) => (wS cI cJ ad u))) (va_A (wS cI cJ ad x) sz)) 0 0 (va_A (wS cI cJ ad x) sz) := by
  refine mo (QA := fun A => va_Qi (fun (r : Int32) (u : TS) => (r, u) = fnX3_locate x a0 a1 a2 a3 a4) (AT D (tz cI cJ cP) A (fun (u : TS) => (wS cI cJ ad u))) A) (by decide) (Nat.le_of_ble_eq_true rfl) ?_
  intro p e s m below meth c A ls H hx hb hr hml hown hG hlocks hnm hA hS hP hK hD hl hN
  have hown : s.vm.findClass RX3 = some m.cls := hown
  have hl : lv_has ls 9 [(0, .ref (ad 0)), (1, .int a0), (2, .int a1), (3, .int a2), (4, .int a3), (5, .int a4)] := hl
  refine lv_aload_n hx hb dX3_locate_0 rfl (lv_at hl 0 rfl) ?_
  refine lv_iload_n hx hb dX3_locate_1 rfl (lv_at hl 1 rfl) ?_
  refine lv_iload hx hb dX3_locate_2 (lv_at hl 5 rfl) ?_
  refine kFr (As := [.int (a0), .int (a4)]) (rest := []) hx hb hml hown hG hl (okX3_lookForDescriptor l D cI cJ cP ad H.size x a0 a4 hI g0) (cV 2 hG kw59 kw61 kw62 kw63 kw60 hdX3_lookForDescriptor ⟨by decide, by decide⟩) 0 3 rfl rfl hK hP hD hS hA hN rfl rfl (Nat.le_of_ble_eq_true rfl) dX3_locate_4 ⟨Nat.zero_le _, Nat.zero_le _⟩ (fun u1 q1 H locs hP hD hS => ?_)
  have j1 : ivX3_lookForDescriptorP u1 := by rw [q1]; exact ivX3_lookForDescriptor x a0 a4 hI g0
  refine lv_pop hx hb dX3_locate_7 rfl ?_
  refine lv_aload_n hx hb dX3_locate_8 rfl (lv_at hl 0 rfl) ?_
  refine va_get (D := D) (ci := 3) (v := .ref (ad 10)) hx hb hG inX3 hown hK hP 0 rfl rfl 3 (by decide) (hG _ kw32) (fun _ h9 => h9) rfl dX3_locate_9 ?_
  refine lv_iload_n hx hb dX3_locate_12 rfl (lv_at hl 2 rfl) ?_
  refine lv_iload_n hx hb dX3_locate_13 rfl (lv_at hl 3 rfl) ?_
  refine lv_iload hx hb dX3_locate_14 (lv_at hl 4 rfl) ?_
  refine kVi (As := [.int (a1), .int (a2), .int (a3)]) (rest := []) (W' := (fun _ => (wS cI cJ ad u1))) hx hb hml hown hG hl (okX1_refusal l D cI cJ cP (ad 10) H.size u1.2.2.2 a1 a2 a3 j1.2.2.2) (cV 3 hG kw64 kw65 kw66 kw67 kw43 hdX1_refusal ⟨by decide, by decide⟩) 10 1 rfl rfl hK hP hD hS hA hN [10] rfl rfl rfl (fun _ => rfl) (fun _ => rfl) rfl rfl (Nat.le_of_ble_eq_true rfl) dX3_locate_16 ⟨Nat.zero_le _, Nat.zero_le _⟩ (fun r2 _ q2 H locs hP hD hS => ?_)
  have j2 : ivX1_refusalP r2 := by rw [q2]; exact ivX1_refusal u1.2.2.2 a1 a2 a3 j1.2.2.2
  refine lv_istore (lv' := [(6, .int (r2)), (0, .ref (ad 0)), (1, .int (a0)), (2, .int (a1)), (3, .int (a2)), (4, .int (a3)), (5, .int (a4))]) hx hb dX3_locate_19 hl (by decide) rfl (fun ls hl => ?_)
  refine lv_iload hx hb dX3_locate_21 (lv_at hl 0 rfl) ?_
  refine lv_if_eq (tgt := 31) hx hb dX3_locate_23 (by decide) (fun h3 => ?_) (fun h3 => ?_)
  · refine lv_aload_n hx hb dX3_locate_31 rfl (lv_at hl 1 rfl) ?_
    refine va_get (D := D) (ci := 3) (v := .ref (ad 10)) hx hb hG inX3 hown hK hP 0 rfl rfl 3 (by decide) (hG _ kw32) (fun _ h9 => h9) rfl dX3_locate_32 ?_
    refine va_get (D := D) (ci := 1) (v := .int (u1.2.2.2.2.1)) hx hb hG inX1 hown hK hP 10 rfl rfl 1 (by decide) (hG _ kw68) (fun _ h9 => h9) rfl dX3_locate_35 ?_
    refine lv_if_ne (tgt := 53) hx hb dX3_locate_38 (by decide) (fun h4 => ?_) (fun h4 => ?_)
    · refine lv_aload_n hx hb dX3_locate_53 rfl (lv_at hl 1 rfl) ?_
      refine lv_iload_n hx hb dX3_locate_54 rfl (lv_at hl 2 rfl) ?_
      refine lv_iload_n hx hb dX3_locate_55 rfl (lv_at hl 3 rfl) ?_
      refine lv_bipush (v := 64) hx hb dX3_locate_56 (by decide) ?_
      refine lv_idiv hx hb dX3_locate_58 (by decide) ?_
      refine lv_iload hx hb dX3_locate_59 (lv_at hl 6 rfl) ?_
      refine kFl (As := [.int (a0), .int ((a1 / (64 : Int32))), .int (a4)]) (rest := []) hx hb hml hown hG hl (okX3_lookForPage l D cI cJ cP ad H.size u1 a0 (a1 / (64 : Int32)) a4 j1) (cV 3 hG kw69 kw70 kw71 kw72 kw60 hdX3_lookForPage ⟨by decide, by decide⟩) 0 3 rfl rfl hK hP hD hS hA hN rfl rfl (Nat.le_of_ble_eq_true rfl) dX3_locate_61 ⟨Nat.zero_le _, Nat.zero_le _⟩ (fun r5 u5 q5 H locs hP hD hS => ?_)
      have j5 : ivX3_lookForPageP (r5, u5) := by rw [q5]; exact ivX3_lookForPage u1 a0 (a1 / (64 : Int32)) a4 j1
      refine lv_lstore (lv' := [(7, .long (r5)), (6, .int (r2)), (0, .ref (ad 0)), (1, .int (a0)), (2, .int (a1)), (3, .int (a2)), (4, .int (a3)), (5, .int (a4))]) hx hb dX3_locate_64 hl (by decide) rfl (fun ls hl => ?_)
      refine lv_lload hx hb dX3_locate_66 (lv_at hl 0 rfl) ?_
      refine lv_ldc2 (v := 34359738368) hx hb hown (hG _ kw57) dX3_locate_68 ?_
      refine lv_land hx hb dX3_locate_71 ?_
      refine lv_lconst (v := 0) hx hb dX3_locate_72 (by decide) ?_
      refine lq_ne (tgt := 80) hx hb dX3_locate_73 dX3_locate_74 (by decide) (fun h6 => ?_) (fun h6 => ?_)
      · refine lv_lload hx hb dX3_locate_80 (lv_at hl 0 rfl) ?_
        refine lv_ldc2 (v := 64) hx hb hown (hG _ kw73) dX3_locate_82 ?_
        refine lv_lrem hx hb dX3_locate_85 (by decide) ?_
        refine lv_l2i hx hb dX3_locate_86 rfl ?_
        refine lv_bipush (v := 64) hx hb dX3_locate_87 (by decide) ?_
        refine lv_imul hx hb dX3_locate_89 ?_
        refine lv_iload_n hx hb dX3_locate_90 rfl (lv_at hl 4 rfl) ?_
        refine lv_bipush (v := 64) hx hb dX3_locate_91 (by decide) ?_
        refine lv_irem hx hb dX3_locate_93 (by decide) ?_
        refine lv_iadd hx hb dX3_locate_94 ?_
        exact reti (u := u5) hx hb hr hlocks hK hP hD hS dX3_locate_95 (by unfold fnX3_locate; rw [← q1]; (try dsimp only); rw [← q2]; (try dsimp only); rw [if_pos h3]; rw [if_neg h4]; rw [← q5]; (try dsimp only); rw [if_neg h6]; (try exact rfl))
      · refine lv_bipush (v := (-3)) hx hb dX3_locate_77 (by decide) ?_
        exact reti (u := u5) hx hb hr hlocks hK hP hD hS dX3_locate_79 (by unfold fnX3_locate; rw [← q1]; (try dsimp only); rw [← q2]; (try dsimp only); rw [if_pos h3]; rw [if_neg h4]; rw [← q5]; (try dsimp only); rw [if_pos h6]; (try exact rfl))
    · refine lv_aload_n hx hb dX3_locate_41 rfl (lv_at hl 1 rfl) ?_
      refine va_get (D := D) (ci := 3) (v := .ref (ad 10)) hx hb hG inX3 hown hK hP 0 rfl rfl 3 (by decide) (hG _ kw32) (fun _ h9 => h9) rfl dX3_locate_42 ?_
      refine va_get (D := D) (ci := 1) (v := .int (u1.2.2.2.2.2.1)) hx hb hG inX1 hown hK hP 10 rfl rfl 2 (by decide) (hG _ kw33) (fun _ h9 => h9) rfl dX3_locate_45 ?_
      refine lv_iload_n hx hb dX3_locate_48 rfl (lv_at hl 3 rfl) ?_
      refine k0SNi (As := [.int (u1.2.2.2.2.2.1), .int (a1)]) (rest := []) hx hb hml hown hG hl (okX4_sum l D cI cJ cP  H.size u1.2.2.2.2.2.1 a1 ) (cSN 2 hG kw34 (nl5 hN) kw35 kw5 hdX4_sum ⟨by decide, by decide⟩) hK hP hD hS hA hN rfl rfl (Nat.le_of_ble_eq_true rfl) dX3_locate_49 ⟨Nat.zero_le _, Nat.zero_le _⟩ (fun r7 q7 H locs hP hD hS => ?_)
      have j7 : i12 r7 := by rw [q7]; exact (sumX u1.2.2.2.2.2.1 a1)
      exact reti (u := u1) hx hb hr hlocks hK hP hD hS dX3_locate_52 (by unfold fnX3_locate; rw [← q1]; (try dsimp only); rw [← q2]; (try dsimp only); rw [if_pos h3]; rw [if_pos h4]; rw [← q7]; (try dsimp only); (try exact rfl))
  · refine lv_iconst (v := (-1)) hx hb dX3_locate_26 (by decide) ?_
    refine lv_iload hx hb dX3_locate_27 (lv_at hl 0 rfl) ?_
    refine lv_isub hx hb dX3_locate_29 ?_
    exact reti (u := u1) hx hb hr hlocks hK hP hD hS dX3_locate_30 (by unfold fnX3_locate; rw [← q1]; (try dsimp only); rw [← q2]; (try dsimp only); rw [if_neg h3]; (try exact rfl))
end
section
theorem dX3_read_0 : decode cX3_read 0 = .ok (.aload_n 0, 1) := by decide +kernel
theorem dX3_read_1 : decode cX3_read 1 = .ok (.aload_n 1, 1) := by decide +kernel
theorem dX3_read_2 : decode cX3_read 2 = .ok (.getfield 32, 3) := by decide +kernel
theorem dX3_read_5 : decode cX3_read 5 = .ok (.aload_n 1, 1) := by decide +kernel
theorem dX3_read_6 : decode cX3_read 6 = .ok (.getfield 38, 3) := by decide +kernel
theorem dX3_read_9 : decode cX3_read 9 = .ok (.aload_n 1, 1) := by decide +kernel
theorem dX3_read_10 : decode cX3_read 10 = .ok (.getfield 41, 3) := by decide +kernel
theorem dX3_read_13 : decode cX3_read 13 = .ok (.iload_n 2, 1) := by decide +kernel
theorem dX3_read_14 : decode cX3_read 14 = .ok (.iconst 1, 1) := by decide +kernel
theorem dX3_read_15 : decode cX3_read 15 = .ok (.invokevirtual 44, 3) := by decide +kernel
theorem dX3_read_18 : decode cX3_read 18 = .ok (.istore_n 3, 1) := by decide +kernel
theorem dX3_read_19 : decode cX3_read 19 = .ok (.iload_n 3, 1) := by decide +kernel
theorem dX3_read_20 : decode cX3_read 20 = .ok (.ifCond .ge 8, 3) := by decide +kernel
theorem dX3_read_23 : decode cX3_read 23 = .ok (.iload_n 3, 1) := by decide +kernel
theorem dX3_read_24 : decode cX3_read 24 = .ok (.i2l, 1) := by decide +kernel
theorem dX3_read_25 : decode cX3_read 25 = .ok (.goto 9, 3) := by decide +kernel
theorem dX3_read_28 : decode cX3_read 28 = .ok (.aload_n 0, 1) := by decide +kernel
theorem dX3_read_29 : decode cX3_read 29 = .ok (.getfield 9, 3) := by decide +kernel
theorem dX3_read_32 : decode cX3_read 32 = .ok (.iload_n 3, 1) := by decide +kernel
theorem dX3_read_33 : decode cX3_read 33 = .ok (.laload, 1) := by decide +kernel
theorem dX3_read_34 : decode cX3_read 34 = .ok (.lreturn, 1) := by decide +kernel
theorem dX3_write_0 : decode cX3_write 0 = .ok (.aload_n 0, 1) := by decide +kernel
theorem dX3_write_1 : decode cX3_write 1 = .ok (.aload_n 1, 1) := by decide +kernel
theorem dX3_write_2 : decode cX3_write 2 = .ok (.getfield 32, 3) := by decide +kernel
theorem dX3_write_5 : decode cX3_write 5 = .ok (.aload_n 1, 1) := by decide +kernel
theorem dX3_write_6 : decode cX3_write 6 = .ok (.getfield 38, 3) := by decide +kernel
theorem dX3_write_9 : decode cX3_write 9 = .ok (.aload_n 1, 1) := by decide +kernel
theorem dX3_write_10 : decode cX3_write 10 = .ok (.getfield 41, 3) := by decide +kernel
theorem dX3_write_13 : decode cX3_write 13 = .ok (.iconst 1, 1) := by decide +kernel
theorem dX3_write_14 : decode cX3_write 14 = .ok (.iconst 1, 1) := by decide +kernel
theorem dX3_write_15 : decode cX3_write 15 = .ok (.invokevirtual 44, 3) := by decide +kernel
theorem dX3_write_18 : decode cX3_write 18 = .ok (.istore 4, 2) := by decide +kernel
theorem dX3_write_20 : decode cX3_write 20 = .ok (.iload 4, 2) := by decide +kernel
theorem dX3_write_22 : decode cX3_write 22 = .ok (.ifCond .ge 10, 3) := by decide +kernel
theorem dX3_write_25 : decode cX3_write 25 = .ok (.iload 4, 2) := by decide +kernel
theorem dX3_write_27 : decode cX3_write 27 = .ok (.i2l, 1) := by decide +kernel
theorem dX3_write_28 : decode cX3_write 28 = .ok (.invokestatic 48, 3) := by decide +kernel
theorem dX3_write_31 : decode cX3_write 31 = .ok (.ireturn, 1) := by decide +kernel
theorem dX3_write_32 : decode cX3_write 32 = .ok (.aload_n 0, 1) := by decide +kernel
theorem dX3_write_33 : decode cX3_write 33 = .ok (.getfield 28, 3) := by decide +kernel
theorem dX3_write_36 : decode cX3_write 36 = .ok (.getfield 52, 3) := by decide +kernel
theorem dX3_write_39 : decode cX3_write 39 = .ok (.ifCond .eq 14, 3) := by decide +kernel
theorem dX3_write_42 : decode cX3_write 42 = .ok (.aload_n 0, 1) := by decide +kernel
theorem dX3_write_43 : decode cX3_write 43 = .ok (.aload_n 1, 1) := by decide +kernel
theorem dX3_write_44 : decode cX3_write 44 = .ok (.getfield 38, 3) := by decide +kernel
theorem dX3_write_47 : decode cX3_write 47 = .ok (.bipush 64, 2) := by decide +kernel
theorem dX3_write_49 : decode cX3_write 49 = .ok (.idiv, 1) := by decide +kernel
theorem dX3_write_50 : decode cX3_write 50 = .ok (.invokevirtual 56, 3) := by decide +kernel
theorem dX3_write_53 : decode cX3_write 53 = .ok (.aload_n 0, 1) := by decide +kernel
theorem dX3_write_54 : decode cX3_write 54 = .ok (.getfield 9, 3) := by decide +kernel
theorem dX3_write_57 : decode cX3_write 57 = .ok (.iload 4, 2) := by decide +kernel
theorem dX3_write_59 : decode cX3_write 59 = .ok (.lload_n 2, 1) := by decide +kernel
theorem dX3_write_60 : decode cX3_write 60 = .ok (.lastore, 1) := by decide +kernel
theorem dX3_write_61 : decode cX3_write 61 = .ok (.iconst 0, 1) := by decide +kernel
theorem dX3_write_62 : decode cX3_write 62 = .ok (.ireturn, 1) := by decide +kernel
theorem kw74 : Cond.fieldLink RX3 32 RX2 "segment" "I" ∈ gG := inG 163 (by decide +kernel) (by decide +kernel)
theorem kw75 : Cond.fieldLink RX3 38 RX2 "word" "I" ∈ gG := inG 165 (by decide +kernel) (by decide +kernel)
theorem kw76 : Cond.fieldLink RX3 41 RX2 "ring" "I" ∈ gG := inG 168 (by decide +kernel) (by decide +kernel)
theorem kw77 : Cond.code yX3_locate cX3_locate 9 (some .int) ∈ gG := inG 391 (by decide +kernel) (by decide +kernel)
theorem kw78 : Cond.methodLink RX3 44 yX3_locate ∈ gG := inG 388 (by decide +kernel) (by decide +kernel)
theorem kw79 : Cond.instanceMethod yX3_locate ∈ gG := inG 389 (by decide +kernel) (by decide +kernel)
theorem kw80 : Cond.selects RX3 yX3_locate yX3_locate ∈ gG := inG 390 (by decide +kernel) (by decide +kernel)
theorem kw81 : Cond.code yX3_markChanged cX3_markChanged 2 none ∈ gG := inG 494 (by decide +kernel) (by decide +kernel)
theorem kw82 : Cond.methodLink RX3 56 yX3_markChanged ∈ gG := inG 491 (by decide +kernel) (by decide +kernel)
theorem kw83 : Cond.instanceMethod yX3_markChanged ∈ gG := inG 493 (by decide +kernel) (by decide +kernel)
theorem kw84 : Cond.selects RX3 yX3_markChanged yX3_markChanged ∈ gG := inG 14 (by decide +kernel) (by decide +kernel)
theorem kw85 : Cond.code yX4_faultOf cX4_faultOf 2 (some .int) ∈ gG := inG 433 (by decide +kernel) (by decide +kernel)
theorem kw86 : Cond.static yX4_faultOf ∈ gG := inG 432 (by decide +kernel) (by decide +kernel)
theorem hdX3_locate : yX3_locate.cls ≠ "java/lang/invoke/MethodHandle" ∧ yX3_locate.cls ≠ "java/lang/invoke/VarHandle" ∧ (parseMethodDescriptor yX3_locate.desc).map (fun d => d.parameters.length) = some 5 := by decide +kernel
theorem hdX3_markChanged : yX3_markChanged.cls ≠ "java/lang/invoke/MethodHandle" ∧ yX3_markChanged.cls ≠ "java/lang/invoke/VarHandle" ∧ (parseMethodDescriptor yX3_markChanged.desc).map (fun d => d.parameters.length) = some 1 := by decide +kernel
theorem hdX4_faultOf : yX4_faultOf.cls ≠ "java/lang/invoke/MethodHandle" ∧ yX4_faultOf.cls ≠ "java/lang/invoke/VarHandle" ∧ (parseMethodDescriptor yX4_faultOf.desc).map (fun d => d.parameters.length) = some 1 := by decide +kernel
end
section
def fnX3_read (x : TS) (y : TP) (a1 : Int32) : Int64 × TS :=
  let p1 := fnX3_locate x y.1 y.2.1 y.2.2 a1 (1 : Int32)
  if (0 : Int32) ≤ p1.1 then
   ((p1.2.1 (p1.1).toNatClampNeg), p1.2)
  else
   ((p1.1).toInt64, p1.2)
abbrev ivX3_readP (z : Int64 × TS) : Prop := ird z.1 ∧ iS z.2
set_option maxRecDepth 100000 in
set_option maxHeartbeats 4000000 in
theorem ivX3_read (x : TS) (y : TP) (a1 : Int32) (hI : iS x) (hJ : iP y) : ivX3_readP (fnX3_read x y a1) := by
  unfold fnX3_read
  try dsimp only
  have j1 : ivX3_locateP (fnX3_locate x y.1 y.2.1 y.2.2 a1 (1 : Int32)) := ivX3_locate x y.1 y.2.1 y.2.2 a1 (1 : Int32) hI hJ.1 hJ.2.1
  generalize fnX3_locate x y.1 y.2.1 y.2.2 a1 (1 : Int32) = p1 at j1 ⊢
  refine iteI (fun h2 => ?_) (fun h2 => ?_)
  · exact ⟨(Or.inr (j1.2.1 (p1.1).toNatClampNeg)), j1.2⟩
  · exact ⟨(i2lN j1.1 (Int32.not_le.mp h2)), j1.2⟩
set_option maxRecDepth 100000 in
set_option maxHeartbeats 4000000 in
theorem okX3_read (l : Launch) (D : va_G) (cI cJ cP : ClassId) (ad : Nat → Nat) (sz : Nat) (x : TS) (y : TP) (a1 : Int32) (hI : iS x) (hJ : iP y) : Met l yX3_read (Cond.code yX3_read cX3_read 4 (some .long) :: gG) { frames := 3, cells := 0, slots := 0, locals := 82 } (va_Pc [.ref (ad 0), .ref (ad 11), .int a1] (PRE D (tz cI cJ cP) sz (wSP cI cJ ad x y))) (va_Ql (fun (r : Int64) (u : TS) => (r, u) = fnX3_read x y a1) (AT D (tz cI cJ cP) (va_A (wSP cI cJ ad x y) sz) (fun (u : TS) => (wSP cI cJ ad u y))) (va_A (wSP cI cJ ad x y) sz)) 0 0 (va_A (wSP cI cJ ad x y) sz) := by
  refine mo (QA := fun A => va_Ql (fun (r : Int64) (u : TS) => (r, u) = fnX3_read x y a1) (AT D (tz cI cJ cP) A (fun (u : TS) => (wSP cI cJ ad u y))) A) (by decide) (Nat.le_of_ble_eq_true rfl) ?_
  intro p e s m below meth c A ls H hx hb hr hml hown hG hlocks hnm hA hS hP hK hD hl hN
  have hown : s.vm.findClass RX3 = some m.cls := hown
  have hl : lv_has ls 4 [(0, .ref (ad 0)), (1, .ref (ad 11)), (2, .int a1)] := hl
  refine lv_aload_n hx hb dX3_read_0 rfl (lv_at hl 0 rfl) ?_
  refine lv_aload_n hx hb dX3_read_1 rfl (lv_at hl 1 rfl) ?_
  refine va_get (D := D) (ci := 2) (v := .int (y.1)) hx hb hG inX2 hown hK hP 11 rfl rfl 0 (by decide) (hG _ kw74) (fun _ h9 => h9) rfl dX3_read_2 ?_
  refine lv_aload_n hx hb dX3_read_5 rfl (lv_at hl 1 rfl) ?_
  refine va_get (D := D) (ci := 2) (v := .int (y.2.1)) hx hb hG inX2 hown hK hP 11 rfl rfl 1 (by decide) (hG _ kw75) (fun _ h9 => h9) rfl dX3_read_6 ?_
  refine lv_aload_n hx hb dX3_read_9 rfl (lv_at hl 1 rfl) ?_
  refine va_get (D := D) (ci := 2) (v := .int (y.2.2)) hx hb hG inX2 hown hK hP 11 rfl rfl 2 (by decide) (hG _ kw76) (fun _ h9 => h9) rfl dX3_read_10 ?_
  refine lv_iload_n hx hb dX3_read_13 rfl (lv_at hl 2 rfl) ?_
  refine lv_iconst (v := 1) hx hb dX3_read_14 (by decide) ?_
  refine kVi (As := [.int (y.1), .int (y.2.1), .int (y.2.2), .int (a1), .int ((1 : Int32))]) (rest := []) (W' := (fun u1 => (wSP cI cJ ad u1 y))) hx hb hml hown hG hl (okX3_locate l D cI cJ cP ad H.size x y.1 y.2.1 y.2.2 a1 (1 : Int32) hI hJ.1 hJ.2.1) (cV 5 hG kw77 kw78 kw79 kw80 kw60 hdX3_locate ⟨by decide, by decide⟩) 0 3 rfl rfl hK hP hD hS hA hN [0, 1, 2, 3, 4, 5, 6, 7, 8, 9, 10] rfl rfl rfl (fun _ => rfl) (fun _ => rfl) rfl rfl (Nat.le_of_ble_eq_true rfl) dX3_read_15 ⟨Nat.zero_le _, Nat.zero_le _⟩ (fun r1 u1 q1 H locs hP hD hS => ?_)
  have j1 : ivX3_locateP (r1, u1) := by rw [q1]; exact ivX3_locate x y.1 y.2.1 y.2.2 a1 (1 : Int32) hI hJ.1 hJ.2.1
  refine lv_istore_n (lv' := [(3, .int (r1)), (0, .ref (ad 0)), (1, .ref (ad 11)), (2, .int (a1))]) hx hb dX3_read_18 rfl hl (by decide) rfl (fun ls hl => ?_)
  refine lv_iload_n hx hb dX3_read_19 rfl (lv_at hl 0 rfl) ?_
  refine lv_if_ge (tgt := 28) hx hb dX3_read_20 (by decide) (fun h2 => ?_) (fun h2 => ?_)
  · refine lv_aload_n hx hb dX3_read_28 rfl (lv_at hl 1 rfl) ?_
    refine va_get (D := D) (ci := 3) (v := .ref (ad 1)) hx hb hG inX3 hown hK hP 0 rfl rfl 0 (by decide) (hG _ kw31) (fun _ h9 => h9) rfl dX3_read_29 ?_
    refine lv_iload_n hx hb dX3_read_32 rfl (lv_at hl 0 rfl) ?_
    refine gl (D := D) (j := (r1).toNatClampNeg) (f := u1.1) hx hb hK hP 1 1 rfl rfl (in12 (locI j1.1 (Int32.not_lt.mpr h2))) rfl dX3_read_33 ?_
    exact retl (u := u1) hx hb hr hlocks hK hP hD hS dX3_read_34 (by unfold fnX3_read; rw [← q1]; (try dsimp only); rw [if_pos h2]; (try exact rfl))
  · refine lv_iload_n hx hb dX3_read_23 rfl (lv_at hl 0 rfl) ?_
    refine lv_i2l hx hb dX3_read_24 rfl ?_
    refine lv_goto (tgt := 34) hx hb dX3_read_25 (by decide) ?_
    exact retl (u := u1) hx hb hr hlocks hK hP hD hS dX3_read_34 (by unfold fnX3_read; rw [← q1]; (try dsimp only); rw [if_neg h2]; (try exact rfl))
def fnX3_write (x : TS) (y : TP) (a1 : Int64) : Int32 × TS :=
  let p1 := fnX3_locate x y.1 y.2.1 y.2.2 (1 : Int32) (1 : Int32)
  if (0 : Int32) ≤ p1.1 then
   if p1.2.2.2.2.2.1 = (0 : Int32) then
    ((0 : Int32), ((vp_updL p1.2.1 (p1.1).toNatClampNeg a1), p1.2.2.1, p1.2.2.2.1, p1.2.2.2.2))
   else
    let p4 := fnX3_markChanged p1.2 (y.2.1 / (64 : Int32))
    ((0 : Int32), ((vp_updL p4.1 (p1.1).toNatClampNeg a1), p4.2.1, p4.2.2.1, p4.2.2.2))
  else
   let p5 := fnX4_faultOf ((p1.1).toInt64)
   (p5, p1.2)
abbrev ivX3_writeP (z : Int32 × TS) : Prop := i4 z.1 ∧ iS z.2
set_option maxRecDepth 100000 in
set_option maxHeartbeats 4000000 in
theorem ivX3_write (x : TS) (y : TP) (a1 : Int64) (hI : iS x) (hJ : iP y) (g1 : i36 a1) : ivX3_writeP (fnX3_write x y a1) := by
  unfold fnX3_write
  try dsimp only
  have j1 : ivX3_locateP (fnX3_locate x y.1 y.2.1 y.2.2 (1 : Int32) (1 : Int32)) := ivX3_locate x y.1 y.2.1 y.2.2 (1 : Int32) (1 : Int32) hI hJ.1 hJ.2.1
  generalize fnX3_locate x y.1 y.2.1 y.2.2 (1 : Int32) (1 : Int32) = p1 at j1 ⊢
  refine iteI (fun h2 => ?_) (fun h2 => ?_)
  · refine iteI (fun h3 => ?_) (fun h3 => ?_)
    · exact ⟨(show i4 (0 : Int32) from by decide), ⟨(upW j1.2.1 g1), j1.2.2.1, j1.2.2.2.1, j1.2.2.2.2⟩⟩
    · have j4 : ivX3_markChangedP (fnX3_markChanged p1.2 (y.2.1 / (64 : Int32))) := ivX3_markChanged p1.2 (y.2.1 / (64 : Int32)) j1.2
      generalize fnX3_markChanged p1.2 (y.2.1 / (64 : Int32)) = p4 at j4 ⊢
      exact ⟨(show i4 (0 : Int32) from by decide), ⟨(upW j4.1 g1), j4.2.1, j4.2.2.1, j4.2.2.2⟩⟩
  · have j5 : i4 (fnX4_faultOf ((p1.1).toInt64)) := (fltI (i2lN j1.1 (Int32.not_le.mp h2)) (i2lP (Int32.not_le.mp h2)))
    generalize fnX4_faultOf ((p1.1).toInt64) = p5 at j5 ⊢
    exact ⟨j5, j1.2⟩
set_option maxRecDepth 100000 in
set_option maxHeartbeats 4000000 in
theorem okX3_write (l : Launch) (D : va_G) (cI cJ cP : ClassId) (ad : Nat → Nat) (sz : Nat) (x : TS) (y : TP) (a1 : Int64) (hI : iS x) (hJ : iP y) (g1 : i36 a1) : Met l yX3_write (Cond.code yX3_write cX3_write 5 (some .int) :: gG) { frames := 3, cells := 0, slots := 0, locals := 82 } (va_Pc [.ref (ad 0), .ref (ad 11), .long a1] (PRE D (tz cI cJ cP) sz (wSP cI cJ ad x y))) (va_Qi (fun (r : Int32) (u : TS) => (r, u) = fnX3_write x y a1) (AT D (tz cI cJ cP) (va_A (wSP cI cJ ad x y) sz) (fun (u : TS) => (wSP cI cJ ad u y))) (va_A (wSP cI cJ ad x y) sz)) 0 0 (va_A (wSP cI cJ ad x y) sz) := by
  refine mo (QA := fun A => va_Qi (fun (r : Int32) (u : TS) => (r, u) = fnX3_write x y a1) (AT D (tz cI cJ cP) A (fun (u : TS) => (wSP cI cJ ad u y))) A) (by decide) (Nat.le_of_ble_eq_true rfl) ?_
  intro p e s m below meth c A ls H hx hb hr hml hown hG hlocks hnm hA hS hP hK hD hl hN
  have hown : s.vm.findClass RX3 = some m.cls := hown
  have hl : lv_has ls 5 [(0, .ref (ad 0)), (1, .ref (ad 11)), (2, .long a1)] := hl
  refine lv_aload_n hx hb dX3_write_0 rfl (lv_at hl 0 rfl) ?_
  refine lv_aload_n hx hb dX3_write_1 rfl (lv_at hl 1 rfl) ?_
  refine va_get (D := D) (ci := 2) (v := .int (y.1)) hx hb hG inX2 hown hK hP 11 rfl rfl 0 (by decide) (hG _ kw74) (fun _ h9 => h9) rfl dX3_write_2 ?_
  refine lv_aload_n hx hb dX3_write_5 rfl (lv_at hl 1 rfl) ?_
  refine va_get (D := D) (ci := 2) (v := .int (y.2.1)) hx hb hG inX2 hown hK hP 11 rfl rfl 1 (by decide) (hG _ kw75) (fun _ h9 => h9) rfl dX3_write_6 ?_
  refine lv_aload_n hx hb dX3_write_9 rfl (lv_at hl 1 rfl) ?_
  refine va_get (D := D) (ci := 2) (v := .int (y.2.2)) hx hb hG inX2 hown hK hP 11 rfl rfl 2 (by decide) (hG _ kw76) (fun _ h9 => h9) rfl dX3_write_10 ?_
  refine lv_iconst (v := 1) hx hb dX3_write_13 (by decide) ?_
  refine lv_iconst (v := 1) hx hb dX3_write_14 (by decide) ?_
  refine kVi (As := [.int (y.1), .int (y.2.1), .int (y.2.2), .int ((1 : Int32)), .int ((1 : Int32))]) (rest := []) (W' := (fun u1 => (wSP cI cJ ad u1 y))) hx hb hml hown hG hl (okX3_locate l D cI cJ cP ad H.size x y.1 y.2.1 y.2.2 (1 : Int32) (1 : Int32) hI hJ.1 hJ.2.1) (cV 5 hG kw77 kw78 kw79 kw80 kw60 hdX3_locate ⟨by decide, by decide⟩) 0 3 rfl rfl hK hP hD hS hA hN [0, 1, 2, 3, 4, 5, 6, 7, 8, 9, 10] rfl rfl rfl (fun _ => rfl) (fun _ => rfl) rfl rfl (Nat.le_of_ble_eq_true rfl) dX3_write_15 ⟨Nat.zero_le _, Nat.zero_le _⟩ (fun r1 u1 q1 H locs hP hD hS => ?_)
  have j1 : ivX3_locateP (r1, u1) := by rw [q1]; exact ivX3_locate x y.1 y.2.1 y.2.2 (1 : Int32) (1 : Int32) hI hJ.1 hJ.2.1
  refine lv_istore (lv' := [(4, .int (r1)), (0, .ref (ad 0)), (1, .ref (ad 11)), (2, .long (a1))]) hx hb dX3_write_18 hl (by decide) rfl (fun ls hl => ?_)
  refine lv_iload hx hb dX3_write_20 (lv_at hl 0 rfl) ?_
  refine lv_if_ge (tgt := 32) hx hb dX3_write_22 (by decide) (fun h2 => ?_) (fun h2 => ?_)
  · refine lv_aload_n hx hb dX3_write_32 rfl (lv_at hl 1 rfl) ?_
    refine va_get (D := D) (ci := 3) (v := .ref (ad 10)) hx hb hG inX3 hown hK hP 0 rfl rfl 3 (by decide) (hG _ kw32) (fun _ h9 => h9) rfl dX3_write_33 ?_
    refine va_get (D := D) (ci := 1) (v := .int (u1.2.2.2.2.1)) hx hb hG inX1 hown hK hP 10 rfl rfl 1 (by decide) (hG _ kw68) (fun _ h9 => h9) rfl dX3_write_36 ?_
    refine lv_if_eq (tgt := 53) hx hb dX3_write_39 (by decide) (fun h3 => ?_) (fun h3 => ?_)
    · refine lv_aload_n hx hb dX3_write_53 rfl (lv_at hl 1 rfl) ?_
      refine va_get (D := D) (ci := 3) (v := .ref (ad 1)) hx hb hG inX3 hown hK hP 0 rfl rfl 0 (by decide) (hG _ kw31) (fun _ h9 => h9) rfl dX3_write_54 ?_
      refine lv_iload hx hb dX3_write_57 (lv_at hl 0 rfl) ?_
      refine lv_lload_n hx hb dX3_write_59 rfl (lv_at hl 3 rfl) ?_
      refine sl (D := D) (j := (r1).toNatClampNeg) (f := u1.1) (x := a1) (W' := (wSP cI cJ ad ((vp_updL u1.1 (r1).toNatClampNeg a1), u1.2.1, u1.2.2.1, u1.2.2.2) y)) hx hb hK hP hD hS 1 1 rfl rfl (in12 (locI j1.1 (Int32.not_lt.mpr h2))) rfl dX3_write_60 rfl (fun H locs hP hD hS => ?_)
      refine lv_iconst (v := 0) hx hb dX3_write_61 (by decide) ?_
      exact reti (u := ((vp_updL u1.1 (r1).toNatClampNeg a1), u1.2.1, u1.2.2.1, u1.2.2.2)) hx hb hr hlocks hK hP hD hS dX3_write_62 (by unfold fnX3_write; rw [← q1]; (try dsimp only); rw [if_pos h2]; rw [if_pos h3]; (try exact rfl))
    · refine lv_aload_n hx hb dX3_write_42 rfl (lv_at hl 1 rfl) ?_
      refine lv_aload_n hx hb dX3_write_43 rfl (lv_at hl 2 rfl) ?_
      refine va_get (D := D) (ci := 2) (v := .int (y.2.1)) hx hb hG inX2 hown hK hP 11 rfl rfl 1 (by decide) (hG _ kw75) (fun _ h9 => h9) rfl dX3_write_44 ?_
      refine lv_bipush (v := 64) hx hb dX3_write_47 (by decide) ?_
      refine lv_idiv hx hb dX3_write_49 (by decide) ?_
      refine kVv (As := [.int ((y.2.1 / (64 : Int32)))]) (rest := []) (W' := (fun u4 => (wSP cI cJ ad u4 y))) hx hb hml hown hG hl (okX3_markChanged l D cI cJ cP ad H.size u1 (y.2.1 / (64 : Int32)) j1.2) (cV 1 hG kw81 kw82 kw83 kw84 kw60 hdX3_markChanged ⟨by decide, by decide⟩) 0 3 rfl rfl hK hP hD hS hA hN [0, 1, 2, 3, 4, 5, 6, 7, 8, 9, 10] rfl rfl rfl (fun _ => rfl) (fun _ => rfl) rfl rfl (Nat.le_of_ble_eq_true rfl) dX3_write_50 ⟨Nat.zero_le _, Nat.zero_le _⟩ (fun u4 q4 H locs hP hD hS => ?_)
      have j4 : ivX3_markChangedP u4 := by rw [q4]; exact ivX3_markChanged u1 (y.2.1 / (64 : Int32)) j1.2
      refine lv_aload_n hx hb dX3_write_53 rfl (lv_at hl 1 rfl) ?_
      refine va_get (D := D) (ci := 3) (v := .ref (ad 1)) hx hb hG inX3 hown hK hP 0 rfl rfl 0 (by decide) (hG _ kw31) (fun _ h9 => h9) rfl dX3_write_54 ?_
      refine lv_iload hx hb dX3_write_57 (lv_at hl 0 rfl) ?_
      refine lv_lload_n hx hb dX3_write_59 rfl (lv_at hl 3 rfl) ?_
      refine sl (D := D) (j := (r1).toNatClampNeg) (f := u4.1) (x := a1) (W' := (wSP cI cJ ad ((vp_updL u4.1 (r1).toNatClampNeg a1), u4.2.1, u4.2.2.1, u4.2.2.2) y)) hx hb hK hP hD hS 1 1 rfl rfl (in12 (locI j1.1 (Int32.not_lt.mpr h2))) rfl dX3_write_60 rfl (fun H locs hP hD hS => ?_)
      refine lv_iconst (v := 0) hx hb dX3_write_61 (by decide) ?_
      exact reti (u := ((vp_updL u4.1 (r1).toNatClampNeg a1), u4.2.1, u4.2.2.1, u4.2.2.2)) hx hb hr hlocks hK hP hD hS dX3_write_62 (by unfold fnX3_write; rw [← q1]; (try dsimp only); rw [if_pos h2]; rw [if_neg h3]; rw [← q4]; (try dsimp only); (try exact rfl))
  · refine lv_iload hx hb dX3_write_25 (lv_at hl 0 rfl) ?_
    refine lv_i2l hx hb dX3_write_27 rfl ?_
    refine k0SNi (As := [.long ((r1).toInt64)]) (rest := []) hx hb hml hown hG hl (okX4_faultOf l D cI cJ cP  H.size ((r1).toInt64) ) (cSN 1 hG kw85 (nl6 hN) kw86 kw5 hdX4_faultOf ⟨by decide, by decide⟩) hK hP hD hS hA hN rfl rfl (Nat.le_of_ble_eq_true rfl) dX3_write_28 ⟨Nat.zero_le _, Nat.zero_le _⟩ (fun r5 q5 H locs hP hD hS => ?_)
    have j5 : i4 r5 := by rw [q5]; exact (fltI (i2lN j1.1 (Int32.not_le.mp h2)) (i2lP (Int32.not_le.mp h2)))
    exact reti (u := u1) hx hb hr hlocks hK hP hD hS dX3_write_31 (by unfold fnX3_write; rw [← q1]; (try dsimp only); rw [if_neg h2]; rw [← q5]; (try dsimp only); (try exact rfl))
end
section
theorem dX4_advance_0 : decode cX4_advance 0 = .ok (.aload_n 0, 1) := by decide +kernel
theorem dX4_advance_1 : decode cX4_advance 1 = .ok (.getfield 27, 3) := by decide +kernel
theorem dX4_advance_4 : decode cX4_advance 4 = .ok (.aload_n 0, 1) := by decide +kernel
theorem dX4_advance_5 : decode cX4_advance 5 = .ok (.getfield 27, 3) := by decide +kernel
theorem dX4_advance_8 : decode cX4_advance 8 = .ok (.getfield 122, 3) := by decide +kernel
theorem dX4_advance_11 : decode cX4_advance 11 = .ok (.iconst 1, 1) := by decide +kernel
theorem dX4_advance_12 : decode cX4_advance 12 = .ok (.invokestatic 156, 3) := by decide +kernel
theorem dX4_advance_15 : decode cX4_advance 15 = .ok (.putfield 122, 3) := by decide +kernel
theorem dX4_advance_18 : decode cX4_advance 18 = .ok (.iconst 0, 1) := by decide +kernel
theorem dX4_advance_19 : decode cX4_advance 19 = .ok (.ireturn, 1) := by decide +kernel
theorem dX4_exchange_0 : decode cX4_exchange 0 = .ok (.aload_n 0, 1) := by decide +kernel
theorem dX4_exchange_1 : decode cX4_exchange 1 = .ok (.getfield 46, 3) := by decide +kernel
theorem dX4_exchange_4 : decode cX4_exchange 4 = .ok (.lstore_n 1, 1) := by decide +kernel
theorem dX4_exchange_5 : decode cX4_exchange 5 = .ok (.aload_n 0, 1) := by decide +kernel
theorem dX4_exchange_6 : decode cX4_exchange 6 = .ok (.aload_n 0, 1) := by decide +kernel
theorem dX4_exchange_7 : decode cX4_exchange 7 = .ok (.getfield 50, 3) := by decide +kernel
theorem dX4_exchange_10 : decode cX4_exchange 10 = .ok (.putfield 46, 3) := by decide +kernel
theorem dX4_exchange_13 : decode cX4_exchange 13 = .ok (.aload_n 0, 1) := by decide +kernel
theorem dX4_exchange_14 : decode cX4_exchange 14 = .ok (.lload_n 1, 1) := by decide +kernel
theorem dX4_exchange_15 : decode cX4_exchange 15 = .ok (.putfield 50, 3) := by decide +kernel
theorem dX4_exchange_18 : decode cX4_exchange 18 = .ok (.aload_n 0, 1) := by decide +kernel
theorem dX4_exchange_19 : decode cX4_exchange 19 = .ok (.invokevirtual 180, 3) := by decide +kernel
theorem dX4_exchange_22 : decode cX4_exchange 22 = .ok (.ireturn, 1) := by decide +kernel
theorem dX4_goBack_0 : decode cX4_goBack 0 = .ok (.aload_n 0, 1) := by decide +kernel
theorem dX4_goBack_1 : decode cX4_goBack 1 = .ok (.getfield 83, 3) := by decide +kernel
theorem dX4_goBack_4 : decode cX4_goBack 4 = .ok (.ifCond .ne 6, 3) := by decide +kernel
theorem dX4_goBack_7 : decode cX4_goBack 7 = .ok (.bipush 6, 2) := by decide +kernel
theorem dX4_goBack_9 : decode cX4_goBack 9 = .ok (.ireturn, 1) := by decide +kernel
theorem dX4_goBack_10 : decode cX4_goBack 10 = .ok (.aload_n 0, 1) := by decide +kernel
theorem dX4_goBack_11 : decode cX4_goBack 11 = .ok (.iconst 0, 1) := by decide +kernel
theorem dX4_goBack_12 : decode cX4_goBack 12 = .ok (.putfield 83, 3) := by decide +kernel
theorem dX4_goBack_15 : decode cX4_goBack 15 = .ok (.aload_n 0, 1) := by decide +kernel
theorem dX4_goBack_16 : decode cX4_goBack 16 = .ok (.getfield 27, 3) := by decide +kernel
theorem dX4_goBack_19 : decode cX4_goBack 19 = .ok (.aload_n 0, 1) := by decide +kernel
theorem dX4_goBack_20 : decode cX4_goBack 20 = .ok (.getfield 34, 3) := by decide +kernel
theorem dX4_goBack_23 : decode cX4_goBack 23 = .ok (.invokevirtual 125, 3) := by decide +kernel
theorem dX4_goBack_26 : decode cX4_goBack 26 = .ok (.iconst 0, 1) := by decide +kernel
theorem dX4_goBack_27 : decode cX4_goBack 27 = .ok (.ireturn, 1) := by decide +kernel
theorem dX4_performInRing0_0 : decode cX4_performInRing0 0 = .ok (.iload_n 1, 1) := by decide +kernel
theorem dX4_performInRing0_1 : decode cX4_performInRing0 1 = .ok (.bipush 37, 2) := by decide +kernel
theorem dX4_performInRing0_3 : decode cX4_performInRing0 3 = .ok (.if_icmp .ne 8, 3) := by decide +kernel
theorem dX4_performInRing0_6 : decode cX4_performInRing0 6 = .ok (.aload_n 0, 1) := by decide +kernel
theorem dX4_performInRing0_7 : decode cX4_performInRing0 7 = .ok (.invokevirtual 189, 3) := by decide +kernel
theorem dX4_performInRing0_10 : decode cX4_performInRing0 10 = .ok (.ireturn, 1) := by decide +kernel
theorem dX4_performInRing0_11 : decode cX4_performInRing0 11 = .ok (.iload_n 1, 1) := by decide +kernel
theorem dX4_performInRing0_12 : decode cX4_performInRing0 12 = .ok (.bipush 36, 2) := by decide +kernel
theorem dX4_performInRing0_14 : decode cX4_performInRing0 14 = .ok (.if_icmp .ne 26, 3) := by decide +kernel
theorem dX4_performInRing0_17 : decode cX4_performInRing0 17 = .ok (.aload_n 0, 1) := by decide +kernel
theorem dX4_performInRing0_18 : decode cX4_performInRing0 18 = .ok (.getfield 10, 3) := by decide +kernel
theorem dX4_performInRing0_21 : decode cX4_performInRing0 21 = .ok (.getfield 102, 3) := by decide +kernel
theorem dX4_performInRing0_24 : decode cX4_performInRing0 24 = .ok (.invokevirtual 192, 3) := by decide +kernel
theorem dX4_performInRing0_27 : decode cX4_performInRing0 27 = .ok (.aload_n 0, 1) := by decide +kernel
theorem dX4_performInRing0_28 : decode cX4_performInRing0 28 = .ok (.getfield 10, 3) := by decide +kernel
theorem dX4_performInRing0_31 : decode cX4_performInRing0 31 = .ok (.getfield 112, 3) := by decide +kernel
theorem dX4_performInRing0_34 : decode cX4_performInRing0 34 = .ok (.invokevirtual 192, 3) := by decide +kernel
theorem dX4_performInRing0_37 : decode cX4_performInRing0 37 = .ok (.goto 8, 3) := by decide +kernel
theorem dX4_performInRing0_40 : decode cX4_performInRing0 40 = .ok (.aload_n 0, 1) := by decide +kernel
theorem dX4_performInRing0_41 : decode cX4_performInRing0 41 = .ok (.iconst 1, 1) := by decide +kernel
theorem dX4_performInRing0_42 : decode cX4_performInRing0 42 = .ok (.putfield 68, 3) := by decide +kernel
theorem dX4_performInRing0_45 : decode cX4_performInRing0 45 = .ok (.aload_n 0, 1) := by decide +kernel
theorem dX4_performInRing0_46 : decode cX4_performInRing0 46 = .ok (.invokevirtual 180, 3) := by decide +kernel
theorem dX4_performInRing0_49 : decode cX4_performInRing0 49 = .ok (.ireturn, 1) := by decide +kernel
theorem dX4_performWithoutAddress_0 : decode cX4_performWithoutAddress 0 = .ok (.iload_n 1, 1) := by decide +kernel
theorem dX4_performWithoutAddress_1 : decode cX4_performWithoutAddress 1 = .ok (.lookupswitch 82 #[(0, 51), (33, 56), (36, 61), (37, 61), (38, 61)], 51) := by decide +kernel
theorem dX4_performWithoutAddress_52 : decode cX4_performWithoutAddress 52 = .ok (.aload_n 0, 1) := by decide +kernel
theorem dX4_performWithoutAddress_53 : decode cX4_performWithoutAddress 53 = .ok (.invokevirtual 180, 3) := by decide +kernel
theorem dX4_performWithoutAddress_56 : decode cX4_performWithoutAddress 56 = .ok (.ireturn, 1) := by decide +kernel
theorem dX4_performWithoutAddress_57 : decode cX4_performWithoutAddress 57 = .ok (.aload_n 0, 1) := by decide +kernel
theorem dX4_performWithoutAddress_58 : decode cX4_performWithoutAddress 58 = .ok (.invokevirtual 183, 3) := by decide +kernel
theorem dX4_performWithoutAddress_61 : decode cX4_performWithoutAddress 61 = .ok (.ireturn, 1) := by decide +kernel
theorem dX4_performWithoutAddress_62 : decode cX4_performWithoutAddress 62 = .ok (.aload_n 0, 1) := by decide +kernel
theorem dX4_performWithoutAddress_63 : decode cX4_performWithoutAddress 63 = .ok (.getfield 27, 3) := by decide +kernel
theorem dX4_performWithoutAddress_66 : decode cX4_performWithoutAddress 66 = .ok (.getfield 129, 3) := by decide +kernel
theorem dX4_performWithoutAddress_69 : decode cX4_performWithoutAddress 69 = .ok (.ifCond .ne 11, 3) := by decide +kernel
theorem dX4_performWithoutAddress_72 : decode cX4_performWithoutAddress 72 = .ok (.aload_n 0, 1) := by decide +kernel
theorem dX4_performWithoutAddress_73 : decode cX4_performWithoutAddress 73 = .ok (.iload_n 1, 1) := by decide +kernel
theorem dX4_performWithoutAddress_74 : decode cX4_performWithoutAddress 74 = .ok (.invokevirtual 186, 3) := by decide +kernel
theorem dX4_performWithoutAddress_77 : decode cX4_performWithoutAddress 77 = .ok (.goto 5, 3) := by decide +kernel
theorem dX4_performWithoutAddress_80 : decode cX4_performWithoutAddress 80 = .ok (.bipush 7, 2) := by decide +kernel
theorem dX4_performWithoutAddress_82 : decode cX4_performWithoutAddress 82 = .ok (.ireturn, 1) := by decide +kernel
theorem dX4_performWithoutAddress_83 : decode cX4_performWithoutAddress 83 = .ok (.bipush 6, 2) := by decide +kernel
theorem dX4_performWithoutAddress_85 : decode cX4_performWithoutAddress 85 = .ok (.ireturn, 1) := by decide +kernel
theorem dX4_combined_0 : decode cX4_combined 0 = .ok (.iload_n 1, 1) := by decide +kernel
theorem dX4_combined_1 : decode cX4_combined 1 = .ok (.tableswitch 81 3 8 #[39, 46, 53, 60, 67, 74], 39) := by decide +kernel
theorem dX4_combined_40 : decode cX4_combined 40 = .ok (.aload_n 0, 1) := by decide +kernel
theorem dX4_combined_41 : decode cX4_combined 41 = .ok (.getfield 46, 3) := by decide +kernel
theorem dX4_combined_44 : decode cX4_combined 44 = .ok (.lload_n 2, 1) := by decide +kernel
theorem dX4_combined_45 : decode cX4_combined 45 = .ok (.ladd, 1) := by decide +kernel
theorem dX4_combined_46 : decode cX4_combined 46 = .ok (.lreturn, 1) := by decide +kernel
theorem dX4_combined_47 : decode cX4_combined 47 = .ok (.aload_n 0, 1) := by decide +kernel
theorem dX4_combined_48 : decode cX4_combined 48 = .ok (.getfield 46, 3) := by decide +kernel
theorem dX4_combined_51 : decode cX4_combined 51 = .ok (.lload_n 2, 1) := by decide +kernel
theorem dX4_combined_52 : decode cX4_combined 52 = .ok (.lsub, 1) := by decide +kernel
theorem dX4_combined_53 : decode cX4_combined 53 = .ok (.lreturn, 1) := by decide +kernel
theorem dX4_combined_54 : decode cX4_combined 54 = .ok (.aload_n 0, 1) := by decide +kernel
theorem dX4_combined_55 : decode cX4_combined 55 = .ok (.getfield 46, 3) := by decide +kernel
theorem dX4_combined_58 : decode cX4_combined 58 = .ok (.lload_n 2, 1) := by decide +kernel
theorem dX4_combined_59 : decode cX4_combined 59 = .ok (.lmul, 1) := by decide +kernel
theorem dX4_combined_60 : decode cX4_combined 60 = .ok (.lreturn, 1) := by decide +kernel
theorem dX4_combined_61 : decode cX4_combined 61 = .ok (.aload_n 0, 1) := by decide +kernel
theorem dX4_combined_62 : decode cX4_combined 62 = .ok (.getfield 46, 3) := by decide +kernel
theorem dX4_combined_65 : decode cX4_combined 65 = .ok (.lload_n 2, 1) := by decide +kernel
theorem dX4_combined_66 : decode cX4_combined 66 = .ok (.land, 1) := by decide +kernel
theorem dX4_combined_67 : decode cX4_combined 67 = .ok (.lreturn, 1) := by decide +kernel
theorem dX4_combined_68 : decode cX4_combined 68 = .ok (.aload_n 0, 1) := by decide +kernel
theorem dX4_combined_69 : decode cX4_combined 69 = .ok (.getfield 46, 3) := by decide +kernel
theorem dX4_combined_72 : decode cX4_combined 72 = .ok (.lload_n 2, 1) := by decide +kernel
theorem dX4_combined_73 : decode cX4_combined 73 = .ok (.lor, 1) := by decide +kernel
theorem dX4_combined_74 : decode cX4_combined 74 = .ok (.lreturn, 1) := by decide +kernel
theorem dX4_combined_75 : decode cX4_combined 75 = .ok (.aload_n 0, 1) := by decide +kernel
theorem dX4_combined_76 : decode cX4_combined 76 = .ok (.getfield 46, 3) := by decide +kernel
theorem dX4_combined_79 : decode cX4_combined 79 = .ok (.lload_n 2, 1) := by decide +kernel
theorem dX4_combined_80 : decode cX4_combined 80 = .ok (.lxor, 1) := by decide +kernel
theorem dX4_combined_81 : decode cX4_combined 81 = .ok (.lreturn, 1) := by decide +kernel
theorem dX4_combined_82 : decode cX4_combined 82 = .ok (.lload_n 2, 1) := by decide +kernel
theorem dX4_combined_83 : decode cX4_combined 83 = .ok (.lreturn, 1) := by decide +kernel
theorem dX4_load_0 : decode cX4_load 0 = .ok (.aload_n 0, 1) := by decide +kernel
theorem dX4_load_1 : decode cX4_load 1 = .ok (.getfield 10, 3) := by decide +kernel
theorem dX4_load_4 : decode cX4_load 4 = .ok (.aload_n 0, 1) := by decide +kernel
theorem dX4_load_5 : decode cX4_load 5 = .ok (.getfield 31, 3) := by decide +kernel
theorem dX4_load_8 : decode cX4_load 8 = .ok (.iconst 0, 1) := by decide +kernel
theorem dX4_load_9 : decode cX4_load 9 = .ok (.invokevirtual 132, 3) := by decide +kernel
theorem dX4_load_12 : decode cX4_load 12 = .ok (.lstore_n 2, 1) := by decide +kernel
theorem dX4_load_13 : decode cX4_load 13 = .ok (.lload_n 2, 1) := by decide +kernel
theorem dX4_load_14 : decode cX4_load 14 = .ok (.lconst 0, 1) := by decide +kernel
theorem dX4_load_15 : decode cX4_load 15 = .ok (.lcmp, 1) := by decide +kernel
theorem dX4_load_16 : decode cX4_load 16 = .ok (.ifCond .ge 8, 3) := by decide +kernel
theorem dX4_load_19 : decode cX4_load 19 = .ok (.lload_n 2, 1) := by decide +kernel
theorem dX4_load_20 : decode cX4_load 20 = .ok (.invokestatic 136, 3) := by decide +kernel
theorem dX4_load_23 : decode cX4_load 23 = .ok (.ireturn, 1) := by decide +kernel
theorem dX4_load_24 : decode cX4_load 24 = .ok (.iload_n 1, 1) := by decide +kernel
theorem dX4_load_25 : decode cX4_load 25 = .ok (.tableswitch 69 9 15 #[61, 69, 69, 43, 43, 43, 43], 43) := by decide +kernel
theorem dX4_load_68 : decode cX4_load 68 = .ok (.aload_n 0, 1) := by decide +kernel
theorem dX4_load_69 : decode cX4_load 69 = .ok (.getfield 16, 3) := by decide +kernel
theorem dX4_load_72 : decode cX4_load 72 = .ok (.iload_n 1, 1) := by decide +kernel
theorem dX4_load_73 : decode cX4_load 73 = .ok (.iconst 3, 1) := by decide +kernel
theorem dX4_load_74 : decode cX4_load 74 = .ok (.iand, 1) := by decide +kernel
theorem dX4_load_75 : decode cX4_load 75 = .ok (.lload_n 2, 1) := by decide +kernel
theorem dX4_load_76 : decode cX4_load 76 = .ok (.iconst 0, 1) := by decide +kernel
theorem dX4_load_77 : decode cX4_load 77 = .ok (.bipush 12, 2) := by decide +kernel
theorem dX4_load_79 : decode cX4_load 79 = .ok (.invokestatic 53, 3) := by decide +kernel
theorem dX4_load_82 : decode cX4_load 82 = .ok (.iastore, 1) := by decide +kernel
theorem dX4_load_83 : decode cX4_load 83 = .ok (.goto 25, 3) := by decide +kernel
theorem dX4_load_86 : decode cX4_load 86 = .ok (.aload_n 0, 1) := by decide +kernel
theorem dX4_load_87 : decode cX4_load 87 = .ok (.lload_n 2, 1) := by decide +kernel
theorem dX4_load_88 : decode cX4_load 88 = .ok (.putfield 50, 3) := by decide +kernel
theorem dX4_load_91 : decode cX4_load 91 = .ok (.goto 17, 3) := by decide +kernel
theorem dX4_load_94 : decode cX4_load 94 = .ok (.aload_n 0, 1) := by decide +kernel
theorem dX4_load_95 : decode cX4_load 95 = .ok (.aload_n 0, 1) := by decide +kernel
theorem dX4_load_96 : decode cX4_load 96 = .ok (.iload_n 1, 1) := by decide +kernel
theorem dX4_load_97 : decode cX4_load 97 = .ok (.lload_n 2, 1) := by decide +kernel
theorem dX4_load_98 : decode cX4_load 98 = .ok (.invokevirtual 216, 3) := by decide +kernel
theorem dX4_load_101 : decode cX4_load 101 = .ok (.ldc2_w 44, 3) := by decide +kernel
theorem dX4_load_104 : decode cX4_load 104 = .ok (.land, 1) := by decide +kernel
theorem dX4_load_105 : decode cX4_load 105 = .ok (.putfield 46, 3) := by decide +kernel
theorem dX4_load_108 : decode cX4_load 108 = .ok (.aload_n 0, 1) := by decide +kernel
theorem dX4_load_109 : decode cX4_load 109 = .ok (.invokevirtual 180, 3) := by decide +kernel
theorem dX4_load_112 : decode cX4_load 112 = .ok (.ireturn, 1) := by decide +kernel
theorem dX4_addOne_0 : decode cX4_addOne 0 = .ok (.aload_n 0, 1) := by decide +kernel
theorem dX4_addOne_1 : decode cX4_addOne 1 = .ok (.getfield 10, 3) := by decide +kernel
theorem dX4_addOne_4 : decode cX4_addOne 4 = .ok (.aload_n 0, 1) := by decide +kernel
theorem dX4_addOne_5 : decode cX4_addOne 5 = .ok (.getfield 31, 3) := by decide +kernel
theorem dX4_addOne_8 : decode cX4_addOne 8 = .ok (.iconst 0, 1) := by decide +kernel
theorem dX4_addOne_9 : decode cX4_addOne 9 = .ok (.invokevirtual 132, 3) := by decide +kernel
theorem dX4_addOne_12 : decode cX4_addOne 12 = .ok (.lstore_n 1, 1) := by decide +kernel
theorem dX4_addOne_13 : decode cX4_addOne 13 = .ok (.lload_n 1, 1) := by decide +kernel
theorem dX4_addOne_14 : decode cX4_addOne 14 = .ok (.lconst 0, 1) := by decide +kernel
theorem dX4_addOne_15 : decode cX4_addOne 15 = .ok (.lcmp, 1) := by decide +kernel
theorem dX4_addOne_16 : decode cX4_addOne 16 = .ok (.ifCond .ge 8, 3) := by decide +kernel
theorem dX4_addOne_19 : decode cX4_addOne 19 = .ok (.lload_n 1, 1) := by decide +kernel
theorem dX4_addOne_20 : decode cX4_addOne 20 = .ok (.invokestatic 136, 3) := by decide +kernel
theorem dX4_addOne_23 : decode cX4_addOne 23 = .ok (.ireturn, 1) := by decide +kernel
theorem dX4_addOne_24 : decode cX4_addOne 24 = .ok (.aload_n 0, 1) := by decide +kernel
theorem dX4_addOne_25 : decode cX4_addOne 25 = .ok (.getfield 10, 3) := by decide +kernel
theorem dX4_addOne_28 : decode cX4_addOne 28 = .ok (.aload_n 0, 1) := by decide +kernel
theorem dX4_addOne_29 : decode cX4_addOne 29 = .ok (.getfield 31, 3) := by decide +kernel
theorem dX4_addOne_32 : decode cX4_addOne 32 = .ok (.lload_n 1, 1) := by decide +kernel
theorem dX4_addOne_33 : decode cX4_addOne 33 = .ok (.lconst 1, 1) := by decide +kernel
theorem dX4_addOne_34 : decode cX4_addOne 34 = .ok (.ladd, 1) := by decide +kernel
theorem dX4_addOne_35 : decode cX4_addOne 35 = .ok (.ldc2_w 44, 3) := by decide +kernel
theorem dX4_addOne_38 : decode cX4_addOne 38 = .ok (.land, 1) := by decide +kernel
theorem dX4_addOne_39 : decode cX4_addOne 39 = .ok (.invokevirtual 220, 3) := by decide +kernel
theorem dX4_addOne_42 : decode cX4_addOne 42 = .ok (.istore_n 3, 1) := by decide +kernel
theorem dX4_addOne_43 : decode cX4_addOne 43 = .ok (.iload_n 3, 1) := by decide +kernel
theorem dX4_addOne_44 : decode cX4_addOne 44 = .ok (.ifCond .ne 10, 3) := by decide +kernel
theorem dX4_addOne_47 : decode cX4_addOne 47 = .ok (.aload_n 0, 1) := by decide +kernel
theorem dX4_addOne_48 : decode cX4_addOne 48 = .ok (.invokevirtual 180, 3) := by decide +kernel
theorem dX4_addOne_51 : decode cX4_addOne 51 = .ok (.goto 4, 3) := by decide +kernel
theorem dX4_addOne_54 : decode cX4_addOne 54 = .ok (.iload_n 3, 1) := by decide +kernel
theorem dX4_addOne_55 : decode cX4_addOne 55 = .ok (.ireturn, 1) := by decide +kernel
theorem dX4_put_0 : decode cX4_put 0 = .ok (.aload_n 0, 1) := by decide +kernel
theorem dX4_put_1 : decode cX4_put 1 = .ok (.getfield 10, 3) := by decide +kernel
theorem dX4_put_4 : decode cX4_put 4 = .ok (.aload_n 0, 1) := by decide +kernel
theorem dX4_put_5 : decode cX4_put 5 = .ok (.getfield 31, 3) := by decide +kernel
theorem dX4_put_8 : decode cX4_put 8 = .ok (.lload_n 1, 1) := by decide +kernel
theorem dX4_put_9 : decode cX4_put 9 = .ok (.invokevirtual 220, 3) := by decide +kernel
theorem dX4_put_12 : decode cX4_put 12 = .ok (.istore_n 3, 1) := by decide +kernel
theorem dX4_put_13 : decode cX4_put 13 = .ok (.iload_n 3, 1) := by decide +kernel
theorem dX4_put_14 : decode cX4_put 14 = .ok (.ifCond .ne 10, 3) := by decide +kernel
theorem dX4_put_17 : decode cX4_put 17 = .ok (.aload_n 0, 1) := by decide +kernel
theorem dX4_put_18 : decode cX4_put 18 = .ok (.invokevirtual 180, 3) := by decide +kernel
theorem dX4_put_21 : decode cX4_put 21 = .ok (.goto 4, 3) := by decide +kernel
theorem dX4_put_24 : decode cX4_put 24 = .ok (.iload_n 3, 1) := by decide +kernel
theorem dX4_put_25 : decode cX4_put 25 = .ok (.ireturn, 1) := by decide +kernel
theorem dX4_transfer_0 : decode cX4_transfer 0 = .ok (.iload_n 1, 1) := by decide +kernel
theorem dX4_transfer_1 : decode cX4_transfer 1 = .ok (.ifCond .ne 8, 3) := by decide +kernel
theorem dX4_transfer_4 : decode cX4_transfer 4 = .ok (.aload_n 0, 1) := by decide +kernel
theorem dX4_transfer_5 : decode cX4_transfer 5 = .ok (.invokevirtual 180, 3) := by decide +kernel
theorem dX4_transfer_8 : decode cX4_transfer 8 = .ok (.ireturn, 1) := by decide +kernel
theorem dX4_transfer_9 : decode cX4_transfer 9 = .ok (.aload_n 0, 1) := by decide +kernel
theorem dX4_transfer_10 : decode cX4_transfer 10 = .ok (.getfield 31, 3) := by decide +kernel
theorem dX4_transfer_13 : decode cX4_transfer 13 = .ok (.getfield 129, 3) := by decide +kernel
theorem dX4_transfer_16 : decode cX4_transfer 16 = .ok (.aload_n 0, 1) := by decide +kernel
theorem dX4_transfer_17 : decode cX4_transfer 17 = .ok (.getfield 27, 3) := by decide +kernel
theorem dX4_transfer_20 : decode cX4_transfer 20 = .ok (.getfield 129, 3) := by decide +kernel
theorem dX4_transfer_23 : decode cX4_transfer 23 = .ok (.if_icmp .eq 5, 3) := by decide +kernel
theorem dX4_transfer_26 : decode cX4_transfer 26 = .ok (.iconst 5, 1) := by decide +kernel
theorem dX4_transfer_27 : decode cX4_transfer 27 = .ok (.ireturn, 1) := by decide +kernel
theorem dX4_transfer_28 : decode cX4_transfer 28 = .ok (.aload_n 0, 1) := by decide +kernel
theorem dX4_transfer_29 : decode cX4_transfer 29 = .ok (.getfield 27, 3) := by decide +kernel
theorem dX4_transfer_32 : decode cX4_transfer 32 = .ok (.aload_n 0, 1) := by decide +kernel
theorem dX4_transfer_33 : decode cX4_transfer 33 = .ok (.getfield 31, 3) := by decide +kernel
theorem dX4_transfer_36 : decode cX4_transfer 36 = .ok (.invokevirtual 125, 3) := by decide +kernel
theorem dX4_transfer_39 : decode cX4_transfer 39 = .ok (.iconst 0, 1) := by decide +kernel
theorem dX4_transfer_40 : decode cX4_transfer 40 = .ok (.ireturn, 1) := by decide +kernel
theorem dX4_callAddress_0 : decode cX4_callAddress 0 = .ok (.aload_n 0, 1) := by decide +kernel
theorem dX4_callAddress_1 : decode cX4_callAddress 1 = .ok (.getfield 10, 3) := by decide +kernel
theorem dX4_callAddress_4 : decode cX4_callAddress 4 = .ok (.aload_n 0, 1) := by decide +kernel
theorem dX4_callAddress_5 : decode cX4_callAddress 5 = .ok (.getfield 31, 3) := by decide +kernel
theorem dX4_callAddress_8 : decode cX4_callAddress 8 = .ok (.getfield 119, 3) := by decide +kernel
theorem dX4_callAddress_11 : decode cX4_callAddress 11 = .ok (.iconst 1, 1) := by decide +kernel
theorem dX4_callAddress_12 : decode cX4_callAddress 12 = .ok (.invokevirtual 224, 3) := by decide +kernel
theorem dX4_callAddress_15 : decode cX4_callAddress 15 = .ok (.astore_n 1, 1) := by decide +kernel
theorem dX4_callAddress_16 : decode cX4_callAddress 16 = .ok (.aload_n 1, 1) := by decide +kernel
theorem dX4_callAddress_17 : decode cX4_callAddress 17 = .ok (.getfield 228, 3) := by decide +kernel
theorem dX4_callAddress_20 : decode cX4_callAddress 20 = .ok (.ifCond .ne 5, 3) := by decide +kernel
theorem dX4_callAddress_23 : decode cX4_callAddress 23 = .ok (.iconst 1, 1) := by decide +kernel
theorem dX4_callAddress_24 : decode cX4_callAddress 24 = .ok (.ireturn, 1) := by decide +kernel
theorem dX4_callAddress_25 : decode cX4_callAddress 25 = .ok (.aload_n 1, 1) := by decide +kernel
theorem dX4_callAddress_26 : decode cX4_callAddress 26 = .ok (.getfield 231, 3) := by decide +kernel
theorem dX4_callAddress_29 : decode cX4_callAddress 29 = .ok (.ifCond .ne 5, 3) := by decide +kernel
theorem dX4_callAddress_32 : decode cX4_callAddress 32 = .ok (.iconst 4, 1) := by decide +kernel
theorem dX4_callAddress_33 : decode cX4_callAddress 33 = .ok (.ireturn, 1) := by decide +kernel
theorem dX4_callAddress_34 : decode cX4_callAddress 34 = .ok (.aload_n 1, 1) := by decide +kernel
theorem dX4_callAddress_35 : decode cX4_callAddress 35 = .ok (.aload_n 0, 1) := by decide +kernel
theorem dX4_callAddress_36 : decode cX4_callAddress 36 = .ok (.getfield 31, 3) := by decide +kernel
theorem dX4_callAddress_39 : decode cX4_callAddress 39 = .ok (.getfield 122, 3) := by decide +kernel
theorem dX4_callAddress_42 : decode cX4_callAddress 42 = .ok (.aload_n 0, 1) := by decide +kernel
theorem dX4_callAddress_43 : decode cX4_callAddress 43 = .ok (.getfield 31, 3) := by decide +kernel
theorem dX4_callAddress_46 : decode cX4_callAddress 46 = .ok (.getfield 129, 3) := by decide +kernel
theorem dX4_callAddress_49 : decode cX4_callAddress 49 = .ok (.invokevirtual 234, 3) := by decide +kernel
theorem dX4_callAddress_52 : decode cX4_callAddress 52 = .ok (.istore_n 2, 1) := by decide +kernel
theorem dX4_callAddress_53 : decode cX4_callAddress 53 = .ok (.iload_n 2, 1) := by decide +kernel
theorem dX4_callAddress_54 : decode cX4_callAddress 54 = .ok (.iconst (-1), 1) := by decide +kernel
theorem dX4_callAddress_55 : decode cX4_callAddress 55 = .ok (.if_icmp .ne 5, 3) := by decide +kernel
theorem dX4_callAddress_58 : decode cX4_callAddress 58 = .ok (.iconst 5, 1) := by decide +kernel
theorem dX4_callAddress_59 : decode cX4_callAddress 59 = .ok (.ireturn, 1) := by decide +kernel
theorem dX4_callAddress_60 : decode cX4_callAddress 60 = .ok (.aload_n 0, 1) := by decide +kernel
theorem dX4_callAddress_61 : decode cX4_callAddress 61 = .ok (.invokevirtual 180, 3) := by decide +kernel
theorem dX4_callAddress_64 : decode cX4_callAddress 64 = .ok (.pop, 1) := by decide +kernel
theorem dX4_callAddress_65 : decode cX4_callAddress 65 = .ok (.aload_n 0, 1) := by decide +kernel
theorem dX4_callAddress_66 : decode cX4_callAddress 66 = .ok (.getfield 23, 3) := by decide +kernel
theorem dX4_callAddress_69 : decode cX4_callAddress 69 = .ok (.iconst 0, 1) := by decide +kernel
theorem dX4_callAddress_70 : decode cX4_callAddress 70 = .ok (.aaload, 1) := by decide +kernel
theorem dX4_callAddress_71 : decode cX4_callAddress 71 = .ok (.aload_n 0, 1) := by decide +kernel
theorem dX4_callAddress_72 : decode cX4_callAddress 72 = .ok (.getfield 27, 3) := by decide +kernel
theorem dX4_callAddress_75 : decode cX4_callAddress 75 = .ok (.invokevirtual 125, 3) := by decide +kernel
theorem dX4_callAddress_78 : decode cX4_callAddress 78 = .ok (.aload_n 0, 1) := by decide +kernel
theorem dX4_callAddress_79 : decode cX4_callAddress 79 = .ok (.getfield 27, 3) := by decide +kernel
theorem dX4_callAddress_82 : decode cX4_callAddress 82 = .ok (.aload_n 0, 1) := by decide +kernel
theorem dX4_callAddress_83 : decode cX4_callAddress 83 = .ok (.getfield 31, 3) := by decide +kernel
theorem dX4_callAddress_86 : decode cX4_callAddress 86 = .ok (.invokevirtual 125, 3) := by decide +kernel
theorem dX4_callAddress_89 : decode cX4_callAddress 89 = .ok (.aload_n 0, 1) := by decide +kernel
theorem dX4_callAddress_90 : decode cX4_callAddress 90 = .ok (.getfield 27, 3) := by decide +kernel
theorem dX4_callAddress_93 : decode cX4_callAddress 93 = .ok (.iload_n 2, 1) := by decide +kernel
theorem dX4_callAddress_94 : decode cX4_callAddress 94 = .ok (.putfield 129, 3) := by decide +kernel
theorem dX4_callAddress_97 : decode cX4_callAddress 97 = .ok (.iconst 0, 1) := by decide +kernel
theorem dX4_callAddress_98 : decode cX4_callAddress 98 = .ok (.ireturn, 1) := by decide +kernel
theorem dX4_returnByWord_0 : decode cX4_returnByWord 0 = .ok (.aload_n 0, 1) := by decide +kernel
theorem dX4_returnByWord_1 : decode cX4_returnByWord 1 = .ok (.getfield 10, 3) := by decide +kernel
theorem dX4_returnByWord_4 : decode cX4_returnByWord 4 = .ok (.aload_n 0, 1) := by decide +kernel
theorem dX4_returnByWord_5 : decode cX4_returnByWord 5 = .ok (.getfield 31, 3) := by decide +kernel
theorem dX4_returnByWord_8 : decode cX4_returnByWord 8 = .ok (.iconst 0, 1) := by decide +kernel
theorem dX4_returnByWord_9 : decode cX4_returnByWord 9 = .ok (.invokevirtual 132, 3) := by decide +kernel
theorem dX4_returnByWord_12 : decode cX4_returnByWord 12 = .ok (.lstore_n 1, 1) := by decide +kernel
theorem dX4_returnByWord_13 : decode cX4_returnByWord 13 = .ok (.lload_n 1, 1) := by decide +kernel
theorem dX4_returnByWord_14 : decode cX4_returnByWord 14 = .ok (.lconst 0, 1) := by decide +kernel
theorem dX4_returnByWord_15 : decode cX4_returnByWord 15 = .ok (.lcmp, 1) := by decide +kernel
theorem dX4_returnByWord_16 : decode cX4_returnByWord 16 = .ok (.ifCond .ge 8, 3) := by decide +kernel
theorem dX4_returnByWord_19 : decode cX4_returnByWord 19 = .ok (.lload_n 1, 1) := by decide +kernel
theorem dX4_returnByWord_20 : decode cX4_returnByWord 20 = .ok (.invokestatic 136, 3) := by decide +kernel
theorem dX4_returnByWord_23 : decode cX4_returnByWord 23 = .ok (.ireturn, 1) := by decide +kernel
theorem dX4_returnByWord_24 : decode cX4_returnByWord 24 = .ok (.lload_n 1, 1) := by decide +kernel
theorem dX4_returnByWord_25 : decode cX4_returnByWord 25 = .ok (.bipush 33, 2) := by decide +kernel
theorem dX4_returnByWord_27 : decode cX4_returnByWord 27 = .ok (.iconst 3, 1) := by decide +kernel
theorem dX4_returnByWord_28 : decode cX4_returnByWord 28 = .ok (.invokestatic 53, 3) := by decide +kernel
theorem dX4_returnByWord_31 : decode cX4_returnByWord 31 = .ok (.iconst 1, 1) := by decide +kernel
theorem dX4_returnByWord_32 : decode cX4_returnByWord 32 = .ok (.if_icmp .eq 6, 3) := by decide +kernel
theorem dX4_returnByWord_35 : decode cX4_returnByWord 35 = .ok (.bipush 6, 2) := by decide +kernel
theorem dX4_returnByWord_37 : decode cX4_returnByWord 37 = .ok (.ireturn, 1) := by decide +kernel
theorem dX4_returnByWord_38 : decode cX4_returnByWord 38 = .ok (.aload_n 0, 1) := by decide +kernel
theorem dX4_returnByWord_39 : decode cX4_returnByWord 39 = .ok (.getfield 27, 3) := by decide +kernel
theorem dX4_returnByWord_42 : decode cX4_returnByWord 42 = .ok (.getfield 129, 3) := by decide +kernel
theorem dX4_returnByWord_45 : decode cX4_returnByWord 45 = .ok (.aload_n 0, 1) := by decide +kernel
theorem dX4_returnByWord_46 : decode cX4_returnByWord 46 = .ok (.getfield 31, 3) := by decide +kernel
theorem dX4_returnByWord_49 : decode cX4_returnByWord 49 = .ok (.getfield 129, 3) := by decide +kernel
theorem dX4_returnByWord_52 : decode cX4_returnByWord 52 = .ok (.invokestatic 160, 3) := by decide +kernel
theorem dX4_returnByWord_55 : decode cX4_returnByWord 55 = .ok (.istore_n 3, 1) := by decide +kernel
theorem dX4_returnByWord_56 : decode cX4_returnByWord 56 = .ok (.aload_n 0, 1) := by decide +kernel
theorem dX4_returnByWord_57 : decode cX4_returnByWord 57 = .ok (.getfield 27, 3) := by decide +kernel
theorem dX4_returnByWord_60 : decode cX4_returnByWord 60 = .ok (.lload_n 1, 1) := by decide +kernel
theorem dX4_returnByWord_61 : decode cX4_returnByWord 61 = .ok (.invokevirtual 57, 3) := by decide +kernel
theorem dX4_returnByWord_64 : decode cX4_returnByWord 64 = .ok (.aload_n 0, 1) := by decide +kernel
theorem dX4_returnByWord_65 : decode cX4_returnByWord 65 = .ok (.getfield 27, 3) := by decide +kernel
theorem dX4_returnByWord_68 : decode cX4_returnByWord 68 = .ok (.iload_n 3, 1) := by decide +kernel
theorem dX4_returnByWord_69 : decode cX4_returnByWord 69 = .ok (.aload_n 0, 1) := by decide +kernel
theorem dX4_returnByWord_70 : decode cX4_returnByWord 70 = .ok (.getfield 27, 3) := by decide +kernel
theorem dX4_returnByWord_73 : decode cX4_returnByWord 73 = .ok (.getfield 129, 3) := by decide +kernel
theorem dX4_returnByWord_76 : decode cX4_returnByWord 76 = .ok (.invokestatic 160, 3) := by decide +kernel
theorem dX4_returnByWord_79 : decode cX4_returnByWord 79 = .ok (.putfield 129, 3) := by decide +kernel
theorem dX4_returnByWord_82 : decode cX4_returnByWord 82 = .ok (.iconst 0, 1) := by decide +kernel
theorem dX4_returnByWord_83 : decode cX4_returnByWord 83 = .ok (.ireturn, 1) := by decide +kernel
theorem kw87 : Cond.fieldLink RX4 27 RX4 "counter" "LRingProcessor$Pointer;" ∈ gG := inG 183 (by decide +kernel) (by decide +kernel)
theorem kw88 : Cond.fieldLink RX4 122 RX2 "word" "I" ∈ gG := inG 167 (by decide +kernel) (by decide +kernel)
theorem kw89 : Cond.methodLink RX4 156 yX4_sum ∈ gG := inG 443 (by decide +kernel) (by decide +kernel)
theorem kw90 : Cond.fieldLink RX4 46 RX4 "a" "J" ∈ gG := inG 179 (by decide +kernel) (by decide +kernel)
theorem kw91 : Cond.fieldLink RX4 50 RX4 "q" "J" ∈ gG := inG 180 (by decide +kernel) (by decide +kernel)
theorem kw92 : Cond.code yX4_advance cX4_advance 1 (some .int) ∈ gG := inG 442 (by decide +kernel) (by decide +kernel)
theorem kw93 : Cond.methodLink RX4 180 yX4_advance ∈ gG := inG 439 (by decide +kernel) (by decide +kernel)
theorem kw94 : Cond.instanceMethod yX4_advance ∈ gG := inG 441 (by decide +kernel) (by decide +kernel)
theorem kw95 : Cond.selects RX4 yX4_advance yX4_advance ∈ gG := inG 5 (by decide +kernel) (by decide +kernel)
theorem kw96 : Cond.fieldLink RX4 83 RX4 "handles" "Z" ∈ gG := inG 187 (by decide +kernel) (by decide +kernel)
theorem kw97 : Cond.fieldLink RX4 34 RX4 "savedCounter" "LRingProcessor$Pointer;" ∈ gG := inG 185 (by decide +kernel) (by decide +kernel)
theorem kw98 : Cond.code yX2_become cX2_become 2 none ∈ gG := inG 383 (by decide +kernel) (by decide +kernel)
theorem kw99 : Cond.initialized RX2 ∈ gG := inG 47 (by decide +kernel) (by decide +kernel)
theorem kw100 : Cond.methodLink RX4 125 yX2_become ∈ gG := inG 380 (by decide +kernel) (by decide +kernel)
theorem kw101 : Cond.instanceMethod yX2_become ∈ gG := inG 381 (by decide +kernel) (by decide +kernel)
theorem kw102 : Cond.selects RX2 yX2_become yX2_become ∈ gG := inG 382 (by decide +kernel) (by decide +kernel)
theorem kw103 : Cond.fieldLink RX4 68 RX4 "stopped" "Z" ∈ gG := inG 188 (by decide +kernel) (by decide +kernel)
theorem kw104 : Cond.fieldLink RX4 10 RX4 "store" "LRingProcessor$Store;" ∈ gG := inG 178 (by decide +kernel) (by decide +kernel)
theorem kw105 : Cond.fieldLink RX4 102 RX3 "descriptors" "LRingProcessor$Copies;" ∈ gG := inG 141 (by decide +kernel) (by decide +kernel)
theorem kw106 : Cond.code yX0_clear cX0_clear 1 none ∈ gG := inG 459 (by decide +kernel) (by decide +kernel)
theorem kw107 : Cond.methodLink RX4 192 yX0_clear ∈ gG := inG 456 (by decide +kernel) (by decide +kernel)
theorem kw108 : Cond.instanceMethod yX0_clear ∈ gG := inG 457 (by decide +kernel) (by decide +kernel)
theorem kw109 : Cond.selects RX0 yX0_clear yX0_clear ∈ gG := inG 458 (by decide +kernel) (by decide +kernel)
theorem kw110 : Cond.fieldLink RX4 112 RX3 "pages" "LRingProcessor$Copies;" ∈ gG := inG 143 (by decide +kernel) (by decide +kernel)
theorem kw111 : Cond.code yX4_goBack cX4_goBack 1 (some .int) ∈ gG := inG 455 (by decide +kernel) (by decide +kernel)
theorem kw112 : Cond.methodLink RX4 189 yX4_goBack ∈ gG := inG 452 (by decide +kernel) (by decide +kernel)
theorem kw113 : Cond.instanceMethod yX4_goBack ∈ gG := inG 454 (by decide +kernel) (by decide +kernel)
theorem kw114 : Cond.selects RX4 yX4_goBack yX4_goBack ∈ gG := inG 8 (by decide +kernel) (by decide +kernel)
theorem kw115 : Cond.code yX4_exchange cX4_exchange 3 (some .int) ∈ gG := inG 447 (by decide +kernel) (by decide +kernel)
theorem kw116 : Cond.methodLink RX4 183 yX4_exchange ∈ gG := inG 444 (by decide +kernel) (by decide +kernel)
theorem kw117 : Cond.instanceMethod yX4_exchange ∈ gG := inG 446 (by decide +kernel) (by decide +kernel)
theorem kw118 : Cond.selects RX4 yX4_exchange yX4_exchange ∈ gG := inG 6 (by decide +kernel) (by decide +kernel)
theorem kw119 : Cond.fieldLink RX4 129 RX2 "ring" "I" ∈ gG := inG 170 (by decide +kernel) (by decide +kernel)
theorem kw120 : Cond.code yX4_performInRing0 cX4_performInRing0 2 (some .int) ∈ gG := inG 451 (by decide +kernel) (by decide +kernel)
theorem kw121 : Cond.methodLink RX4 186 yX4_performInRing0 ∈ gG := inG 448 (by decide +kernel) (by decide +kernel)
theorem kw122 : Cond.instanceMethod yX4_performInRing0 ∈ gG := inG 450 (by decide +kernel) (by decide +kernel)
theorem kw123 : Cond.selects RX4 yX4_performInRing0 yX4_performInRing0 ∈ gG := inG 7 (by decide +kernel) (by decide +kernel)
theorem kw124 : Cond.fieldLink RX4 31 RX4 "target" "LRingProcessor$Pointer;" ∈ gG := inG 184 (by decide +kernel) (by decide +kernel)
theorem kw125 : Cond.code yX3_read cX3_read 4 (some .long) ∈ gG := inG 387 (by decide +kernel) (by decide +kernel)
theorem kw126 : Cond.methodLink RX4 132 yX3_read ∈ gG := inG 384 (by decide +kernel) (by decide +kernel)
theorem kw127 : Cond.instanceMethod yX3_read ∈ gG := inG 385 (by decide +kernel) (by decide +kernel)
theorem kw128 : Cond.selects RX3 yX3_read yX3_read ∈ gG := inG 386 (by decide +kernel) (by decide +kernel)
theorem kw129 : Cond.code yX4_combined cX4_combined 4 (some .long) ∈ gG := inG 525 (by decide +kernel) (by decide +kernel)
theorem kw130 : Cond.methodLink RX4 216 yX4_combined ∈ gG := inG 522 (by decide +kernel) (by decide +kernel)
theorem kw131 : Cond.instanceMethod yX4_combined ∈ gG := inG 524 (by decide +kernel) (by decide +kernel)
theorem kw132 : Cond.selects RX4 yX4_combined yX4_combined ∈ gG := inG 20 (by decide +kernel) (by decide +kernel)
theorem kw133 : Cond.constantLong RX4 44 68719476735 ∈ gG := inG 319 (by decide +kernel) (by decide +kernel)
theorem kw134 : Cond.fieldLink RX4 16 RX4 "indexes" "[I" ∈ gG := inG 181 (by decide +kernel) (by decide +kernel)
theorem kw135 : Cond.methodLink RX4 53 yX4_field ∈ gG := inG 334 (by decide +kernel) (by decide +kernel)
theorem kw136 : Cond.methodLink RX4 136 yX4_faultOf ∈ gG := inG 431 (by decide +kernel) (by decide +kernel)
theorem kw137 : Cond.code yX3_write cX3_write 5 (some .int) ∈ gG := inG 489 (by decide +kernel) (by decide +kernel)
theorem kw138 : Cond.methodLink RX4 220 yX3_write ∈ gG := inG 486 (by decide +kernel) (by decide +kernel)
theorem kw139 : Cond.instanceMethod yX3_write ∈ gG := inG 487 (by decide +kernel) (by decide +kernel)
theorem kw140 : Cond.selects RX3 yX3_write yX3_write ∈ gG := inG 488 (by decide +kernel) (by decide +kernel)
theorem kw141 : Cond.fieldLink RX4 119 RX2 "segment" "I" ∈ gG := inG 164 (by decide +kernel) (by decide +kernel)
theorem kw142 : Cond.methodLink RX4 224 yX3_lookForDescriptor ∈ gG := inG 509 (by decide +kernel) (by decide +kernel)
theorem kw143 : Cond.fieldLink RX4 228 RX1 "isThere" "Z" ∈ gG := inG 100 (by decide +kernel) (by decide +kernel)
theorem kw144 : Cond.fieldLink RX4 231 RX1 "mayBeExecuted" "Z" ∈ gG := inG 113 (by decide +kernel) (by decide +kernel)
theorem kw145 : Cond.code yX1_ringOfCall cX1_ringOfCall 3 (some .int) ∈ gG := inG 513 (by decide +kernel) (by decide +kernel)
theorem kw146 : Cond.methodLink RX4 234 yX1_ringOfCall ∈ gG := inG 510 (by decide +kernel) (by decide +kernel)
theorem kw147 : Cond.instanceMethod yX1_ringOfCall ∈ gG := inG 511 (by decide +kernel) (by decide +kernel)
theorem kw148 : Cond.selects RX1 yX1_ringOfCall yX1_ringOfCall ∈ gG := inG 512 (by decide +kernel) (by decide +kernel)
theorem kw149 : Cond.fieldLink RX4 23 RX4 "pointers" "[LRingProcessor$Pointer;" ∈ gG := inG 182 (by decide +kernel) (by decide +kernel)
theorem kw150 : Cond.methodLink RX4 160 Lib.Math.max.name ∈ gG := inG 465 (by decide +kernel) (by decide +kernel)
theorem kw151 : Cond.static Lib.Math.max.name ∈ gG := inG 466 (by decide +kernel) (by decide +kernel)
theorem kw152 : Cond.initialized "java/lang/Math" ∈ gG := inG 54 (by decide +kernel) (by decide +kernel)
theorem kw153 : Cond.code Lib.Math.max.name Lib.Math.max.code 2 (some .int) ∈ gG := inG 467 (by decide +kernel) (by decide +kernel)
theorem kw154 : Cond.code yX2_takeFrom cX2_takeFrom 3 none ∈ gG := inG 340 (by decide +kernel) (by decide +kernel)
theorem kw155 : Cond.methodLink RX4 57 yX2_takeFrom ∈ gG := inG 337 (by decide +kernel) (by decide +kernel)
theorem kw156 : Cond.instanceMethod yX2_takeFrom ∈ gG := inG 338 (by decide +kernel) (by decide +kernel)
theorem kw157 : Cond.selects RX2 yX2_takeFrom yX2_takeFrom ∈ gG := inG 339 (by decide +kernel) (by decide +kernel)
theorem hdX4_advance : yX4_advance.cls ≠ "java/lang/invoke/MethodHandle" ∧ yX4_advance.cls ≠ "java/lang/invoke/VarHandle" ∧ (parseMethodDescriptor yX4_advance.desc).map (fun d => d.parameters.length) = some 0 := by decide +kernel
theorem hdX2_become : yX2_become.cls ≠ "java/lang/invoke/MethodHandle" ∧ yX2_become.cls ≠ "java/lang/invoke/VarHandle" ∧ (parseMethodDescriptor yX2_become.desc).map (fun d => d.parameters.length) = some 1 := by decide +kernel
theorem hdX0_clear : yX0_clear.cls ≠ "java/lang/invoke/MethodHandle" ∧ yX0_clear.cls ≠ "java/lang/invoke/VarHandle" ∧ (parseMethodDescriptor yX0_clear.desc).map (fun d => d.parameters.length) = some 0 := by decide +kernel
theorem hdX4_goBack : yX4_goBack.cls ≠ "java/lang/invoke/MethodHandle" ∧ yX4_goBack.cls ≠ "java/lang/invoke/VarHandle" ∧ (parseMethodDescriptor yX4_goBack.desc).map (fun d => d.parameters.length) = some 0 := by decide +kernel
theorem hdX4_exchange : yX4_exchange.cls ≠ "java/lang/invoke/MethodHandle" ∧ yX4_exchange.cls ≠ "java/lang/invoke/VarHandle" ∧ (parseMethodDescriptor yX4_exchange.desc).map (fun d => d.parameters.length) = some 0 := by decide +kernel
theorem hdX4_performInRing0 : yX4_performInRing0.cls ≠ "java/lang/invoke/MethodHandle" ∧ yX4_performInRing0.cls ≠ "java/lang/invoke/VarHandle" ∧ (parseMethodDescriptor yX4_performInRing0.desc).map (fun d => d.parameters.length) = some 1 := by decide +kernel
theorem hdX3_read : yX3_read.cls ≠ "java/lang/invoke/MethodHandle" ∧ yX3_read.cls ≠ "java/lang/invoke/VarHandle" ∧ (parseMethodDescriptor yX3_read.desc).map (fun d => d.parameters.length) = some 2 := by decide +kernel
theorem hdX4_combined : yX4_combined.cls ≠ "java/lang/invoke/MethodHandle" ∧ yX4_combined.cls ≠ "java/lang/invoke/VarHandle" ∧ (parseMethodDescriptor yX4_combined.desc).map (fun d => d.parameters.length) = some 2 := by decide +kernel
theorem hdX3_write : yX3_write.cls ≠ "java/lang/invoke/MethodHandle" ∧ yX3_write.cls ≠ "java/lang/invoke/VarHandle" ∧ (parseMethodDescriptor yX3_write.desc).map (fun d => d.parameters.length) = some 2 := by decide +kernel
theorem hdX1_ringOfCall : yX1_ringOfCall.cls ≠ "java/lang/invoke/MethodHandle" ∧ yX1_ringOfCall.cls ≠ "java/lang/invoke/VarHandle" ∧ (parseMethodDescriptor yX1_ringOfCall.desc).map (fun d => d.parameters.length) = some 2 := by decide +kernel
theorem hdX2_takeFrom : yX2_takeFrom.cls ≠ "java/lang/invoke/MethodHandle" ∧ yX2_takeFrom.cls ≠ "java/lang/invoke/VarHandle" ∧ (parseMethodDescriptor yX2_takeFrom.desc).map (fun d => d.parameters.length) = some 1 := by decide +kernel
end
section
def fnX4_advance (x : TR)  : Int32 × TR :=
  let p1 := fnX4_sum x.2.2.2.2.1.2.1 (1 : Int32)
  ((0 : Int32), (x.1, x.2.1, x.2.2.1, x.2.2.2.1, (x.2.2.2.2.1.1, p1, x.2.2.2.2.1.2.2), x.2.2.2.2.2.1, x.2.2.2.2.2.2.1, x.2.2.2.2.2.2.2))
abbrev ivX4_advanceP (z : Int32 × TR) : Prop := i4 z.1 ∧ iR z.2
set_option maxRecDepth 100000 in
set_option maxHeartbeats 4000000 in
theorem ivX4_advance (x : TR)  (hI : iR x) : ivX4_advanceP (fnX4_advance x) := by
  unfold fnX4_advance
  try dsimp only
  have j1 : i12 (fnX4_sum x.2.2.2.2.1.2.1 (1 : Int32)) := (sumX x.2.2.2.2.1.2.1 (1 : Int32))
  generalize fnX4_sum x.2.2.2.2.1.2.1 (1 : Int32) = p1 at j1 ⊢
  exact ⟨(show i4 (0 : Int32) from by decide), ⟨hI.1, hI.2.1, hI.2.2.1, hI.2.2.2.1, ⟨hI.2.2.2.2.1.1, j1, hI.2.2.2.2.1.2.2⟩, hI.2.2.2.2.2.1, hI.2.2.2.2.2.2.1, hI.2.2.2.2.2.2.2⟩⟩
set_option maxRecDepth 100000 in
set_option maxHeartbeats 4000000 in
theorem okX4_advance (l : Launch) (D : va_G) (cI cJ cP : ClassId) (ad : Nat → Nat) (sz : Nat) (x : TR)  (hI : iR x) : Met l yX4_advance (Cond.code yX4_advance cX4_advance 1 (some .int) :: gG) { frames := 1, cells := 0, slots := 0, locals := 21 } (va_Pc [.ref (ad 0)] (PRE D (tz cI cJ cP) sz (wR cI cJ cP ad x))) (va_Qi (fun (r : Int32) (u : TR) => (r, u) = fnX4_advance x) (AT D (tz cI cJ cP) (va_A (wR cI cJ cP ad x) sz) (fun (u : TR) => (wR cI cJ cP ad u))) (va_A (wR cI cJ cP ad x) sz)) 0 0 (va_A (wR cI cJ cP ad x) sz) := by
  refine mo (QA := fun A => va_Qi (fun (r : Int32) (u : TR) => (r, u) = fnX4_advance x) (AT D (tz cI cJ cP) A (fun (u : TR) => (wR cI cJ cP ad u))) A) (by decide) (Nat.le_of_ble_eq_true rfl) ?_
  intro p e s m below meth c A ls H hx hb hr hml hown hG hlocks hnm hA hS hP hK hD hl hN
  have hown : s.vm.findClass RX4 = some m.cls := hown
  have hl : lv_has ls 1 [(0, .ref (ad 0))] := hl
  refine lv_aload_n hx hb dX4_advance_0 rfl (lv_at hl 0 rfl) ?_
  refine va_get (D := D) (ci := 4) (v := .ref (ad 19)) hx hb hG inX4 hown hK hP 0 rfl rfl 5 (by decide) (hG _ kw87) (fun _ h9 => h9) rfl dX4_advance_1 ?_
  refine lv_aload_n hx hb dX4_advance_4 rfl (lv_at hl 0 rfl) ?_
  refine va_get (D := D) (ci := 4) (v := .ref (ad 19)) hx hb hG inX4 hown hK hP 0 rfl rfl 5 (by decide) (hG _ kw87) (fun _ h9 => h9) rfl dX4_advance_5 ?_
  refine va_get (D := D) (ci := 2) (v := .int (x.2.2.2.2.1.2.1)) hx hb hG inX2 hown hK hP 19 rfl rfl 1 (by decide) (hG _ kw88) (fun _ h9 => h9) rfl dX4_advance_8 ?_
  refine lv_iconst (v := 1) hx hb dX4_advance_11 (by decide) ?_
  refine k0Si (As := [.int (x.2.2.2.2.1.2.1), .int ((1 : Int32))]) (rest := [.ref (ad 19)]) hx hb hml hown hG hl (okX4_sum l D cI cJ cP  H.size x.2.2.2.2.1.2.1 (1 : Int32) ) (cS 2 hG kw34 kw89 kw35 kw5 hdX4_sum ⟨by decide, by decide⟩) hK hP hD hS hA hN rfl rfl (Nat.le_of_ble_eq_true rfl) dX4_advance_12 ⟨Nat.zero_le _, Nat.zero_le _⟩ (fun r1 q1 H locs hP hD hS => ?_)
  have j1 : i12 r1 := by rw [q1]; exact (sumX x.2.2.2.2.1.2.1 (1 : Int32))
  refine pu (D := D) (ci := 2) (v := .int (r1)) (ty := .int) (W' := (wR cI cJ cP ad (x.1, x.2.1, x.2.2.1, x.2.2.2.1, (x.2.2.2.2.1.1, r1, x.2.2.2.2.1.2.2), x.2.2.2.2.2.1, x.2.2.2.2.2.2.1, x.2.2.2.2.2.2.2))) hx hb hG inX2 tyX2 tyokX2 nmX2 hown hK hP hD hS 19 rfl rfl 1 (by decide) (hG _ kw88) (fun _ h9 => h9) rfl (by decide +kernel) rfl rfl (Nat.le_of_ble_eq_true rfl) dX4_advance_15 rfl (fun H locs hP hD hS => ?_)
  refine lv_iconst (v := 0) hx hb dX4_advance_18 (by decide) ?_
  exact reti (u := (x.1, x.2.1, x.2.2.1, x.2.2.2.1, (x.2.2.2.2.1.1, r1, x.2.2.2.2.1.2.2), x.2.2.2.2.2.1, x.2.2.2.2.2.2.1, x.2.2.2.2.2.2.2)) hx hb hr hlocks hK hP hD hS dX4_advance_19 (by unfold fnX4_advance; rw [← q1]; (try dsimp only); (try exact rfl))
def fnX4_exchange (x : TR)  : Int32 × TR :=
  let p1 := fnX4_advance ((x.1.2, x.1.1), x.2.1, x.2.2.1, x.2.2.2.1, x.2.2.2.2.1, x.2.2.2.2.2.1, x.2.2.2.2.2.2.1, x.2.2.2.2.2.2.2)
  (p1.1, p1.2)
abbrev ivX4_exchangeP (z : Int32 × TR) : Prop := i4 z.1 ∧ iR z.2
set_option maxRecDepth 100000 in
set_option maxHeartbeats 4000000 in
theorem ivX4_exchange (x : TR)  (hI : iR x) : ivX4_exchangeP (fnX4_exchange x) := by
  unfold fnX4_exchange
  try dsimp only
  have j1 : ivX4_advanceP (fnX4_advance ((x.1.2, x.1.1), x.2.1, x.2.2.1, x.2.2.2.1, x.2.2.2.2.1, x.2.2.2.2.2.1, x.2.2.2.2.2.2.1, x.2.2.2.2.2.2.2)) := ivX4_advance ((x.1.2, x.1.1), x.2.1, x.2.2.1, x.2.2.2.1, x.2.2.2.2.1, x.2.2.2.2.2.1, x.2.2.2.2.2.2.1, x.2.2.2.2.2.2.2) ⟨⟨hI.1.2, hI.1.1⟩, hI.2.1, hI.2.2.1, hI.2.2.2.1, hI.2.2.2.2.1, hI.2.2.2.2.2.1, hI.2.2.2.2.2.2.1, hI.2.2.2.2.2.2.2⟩
  generalize fnX4_advance ((x.1.2, x.1.1), x.2.1, x.2.2.1, x.2.2.2.1, x.2.2.2.2.1, x.2.2.2.2.2.1, x.2.2.2.2.2.2.1, x.2.2.2.2.2.2.2) = p1 at j1 ⊢
  exact ⟨j1.1, j1.2⟩
set_option maxRecDepth 100000 in
set_option maxHeartbeats 4000000 in
theorem okX4_exchange (l : Launch) (D : va_G) (cI cJ cP : ClassId) (ad : Nat → Nat) (sz : Nat) (x : TR)  (hI : iR x) : Met l yX4_exchange (Cond.code yX4_exchange cX4_exchange 3 (some .int) :: gG) { frames := 2, cells := 0, slots := 0, locals := 41 } (va_Pc [.ref (ad 0)] (PRE D (tz cI cJ cP) sz (wR cI cJ cP ad x))) (va_Qi (fun (r : Int32) (u : TR) => (r, u) = fnX4_exchange x) (AT D (tz cI cJ cP) (va_A (wR cI cJ cP ad x) sz) (fun (u : TR) => (wR cI cJ cP ad u))) (va_A (wR cI cJ cP ad x) sz)) 0 0 (va_A (wR cI cJ cP ad x) sz) := by
  refine mo (QA := fun A => va_Qi (fun (r : Int32) (u : TR) => (r, u) = fnX4_exchange x) (AT D (tz cI cJ cP) A (fun (u : TR) => (wR cI cJ cP ad u))) A) (by decide) (Nat.le_of_ble_eq_true rfl) ?_
  intro p e s m below meth c A ls H hx hb hr hml hown hG hlocks hnm hA hS hP hK hD hl hN
  have hown : s.vm.findClass RX4 = some m.cls := hown
  have hl : lv_has ls 3 [(0, .ref (ad 0))] := hl
  refine lv_aload_n hx hb dX4_exchange_0 rfl (lv_at hl 0 rfl) ?_
  refine va_get (D := D) (ci := 4) (v := .long (x.1.1)) hx hb hG inX4 hown hK hP 0 rfl rfl 1 (by decide) (hG _ kw90) (fun _ h9 => h9) rfl dX4_exchange_1 ?_
  refine lv_lstore_n (lv' := [(1, .long (x.1.1)), (0, .ref (ad 0))]) hx hb dX4_exchange_4 rfl hl (by decide) rfl (fun ls hl => ?_)
  refine lv_aload_n hx hb dX4_exchange_5 rfl (lv_at hl 1 rfl) ?_
  refine lv_aload_n hx hb dX4_exchange_6 rfl (lv_at hl 1 rfl) ?_
  refine va_get (D := D) (ci := 4) (v := .long (x.1.2)) hx hb hG inX4 hown hK hP 0 rfl rfl 2 (by decide) (hG _ kw91) (fun _ h9 => h9) rfl dX4_exchange_7 ?_
  refine pu (D := D) (ci := 4) (v := .long (x.1.2)) (ty := .long) (W' := (wR cI cJ cP ad ((x.1.2, x.1.2), x.2.1, x.2.2.1, x.2.2.2.1, x.2.2.2.2.1, x.2.2.2.2.2.1, x.2.2.2.2.2.2.1, x.2.2.2.2.2.2.2))) hx hb hG inX4 tyX4 tyokX4 nmX4 hown hK hP hD hS 0 rfl rfl 1 (by decide) (hG _ kw90) (fun _ h9 => h9) rfl (by decide +kernel) rfl rfl (Nat.le_of_ble_eq_true rfl) dX4_exchange_10 rfl (fun H locs hP hD hS => ?_)
  refine lv_aload_n hx hb dX4_exchange_13 rfl (lv_at hl 1 rfl) ?_
  refine lv_lload_n hx hb dX4_exchange_14 rfl (lv_at hl 0 rfl) ?_
  refine pu (D := D) (ci := 4) (v := .long (x.1.1)) (ty := .long) (W' := (wR cI cJ cP ad ((x.1.2, x.1.1), x.2.1, x.2.2.1, x.2.2.2.1, x.2.2.2.2.1, x.2.2.2.2.2.1, x.2.2.2.2.2.2.1, x.2.2.2.2.2.2.2))) hx hb hG inX4 tyX4 tyokX4 nmX4 hown hK hP hD hS 0 rfl rfl 2 (by decide) (hG _ kw91) (fun _ h9 => h9) rfl (by decide +kernel) rfl rfl (Nat.le_of_ble_eq_true rfl) dX4_exchange_15 rfl (fun H locs hP hD hS => ?_)
  refine lv_aload_n hx hb dX4_exchange_18 rfl (lv_at hl 1 rfl) ?_
  refine kFi (As := []) (rest := []) hx hb hml hown hG hl (okX4_advance l D cI cJ cP ad H.size ((x.1.2, x.1.1), x.2.1, x.2.2.1, x.2.2.2.1, x.2.2.2.2.1, x.2.2.2.2.2.1, x.2.2.2.2.2.2.1, x.2.2.2.2.2.2.2) ⟨⟨hI.1.2, hI.1.1⟩, hI.2.1, hI.2.2.1, hI.2.2.2.1, hI.2.2.2.2.1, hI.2.2.2.2.2.1, hI.2.2.2.2.2.2.1, hI.2.2.2.2.2.2.2⟩) (cV 0 hG kw92 kw93 kw94 kw95 kw5 hdX4_advance ⟨by decide, by decide⟩) 0 4 rfl rfl hK hP hD hS hA hN rfl rfl (Nat.le_of_ble_eq_true rfl) dX4_exchange_19 ⟨Nat.zero_le _, Nat.zero_le _⟩ (fun r1 u1 q1 H locs hP hD hS => ?_)
  have j1 : ivX4_advanceP (r1, u1) := by rw [q1]; exact ivX4_advance ((x.1.2, x.1.1), x.2.1, x.2.2.1, x.2.2.2.1, x.2.2.2.2.1, x.2.2.2.2.2.1, x.2.2.2.2.2.2.1, x.2.2.2.2.2.2.2) ⟨⟨hI.1.2, hI.1.1⟩, hI.2.1, hI.2.2.1, hI.2.2.2.1, hI.2.2.2.2.1, hI.2.2.2.2.2.1, hI.2.2.2.2.2.2.1, hI.2.2.2.2.2.2.2⟩
  exact reti (u := u1) hx hb hr hlocks hK hP hD hS dX4_exchange_22 (by unfold fnX4_exchange; rw [← q1]; (try dsimp only); (try exact rfl))
def fnX4_goBack (x : TR)  : Int32 × TR :=
  if x.2.1.2.1 = (0 : Int32) then
   ((6 : Int32), x)
  else
   let p2 := fnX2_become x.2.2.2.2.1 x.2.2.2.2.2.2.1
   ((0 : Int32), (x.1, (x.2.1.1, (0 : Int32), x.2.1.2.2.1, x.2.1.2.2.2.1, x.2.1.2.2.2.2.1, x.2.1.2.2.2.2.2.1, x.2.1.2.2.2.2.2.2), x.2.2.1, x.2.2.2.1, p2, x.2.2.2.2.2.1, x.2.2.2.2.2.2.1, x.2.2.2.2.2.2.2))
abbrev ivX4_goBackP (z : Int32 × TR) : Prop := i4 z.1 ∧ iR z.2
set_option maxRecDepth 100000 in
set_option maxHeartbeats 4000000 in
theorem ivX4_goBack (x : TR)  (hI : iR x) : ivX4_goBackP (fnX4_goBack x) := by
  unfold fnX4_goBack
  try dsimp only
  refine iteI (fun h1 => ?_) (fun h1 => ?_)
  · exact ⟨(show i4 (6 : Int32) from by decide), hI⟩
  · have j2 : ivX2_becomeP (fnX2_become x.2.2.2.2.1 x.2.2.2.2.2.2.1) := ivX2_become x.2.2.2.2.1 x.2.2.2.2.2.2.1 hI.2.2.2.2.1 hI.2.2.2.2.2.2.1
    generalize fnX2_become x.2.2.2.2.1 x.2.2.2.2.2.2.1 = p2 at j2 ⊢
    exact ⟨(show i4 (0 : Int32) from by decide), ⟨hI.1, hI.2.1, hI.2.2.1, hI.2.2.2.1, j2, hI.2.2.2.2.2.1, hI.2.2.2.2.2.2.1, hI.2.2.2.2.2.2.2⟩⟩
set_option maxRecDepth 100000 in
set_option maxHeartbeats 4000000 in
theorem okX4_goBack (l : Launch) (D : va_G) (cI cJ cP : ClassId) (ad : Nat → Nat) (sz : Nat) (x : TR)  (hI : iR x) : Met l yX4_goBack (Cond.code yX4_goBack cX4_goBack 1 (some .int) :: gG) { frames := 1, cells := 0, slots := 0, locals := 21 } (va_Pc [.ref (ad 0)] (PRE D (tz cI cJ cP) sz (wR cI cJ cP ad x))) (va_Qi (fun (r : Int32) (u : TR) => (r, u) = fnX4_goBack x) (AT D (tz cI cJ cP) (va_A (wR cI cJ cP ad x) sz) (fun (u : TR) => (wR cI cJ cP ad u))) (va_A (wR cI cJ cP ad x) sz)) 0 0 (va_A (wR cI cJ cP ad x) sz) := by
  refine mo (QA := fun A => va_Qi (fun (r : Int32) (u : TR) => (r, u) = fnX4_goBack x) (AT D (tz cI cJ cP) A (fun (u : TR) => (wR cI cJ cP ad u))) A) (by decide) (Nat.le_of_ble_eq_true rfl) ?_
  intro p e s m below meth c A ls H hx hb hr hml hown hG hlocks hnm hA hS hP hK hD hl hN
  have hown : s.vm.findClass RX4 = some m.cls := hown
  have hl : lv_has ls 1 [(0, .ref (ad 0))] := hl
  refine lv_aload_n hx hb dX4_goBack_0 rfl (lv_at hl 0 rfl) ?_
  refine va_get (D := D) (ci := 4) (v := .int (x.2.1.2.1)) hx hb hG inX4 hown hK hP 0 rfl rfl 9 (by decide) (hG _ kw96) (fun _ h9 => h9) rfl dX4_goBack_1 ?_
  refine lv_if_ne (tgt := 10) hx hb dX4_goBack_4 (by decide) (fun h1 => ?_) (fun h1 => ?_)
  · refine lv_aload_n hx hb dX4_goBack_10 rfl (lv_at hl 0 rfl) ?_
    refine lv_iconst (v := 0) hx hb dX4_goBack_11 (by decide) ?_
    refine pu (D := D) (ci := 4) (v := .int ((0 : Int32))) (ty := .boolean) (W' := (wR cI cJ cP ad (x.1, (x.2.1.1, (0 : Int32), x.2.1.2.2.1, x.2.1.2.2.2.1, x.2.1.2.2.2.2.1, x.2.1.2.2.2.2.2.1, x.2.1.2.2.2.2.2.2), x.2.2.1, x.2.2.2.1, x.2.2.2.2.1, x.2.2.2.2.2.1, x.2.2.2.2.2.2.1, x.2.2.2.2.2.2.2))) hx hb hG inX4 tyX4 tyokX4 nmX4 hown hK hP hD hS 0 rfl rfl 9 (by decide) (hG _ kw96) (fun _ h9 => h9) rfl (by decide +kernel) rfl rfl (Nat.le_of_ble_eq_true rfl) dX4_goBack_12 rfl (fun H locs hP hD hS => ?_)
    refine lv_aload_n hx hb dX4_goBack_15 rfl (lv_at hl 0 rfl) ?_
    refine va_get (D := D) (ci := 4) (v := .ref (ad 19)) hx hb hG inX4 hown hK hP 0 rfl rfl 5 (by decide) (hG _ kw87) (fun _ h9 => h9) rfl dX4_goBack_16 ?_
    refine lv_aload_n hx hb dX4_goBack_19 rfl (lv_at hl 0 rfl) ?_
    refine va_get (D := D) (ci := 4) (v := .ref (ad 20)) hx hb hG inX4 hown hK hP 0 rfl rfl 7 (by decide) (hG _ kw97) (fun _ h9 => h9) rfl dX4_goBack_20 ?_
    refine kVv (As := [.ref (ad 20)]) (rest := []) (W' := (fun u2 => (wR cI cJ cP ad (x.1, (x.2.1.1, (0 : Int32), x.2.1.2.2.1, x.2.1.2.2.2.1, x.2.1.2.2.2.2.1, x.2.1.2.2.2.2.2.1, x.2.1.2.2.2.2.2.2), x.2.2.1, x.2.2.2.1, u2, x.2.2.2.2.2.1, x.2.2.2.2.2.2.1, x.2.2.2.2.2.2.2)))) hx hb hml hown hG hl (okX2_become l D cI cJ cP (ad 19) (ad 20) H.size x.2.2.2.2.1 x.2.2.2.2.2.2.1 hI.2.2.2.2.1 hI.2.2.2.2.2.2.1) (cV 1 hG kw98 kw100 kw101 kw102 kw99 hdX2_become ⟨by decide, by decide⟩) 19 2 rfl rfl hK hP hD hS hA hN [19, 20] rfl rfl rfl (fun _ => rfl) (fun _ => rfl) rfl rfl (Nat.le_of_ble_eq_true rfl) dX4_goBack_23 ⟨Nat.zero_le _, Nat.zero_le _⟩ (fun u2 q2 H locs hP hD hS => ?_)
    have j2 : ivX2_becomeP u2 := by rw [q2]; exact ivX2_become x.2.2.2.2.1 x.2.2.2.2.2.2.1 hI.2.2.2.2.1 hI.2.2.2.2.2.2.1
    refine lv_iconst (v := 0) hx hb dX4_goBack_26 (by decide) ?_
    exact reti (u := (x.1, (x.2.1.1, (0 : Int32), x.2.1.2.2.1, x.2.1.2.2.2.1, x.2.1.2.2.2.2.1, x.2.1.2.2.2.2.2.1, x.2.1.2.2.2.2.2.2), x.2.2.1, x.2.2.2.1, u2, x.2.2.2.2.2.1, x.2.2.2.2.2.2.1, x.2.2.2.2.2.2.2)) hx hb hr hlocks hK hP hD hS dX4_goBack_27 (by unfold fnX4_goBack; (try dsimp only); rw [if_neg h1]; rw [← q2]; (try dsimp only); (try exact rfl))
  · refine lv_bipush (v := 6) hx hb dX4_goBack_7 (by decide) ?_
    exact reti (u := x) hx hb hr hlocks hK hP hD hS dX4_goBack_9 (by unfold fnX4_goBack; (try dsimp only); rw [if_pos h1]; (try exact rfl))
def fnX4_performInRing0 (x : TR) (a0 : Int32) : Int32 × TR :=
  if a0 = (37 : Int32) then
   let p7 := fnX4_goBack x
   (p7.1, p7.2)
  else
   if a0 = (36 : Int32) then
    let p4 := fnX0_clear x.2.2.2.2.2.2.2.2.1
    let p5 := fnX0_clear x.2.2.2.2.2.2.2.2.2.1
    let p6 := fnX4_advance (x.1, x.2.1, x.2.2.1, x.2.2.2.1, x.2.2.2.2.1, x.2.2.2.2.2.1, x.2.2.2.2.2.2.1, (x.2.2.2.2.2.2.2.1, p4, p5, x.2.2.2.2.2.2.2.2.2.2))
    (p6.1, p6.2)
   else
    let p3 := fnX4_advance (x.1, (x.2.1.1, x.2.1.2.1, (1 : Int32), x.2.1.2.2.2.1, x.2.1.2.2.2.2.1, x.2.1.2.2.2.2.2.1, x.2.1.2.2.2.2.2.2), x.2.2.1, x.2.2.2.1, x.2.2.2.2.1, x.2.2.2.2.2.1, x.2.2.2.2.2.2.1, x.2.2.2.2.2.2.2)
    (p3.1, p3.2)
abbrev ivX4_performInRing0P (z : Int32 × TR) : Prop := i4 z.1 ∧ iR z.2
set_option maxRecDepth 100000 in
set_option maxHeartbeats 4000000 in
theorem ivX4_performInRing0 (x : TR) (a0 : Int32) (hI : iR x) : ivX4_performInRing0P (fnX4_performInRing0 x a0) := by
  unfold fnX4_performInRing0
  try dsimp only
  refine iteI (fun h1 => ?_) (fun h1 => ?_)
  · have j7 : ivX4_goBackP (fnX4_goBack x) := ivX4_goBack x hI
    generalize fnX4_goBack x = p7 at j7 ⊢
    exact ⟨j7.1, j7.2⟩
  · refine iteI (fun h2 => ?_) (fun h2 => ?_)
    · have j4 : ivX0_clearP (fnX0_clear x.2.2.2.2.2.2.2.2.1) := ivX0_clear x.2.2.2.2.2.2.2.2.1 hI.2.2.2.2.2.2.2.2.1
      generalize fnX0_clear x.2.2.2.2.2.2.2.2.1 = p4 at j4 ⊢
      have j5 : ivX0_clearP (fnX0_clear x.2.2.2.2.2.2.2.2.2.1) := ivX0_clear x.2.2.2.2.2.2.2.2.2.1 hI.2.2.2.2.2.2.2.2.2.1
      generalize fnX0_clear x.2.2.2.2.2.2.2.2.2.1 = p5 at j5 ⊢
      have j6 : ivX4_advanceP (fnX4_advance (x.1, x.2.1, x.2.2.1, x.2.2.2.1, x.2.2.2.2.1, x.2.2.2.2.2.1, x.2.2.2.2.2.2.1, (x.2.2.2.2.2.2.2.1, p4, p5, x.2.2.2.2.2.2.2.2.2.2))) := ivX4_advance (x.1, x.2.1, x.2.2.1, x.2.2.2.1, x.2.2.2.2.1, x.2.2.2.2.2.1, x.2.2.2.2.2.2.1, (x.2.2.2.2.2.2.2.1, p4, p5, x.2.2.2.2.2.2.2.2.2.2)) ⟨hI.1, hI.2.1, hI.2.2.1, hI.2.2.2.1, hI.2.2.2.2.1, hI.2.2.2.2.2.1, hI.2.2.2.2.2.2.1, ⟨hI.2.2.2.2.2.2.2.1, j4, j5, hI.2.2.2.2.2.2.2.2.2.2⟩⟩
      generalize fnX4_advance (x.1, x.2.1, x.2.2.1, x.2.2.2.1, x.2.2.2.2.1, x.2.2.2.2.2.1, x.2.2.2.2.2.2.1, (x.2.2.2.2.2.2.2.1, p4, p5, x.2.2.2.2.2.2.2.2.2.2)) = p6 at j6 ⊢
      exact ⟨j6.1, j6.2⟩
    · have j3 : ivX4_advanceP (fnX4_advance (x.1, (x.2.1.1, x.2.1.2.1, (1 : Int32), x.2.1.2.2.2.1, x.2.1.2.2.2.2.1, x.2.1.2.2.2.2.2.1, x.2.1.2.2.2.2.2.2), x.2.2.1, x.2.2.2.1, x.2.2.2.2.1, x.2.2.2.2.2.1, x.2.2.2.2.2.2.1, x.2.2.2.2.2.2.2)) := ivX4_advance (x.1, (x.2.1.1, x.2.1.2.1, (1 : Int32), x.2.1.2.2.2.1, x.2.1.2.2.2.2.1, x.2.1.2.2.2.2.2.1, x.2.1.2.2.2.2.2.2), x.2.2.1, x.2.2.2.1, x.2.2.2.2.1, x.2.2.2.2.2.1, x.2.2.2.2.2.2.1, x.2.2.2.2.2.2.2) ⟨hI.1, hI.2.1, hI.2.2.1, hI.2.2.2.1, hI.2.2.2.2.1, hI.2.2.2.2.2.1, hI.2.2.2.2.2.2.1, hI.2.2.2.2.2.2.2⟩
      generalize fnX4_advance (x.1, (x.2.1.1, x.2.1.2.1, (1 : Int32), x.2.1.2.2.2.1, x.2.1.2.2.2.2.1, x.2.1.2.2.2.2.2.1, x.2.1.2.2.2.2.2.2), x.2.2.1, x.2.2.2.1, x.2.2.2.2.1, x.2.2.2.2.2.1, x.2.2.2.2.2.2.1, x.2.2.2.2.2.2.2) = p3 at j3 ⊢
      exact ⟨j3.1, j3.2⟩
set_option maxRecDepth 100000 in
set_option maxHeartbeats 4000000 in
theorem okX4_performInRing0 (l : Launch) (D : va_G) (cI cJ cP : ClassId) (ad : Nat → Nat) (sz : Nat) (x : TR) (a0 : Int32) (hI : iR x) : Met l yX4_performInRing0 (Cond.code yX4_performInRing0 cX4_performInRing0 2 (some .int) :: gG) { frames := 2, cells := 0, slots := 0, locals := 41 } (va_Pc [.ref (ad 0), .int a0] (PRE D (tz cI cJ cP) sz (wR cI cJ cP ad x))) (va_Qi (fun (r : Int32) (u : TR) => (r, u) = fnX4_performInRing0 x a0) (AT D (tz cI cJ cP) (va_A (wR cI cJ cP ad x) sz) (fun (u : TR) => (wR cI cJ cP ad u))) (va_A (wR cI cJ cP ad x) sz)) 0 0 (va_A (wR cI cJ cP ad x) sz) := by
  refine mo (QA := fun A => va_Qi (fun (r : Int32) (u : TR) => (r, u) = fnX4_performInRing0 x a0) (AT D (tz cI cJ cP) A (fun (u : TR) => (wR cI cJ cP ad u))) A) (by decide) (Nat.le_of_ble_eq_true rfl) ?_
  intro p e s m below meth c A ls H hx hb hr hml hown hG hlocks hnm hA hS hP hK hD hl hN
  have hown : s.vm.findClass RX4 = some m.cls := hown
  have hl : lv_has ls 2 [(0, .ref (ad 0)), (1, .int a0)] := hl
  refine lv_iload_n hx hb dX4_performInRing0_0 rfl (lv_at hl 1 rfl) ?_
  refine lv_bipush (v := 37) hx hb dX4_performInRing0_1 (by decide) ?_
  refine lv_icmp_ne (tgt := 11) hx hb dX4_performInRing0_3 (by decide) (fun h1 => ?_) (fun h1 => ?_)
  · refine lv_iload_n hx hb dX4_performInRing0_11 rfl (lv_at hl 1 rfl) ?_
    refine lv_bipush (v := 36) hx hb dX4_performInRing0_12 (by decide) ?_
    refine lv_icmp_ne (tgt := 40) hx hb dX4_performInRing0_14 (by decide) (fun h2 => ?_) (fun h2 => ?_)
    · refine lv_aload_n hx hb dX4_performInRing0_40 rfl (lv_at hl 0 rfl) ?_
      refine lv_iconst (v := 1) hx hb dX4_performInRing0_41 (by decide) ?_
      refine pu (D := D) (ci := 4) (v := .int ((1 : Int32))) (ty := .boolean) (W' := (wR cI cJ cP ad (x.1, (x.2.1.1, x.2.1.2.1, (1 : Int32), x.2.1.2.2.2.1, x.2.1.2.2.2.2.1, x.2.1.2.2.2.2.2.1, x.2.1.2.2.2.2.2.2), x.2.2.1, x.2.2.2.1, x.2.2.2.2.1, x.2.2.2.2.2.1, x.2.2.2.2.2.2.1, x.2.2.2.2.2.2.2))) hx hb hG inX4 tyX4 tyokX4 nmX4 hown hK hP hD hS 0 rfl rfl 10 (by decide) (hG _ kw103) (fun _ h9 => h9) rfl (by decide +kernel) rfl rfl (Nat.le_of_ble_eq_true rfl) dX4_performInRing0_42 rfl (fun H locs hP hD hS => ?_)
      refine lv_aload_n hx hb dX4_performInRing0_45 rfl (lv_at hl 0 rfl) ?_
      refine kFi (As := []) (rest := []) hx hb hml hown hG hl (okX4_advance l D cI cJ cP ad H.size (x.1, (x.2.1.1, x.2.1.2.1, (1 : Int32), x.2.1.2.2.2.1, x.2.1.2.2.2.2.1, x.2.1.2.2.2.2.2.1, x.2.1.2.2.2.2.2.2), x.2.2.1, x.2.2.2.1, x.2.2.2.2.1, x.2.2.2.2.2.1, x.2.2.2.2.2.2.1, x.2.2.2.2.2.2.2) ⟨hI.1, hI.2.1, hI.2.2.1, hI.2.2.2.1, hI.2.2.2.2.1, hI.2.2.2.2.2.1, hI.2.2.2.2.2.2.1, hI.2.2.2.2.2.2.2⟩) (cV 0 hG kw92 kw93 kw94 kw95 kw5 hdX4_advance ⟨by decide, by decide⟩) 0 4 rfl rfl hK hP hD hS hA hN rfl rfl (Nat.le_of_ble_eq_true rfl) dX4_performInRing0_46 ⟨Nat.zero_le _, Nat.zero_le _⟩ (fun r3 u3 q3 H locs hP hD hS => ?_)
      have j3 : ivX4_advanceP (r3, u3) := by rw [q3]; exact ivX4_advance (x.1, (x.2.1.1, x.2.1.2.1, (1 : Int32), x.2.1.2.2.2.1, x.2.1.2.2.2.2.1, x.2.1.2.2.2.2.2.1, x.2.1.2.2.2.2.2.2), x.2.2.1, x.2.2.2.1, x.2.2.2.2.1, x.2.2.2.2.2.1, x.2.2.2.2.2.2.1, x.2.2.2.2.2.2.2) ⟨hI.1, hI.2.1, hI.2.2.1, hI.2.2.2.1, hI.2.2.2.2.1, hI.2.2.2.2.2.1, hI.2.2.2.2.2.2.1, hI.2.2.2.2.2.2.2⟩
      exact reti (u := u3) hx hb hr hlocks hK hP hD hS dX4_performInRing0_49 (by unfold fnX4_performInRing0; (try dsimp only); rw [if_neg h1]; rw [if_neg h2]; rw [← q3]; (try dsimp only); (try exact rfl))
    · refine lv_aload_n hx hb dX4_performInRing0_17 rfl (lv_at hl 0 rfl) ?_
      refine va_get (D := D) (ci := 4) (v := .ref (ad 1)) hx hb hG inX4 hown hK hP 0 rfl rfl 0 (by decide) (hG _ kw104) (fun _ h9 => h9) rfl dX4_performInRing0_18 ?_
      refine va_get (D := D) (ci := 3) (v := .ref (ad 3)) hx hb hG inX3 hown hK hP 1 rfl rfl 1 (by decide) (hG _ kw105) (fun _ h9 => h9) rfl dX4_performInRing0_21 ?_
      refine kVv (As := []) (rest := []) (W' := (fun u4 => (wR cI cJ cP ad (x.1, x.2.1, x.2.2.1, x.2.2.2.1, x.2.2.2.2.1, x.2.2.2.2.2.1, x.2.2.2.2.2.2.1, (x.2.2.2.2.2.2.2.1, u4, x.2.2.2.2.2.2.2.2.2.1, x.2.2.2.2.2.2.2.2.2.2))))) hx hb hml hown hG hl (okX0_clear l D cI cJ cP (ad 3) (ad 4) (ad 5) (ad 6) H.size x.2.2.2.2.2.2.2.2.1 hI.2.2.2.2.2.2.2.2.1) (cV 0 hG kw106 kw107 kw108 kw109 kw38 hdX0_clear ⟨by decide, by decide⟩) 3 0 rfl rfl hK hP hD hS hA hN [3, 4, 5, 6] rfl rfl rfl (fun _ => rfl) (fun _ => rfl) rfl rfl (Nat.le_of_ble_eq_true rfl) dX4_performInRing0_24 ⟨Nat.zero_le _, Nat.zero_le _⟩ (fun u4 q4 H locs hP hD hS => ?_)
      have j4 : ivX0_clearP u4 := by rw [q4]; exact ivX0_clear x.2.2.2.2.2.2.2.2.1 hI.2.2.2.2.2.2.2.2.1
      refine lv_aload_n hx hb dX4_performInRing0_27 rfl (lv_at hl 0 rfl) ?_
      refine va_get (D := D) (ci := 4) (v := .ref (ad 1)) hx hb hG inX4 hown hK hP 0 rfl rfl 0 (by decide) (hG _ kw104) (fun _ h9 => h9) rfl dX4_performInRing0_28 ?_
      refine va_get (D := D) (ci := 3) (v := .ref (ad 7)) hx hb hG inX3 hown hK hP 1 rfl rfl 2 (by decide) (hG _ kw110) (fun _ h9 => h9) rfl dX4_performInRing0_31 ?_
      refine kVv (As := []) (rest := []) (W' := (fun u5 => (wR cI cJ cP ad (x.1, x.2.1, x.2.2.1, x.2.2.2.1, x.2.2.2.2.1, x.2.2.2.2.2.1, x.2.2.2.2.2.2.1, (x.2.2.2.2.2.2.2.1, u4, u5, x.2.2.2.2.2.2.2.2.2.2))))) hx hb hml hown hG hl (okX0_clear l D cI cJ cP (ad 7) (ad 8) (ad 9) (ad 10) H.size x.2.2.2.2.2.2.2.2.2.1 hI.2.2.2.2.2.2.2.2.2.1) (cV 0 hG kw106 kw107 kw108 kw109 kw38 hdX0_clear ⟨by decide, by decide⟩) 7 0 rfl rfl hK hP hD hS hA hN [7, 8, 9, 10] rfl rfl rfl (fun _ => rfl) (fun _ => rfl) rfl rfl (Nat.le_of_ble_eq_true rfl) dX4_performInRing0_34 ⟨Nat.zero_le _, Nat.zero_le _⟩ (fun u5 q5 H locs hP hD hS => ?_)
      have j5 : ivX0_clearP u5 := by rw [q5]; exact ivX0_clear x.2.2.2.2.2.2.2.2.2.1 hI.2.2.2.2.2.2.2.2.2.1
      refine lv_goto (tgt := 45) hx hb dX4_performInRing0_37 (by decide) ?_
      refine lv_aload_n hx hb dX4_performInRing0_45 rfl (lv_at hl 0 rfl) ?_
      refine kFi (As := []) (rest := []) hx hb hml hown hG hl (okX4_advance l D cI cJ cP ad H.size (x.1, x.2.1, x.2.2.1, x.2.2.2.1, x.2.2.2.2.1, x.2.2.2.2.2.1, x.2.2.2.2.2.2.1, (x.2.2.2.2.2.2.2.1, u4, u5, x.2.2.2.2.2.2.2.2.2.2)) ⟨hI.1, hI.2.1, hI.2.2.1, hI.2.2.2.1, hI.2.2.2.2.1, hI.2.2.2.2.2.1, hI.2.2.2.2.2.2.1, ⟨hI.2.2.2.2.2.2.2.1, j4, j5, hI.2.2.2.2.2.2.2.2.2.2⟩⟩) (cV 0 hG kw92 kw93 kw94 kw95 kw5 hdX4_advance ⟨by decide, by decide⟩) 0 4 rfl rfl hK hP hD hS hA hN rfl rfl (Nat.le_of_ble_eq_true rfl) dX4_performInRing0_46 ⟨Nat.zero_le _, Nat.zero_le _⟩ (fun r6 u6 q6 H locs hP hD hS => ?_)
      have j6 : ivX4_advanceP (r6, u6) := by rw [q6]; exact ivX4_advance (x.1, x.2.1, x.2.2.1, x.2.2.2.1, x.2.2.2.2.1, x.2.2.2.2.2.1, x.2.2.2.2.2.2.1, (x.2.2.2.2.2.2.2.1, u4, u5, x.2.2.2.2.2.2.2.2.2.2)) ⟨hI.1, hI.2.1, hI.2.2.1, hI.2.2.2.1, hI.2.2.2.2.1, hI.2.2.2.2.2.1, hI.2.2.2.2.2.2.1, ⟨hI.2.2.2.2.2.2.2.1, j4, j5, hI.2.2.2.2.2.2.2.2.2.2⟩⟩
      exact reti (u := u6) hx hb hr hlocks hK hP hD hS dX4_performInRing0_49 (by unfold fnX4_performInRing0; (try dsimp only); rw [if_neg h1]; rw [if_pos h2]; rw [← q4]; (try dsimp only); rw [← q5]; (try dsimp only); rw [← q6]; (try dsimp only); (try exact rfl))
  · refine lv_aload_n hx hb dX4_performInRing0_6 rfl (lv_at hl 0 rfl) ?_
    refine kFi (As := []) (rest := []) hx hb hml hown hG hl (okX4_goBack l D cI cJ cP ad H.size x hI) (cV 0 hG kw111 kw112 kw113 kw114 kw5 hdX4_goBack ⟨by decide, by decide⟩) 0 4 rfl rfl hK hP hD hS hA hN rfl rfl (Nat.le_of_ble_eq_true rfl) dX4_performInRing0_7 ⟨Nat.zero_le _, Nat.zero_le _⟩ (fun r7 u7 q7 H locs hP hD hS => ?_)
    have j7 : ivX4_goBackP (r7, u7) := by rw [q7]; exact ivX4_goBack x hI
    exact reti (u := u7) hx hb hr hlocks hK hP hD hS dX4_performInRing0_10 (by unfold fnX4_performInRing0; (try dsimp only); rw [if_pos h1]; rw [← q7]; (try dsimp only); (try exact rfl))
def fnX4_performWithoutAddress (x : TR) (a0 : Int32) : Int32 × TR :=
  if a0 = (0 : Int32) then
   let p2 := fnX4_advance x
   (p2.1, p2.2)
  else
   if a0 = (33 : Int32) then
    let p4 := fnX4_exchange x
    (p4.1, p4.2)
   else
    if a0 = (36 : Int32) then
     if x.2.2.2.2.1.2.2 = (0 : Int32) then
      let p7 := fnX4_performInRing0 x a0
      (p7.1, p7.2)
     else
      ((7 : Int32), x)
    else
     if a0 = (37 : Int32) then
      if x.2.2.2.2.1.2.2 = (0 : Int32) then
       let p10 := fnX4_performInRing0 x a0
       (p10.1, p10.2)
      else
       ((7 : Int32), x)
     else
      if a0 = (38 : Int32) then
       if x.2.2.2.2.1.2.2 = (0 : Int32) then
        let p13 := fnX4_performInRing0 x a0
        (p13.1, p13.2)
       else
        ((7 : Int32), x)
      else
       ((6 : Int32), x)
abbrev ivX4_performWithoutAddressP (z : Int32 × TR) : Prop := i4 z.1 ∧ iR z.2
set_option maxRecDepth 100000 in
set_option maxHeartbeats 4000000 in
theorem ivX4_performWithoutAddress (x : TR) (a0 : Int32) (hI : iR x) : ivX4_performWithoutAddressP (fnX4_performWithoutAddress x a0) := by
  unfold fnX4_performWithoutAddress
  try dsimp only
  refine iteI (fun h1 => ?_) (fun h1 => ?_)
  · have j2 : ivX4_advanceP (fnX4_advance x) := ivX4_advance x hI
    generalize fnX4_advance x = p2 at j2 ⊢
    exact ⟨j2.1, j2.2⟩
  · refine iteI (fun h3 => ?_) (fun h3 => ?_)
    · have j4 : ivX4_exchangeP (fnX4_exchange x) := ivX4_exchange x hI
      generalize fnX4_exchange x = p4 at j4 ⊢
      exact ⟨j4.1, j4.2⟩
    · refine iteI (fun h5 => ?_) (fun h5 => ?_)
      · refine iteI (fun h6 => ?_) (fun h6 => ?_)
        · have j7 : ivX4_performInRing0P (fnX4_performInRing0 x a0) := ivX4_performInRing0 x a0 hI
          generalize fnX4_performInRing0 x a0 = p7 at j7 ⊢
          exact ⟨j7.1, j7.2⟩
        · exact ⟨(show i4 (7 : Int32) from by decide), hI⟩
      · refine iteI (fun h8 => ?_) (fun h8 => ?_)
        · refine iteI (fun h9 => ?_) (fun h9 => ?_)
          · have j10 : ivX4_performInRing0P (fnX4_performInRing0 x a0) := ivX4_performInRing0 x a0 hI
            generalize fnX4_performInRing0 x a0 = p10 at j10 ⊢
            exact ⟨j10.1, j10.2⟩
          · exact ⟨(show i4 (7 : Int32) from by decide), hI⟩
        · refine iteI (fun h11 => ?_) (fun h11 => ?_)
          · refine iteI (fun h12 => ?_) (fun h12 => ?_)
            · have j13 : ivX4_performInRing0P (fnX4_performInRing0 x a0) := ivX4_performInRing0 x a0 hI
              generalize fnX4_performInRing0 x a0 = p13 at j13 ⊢
              exact ⟨j13.1, j13.2⟩
            · exact ⟨(show i4 (7 : Int32) from by decide), hI⟩
          · exact ⟨(show i4 (6 : Int32) from by decide), hI⟩
set_option maxRecDepth 100000 in
set_option maxHeartbeats 4000000 in
theorem okX4_performWithoutAddress (l : Launch) (D : va_G) (cI cJ cP : ClassId) (ad : Nat → Nat) (sz : Nat) (x : TR) (a0 : Int32) (hI : iR x) : Met l yX4_performWithoutAddress (Cond.code yX4_performWithoutAddress cX4_performWithoutAddress 2 (some .int) :: gG) { frames := 3, cells := 0, slots := 0, locals := 63 } (va_Pc [.ref (ad 0), .int a0] (PRE D (tz cI cJ cP) sz (wR cI cJ cP ad x))) (va_Qi (fun (r : Int32) (u : TR) => (r, u) = fnX4_performWithoutAddress x a0) (AT D (tz cI cJ cP) (va_A (wR cI cJ cP ad x) sz) (fun (u : TR) => (wR cI cJ cP ad u))) (va_A (wR cI cJ cP ad x) sz)) 0 0 (va_A (wR cI cJ cP ad x) sz) := by
  refine mo (QA := fun A => va_Qi (fun (r : Int32) (u : TR) => (r, u) = fnX4_performWithoutAddress x a0) (AT D (tz cI cJ cP) A (fun (u : TR) => (wR cI cJ cP ad u))) A) (by decide) (Nat.le_of_ble_eq_true rfl) ?_
  intro p e s m below meth c A ls H hx hb hr hml hown hG hlocks hnm hA hS hP hK hD hl hN
  have hown : s.vm.findClass RX4 = some m.cls := hown
  have hl : lv_has ls 2 [(0, .ref (ad 0)), (1, .int a0)] := hl
  refine lv_iload_n hx hb dX4_performWithoutAddress_0 rfl (lv_at hl 1 rfl) ?_
  by_cases h1 : a0 = (0 : Int32)
  · refine lv_lookup (off := 51) (tgt := 52) hx hb dX4_performWithoutAddress_1 (by decide) (by rw [h1]; decide) (by decide) ?_
    refine lv_aload_n hx hb dX4_performWithoutAddress_52 rfl (lv_at hl 0 rfl) ?_
    refine kFi (As := []) (rest := []) hx hb hml hown hG hl (okX4_advance l D cI cJ cP ad H.size x hI) (cV 0 hG kw92 kw93 kw94 kw95 kw5 hdX4_advance ⟨by decide, by decide⟩) 0 4 rfl rfl hK hP hD hS hA hN rfl rfl (Nat.le_of_ble_eq_true rfl) dX4_performWithoutAddress_53 ⟨Nat.zero_le _, Nat.zero_le _⟩ (fun r2 u2 q2 H locs hP hD hS => ?_)
    have j2 : ivX4_advanceP (r2, u2) := by rw [q2]; exact ivX4_advance x hI
    exact reti (u := u2) hx hb hr hlocks hK hP hD hS dX4_performWithoutAddress_56 (by unfold fnX4_performWithoutAddress; (try dsimp only); rw [if_pos h1]; rw [← q2]; (try dsimp only); (try exact rfl))
  by_cases h3 : a0 = (33 : Int32)
  · refine lv_lookup (off := 56) (tgt := 57) hx hb dX4_performWithoutAddress_1 (by decide) (by rw [h3]; decide) (by decide) ?_
    refine lv_aload_n hx hb dX4_performWithoutAddress_57 rfl (lv_at hl 0 rfl) ?_
    refine kFi (As := []) (rest := []) hx hb hml hown hG hl (okX4_exchange l D cI cJ cP ad H.size x hI) (cV 0 hG kw115 kw116 kw117 kw118 kw5 hdX4_exchange ⟨by decide, by decide⟩) 0 4 rfl rfl hK hP hD hS hA hN rfl rfl (Nat.le_of_ble_eq_true rfl) dX4_performWithoutAddress_58 ⟨Nat.zero_le _, Nat.zero_le _⟩ (fun r4 u4 q4 H locs hP hD hS => ?_)
    have j4 : ivX4_exchangeP (r4, u4) := by rw [q4]; exact ivX4_exchange x hI
    exact reti (u := u4) hx hb hr hlocks hK hP hD hS dX4_performWithoutAddress_61 (by unfold fnX4_performWithoutAddress; (try dsimp only); rw [if_neg h1]; rw [if_pos h3]; rw [← q4]; (try dsimp only); (try exact rfl))
  by_cases h5 : a0 = (36 : Int32)
  · refine lv_lookup (off := 61) (tgt := 62) hx hb dX4_performWithoutAddress_1 (by decide) (by rw [h5]; decide) (by decide) ?_
    refine lv_aload_n hx hb dX4_performWithoutAddress_62 rfl (lv_at hl 0 rfl) ?_
    refine va_get (D := D) (ci := 4) (v := .ref (ad 19)) hx hb hG inX4 hown hK hP 0 rfl rfl 5 (by decide) (hG _ kw87) (fun _ h9 => h9) rfl dX4_performWithoutAddress_63 ?_
    refine va_get (D := D) (ci := 2) (v := .int (x.2.2.2.2.1.2.2)) hx hb hG inX2 hown hK hP 19 rfl rfl 2 (by decide) (hG _ kw119) (fun _ h9 => h9) rfl dX4_performWithoutAddress_66 ?_
    refine lv_if_ne (tgt := 80) hx hb dX4_performWithoutAddress_69 (by decide) (fun h6 => ?_) (fun h6 => ?_)
    · refine lv_bipush (v := 7) hx hb dX4_performWithoutAddress_80 (by decide) ?_
      exact reti (u := x) hx hb hr hlocks hK hP hD hS dX4_performWithoutAddress_82 (by unfold fnX4_performWithoutAddress; (try dsimp only); rw [if_neg h1]; rw [if_neg h3]; rw [if_pos h5]; rw [if_neg h6]; (try exact rfl))
    · refine lv_aload_n hx hb dX4_performWithoutAddress_72 rfl (lv_at hl 0 rfl) ?_
      refine lv_iload_n hx hb dX4_performWithoutAddress_73 rfl (lv_at hl 1 rfl) ?_
      refine kFi (As := [.int (a0)]) (rest := []) hx hb hml hown hG hl (okX4_performInRing0 l D cI cJ cP ad H.size x a0 hI) (cV 1 hG kw120 kw121 kw122 kw123 kw5 hdX4_performInRing0 ⟨by decide, by decide⟩) 0 4 rfl rfl hK hP hD hS hA hN rfl rfl (Nat.le_of_ble_eq_true rfl) dX4_performWithoutAddress_74 ⟨Nat.zero_le _, Nat.zero_le _⟩ (fun r7 u7 q7 H locs hP hD hS => ?_)
      have j7 : ivX4_performInRing0P (r7, u7) := by rw [q7]; exact ivX4_performInRing0 x a0 hI
      refine lv_goto (tgt := 82) hx hb dX4_performWithoutAddress_77 (by decide) ?_
      exact reti (u := u7) hx hb hr hlocks hK hP hD hS dX4_performWithoutAddress_82 (by unfold fnX4_performWithoutAddress; (try dsimp only); rw [if_neg h1]; rw [if_neg h3]; rw [if_pos h5]; rw [if_pos h6]; rw [← q7]; (try dsimp only); (try exact rfl))
  by_cases h8 : a0 = (37 : Int32)
  · refine lv_lookup (off := 61) (tgt := 62) hx hb dX4_performWithoutAddress_1 (by decide) (by rw [h8]; decide) (by decide) ?_
    refine lv_aload_n hx hb dX4_performWithoutAddress_62 rfl (lv_at hl 0 rfl) ?_
    refine va_get (D := D) (ci := 4) (v := .ref (ad 19)) hx hb hG inX4 hown hK hP 0 rfl rfl 5 (by decide) (hG _ kw87) (fun _ h9 => h9) rfl dX4_performWithoutAddress_63 ?_
    refine va_get (D := D) (ci := 2) (v := .int (x.2.2.2.2.1.2.2)) hx hb hG inX2 hown hK hP 19 rfl rfl 2 (by decide) (hG _ kw119) (fun _ h9 => h9) rfl dX4_performWithoutAddress_66 ?_
    refine lv_if_ne (tgt := 80) hx hb dX4_performWithoutAddress_69 (by decide) (fun h9 => ?_) (fun h9 => ?_)
    · refine lv_bipush (v := 7) hx hb dX4_performWithoutAddress_80 (by decide) ?_
      exact reti (u := x) hx hb hr hlocks hK hP hD hS dX4_performWithoutAddress_82 (by unfold fnX4_performWithoutAddress; (try dsimp only); rw [if_neg h1]; rw [if_neg h3]; rw [if_neg h5]; rw [if_pos h8]; rw [if_neg h9]; (try exact rfl))
    · refine lv_aload_n hx hb dX4_performWithoutAddress_72 rfl (lv_at hl 0 rfl) ?_
      refine lv_iload_n hx hb dX4_performWithoutAddress_73 rfl (lv_at hl 1 rfl) ?_
      refine kFi (As := [.int (a0)]) (rest := []) hx hb hml hown hG hl (okX4_performInRing0 l D cI cJ cP ad H.size x a0 hI) (cV 1 hG kw120 kw121 kw122 kw123 kw5 hdX4_performInRing0 ⟨by decide, by decide⟩) 0 4 rfl rfl hK hP hD hS hA hN rfl rfl (Nat.le_of_ble_eq_true rfl) dX4_performWithoutAddress_74 ⟨Nat.zero_le _, Nat.zero_le _⟩ (fun r10 u10 q10 H locs hP hD hS => ?_)
      have j10 : ivX4_performInRing0P (r10, u10) := by rw [q10]; exact ivX4_performInRing0 x a0 hI
      refine lv_goto (tgt := 82) hx hb dX4_performWithoutAddress_77 (by decide) ?_
      exact reti (u := u10) hx hb hr hlocks hK hP hD hS dX4_performWithoutAddress_82 (by unfold fnX4_performWithoutAddress; (try dsimp only); rw [if_neg h1]; rw [if_neg h3]; rw [if_neg h5]; rw [if_pos h8]; rw [if_pos h9]; rw [← q10]; (try dsimp only); (try exact rfl))
  by_cases h11 : a0 = (38 : Int32)
  · refine lv_lookup (off := 61) (tgt := 62) hx hb dX4_performWithoutAddress_1 (by decide) (by rw [h11]; decide) (by decide) ?_
    refine lv_aload_n hx hb dX4_performWithoutAddress_62 rfl (lv_at hl 0 rfl) ?_
    refine va_get (D := D) (ci := 4) (v := .ref (ad 19)) hx hb hG inX4 hown hK hP 0 rfl rfl 5 (by decide) (hG _ kw87) (fun _ h9 => h9) rfl dX4_performWithoutAddress_63 ?_
    refine va_get (D := D) (ci := 2) (v := .int (x.2.2.2.2.1.2.2)) hx hb hG inX2 hown hK hP 19 rfl rfl 2 (by decide) (hG _ kw119) (fun _ h9 => h9) rfl dX4_performWithoutAddress_66 ?_
    refine lv_if_ne (tgt := 80) hx hb dX4_performWithoutAddress_69 (by decide) (fun h12 => ?_) (fun h12 => ?_)
    · refine lv_bipush (v := 7) hx hb dX4_performWithoutAddress_80 (by decide) ?_
      exact reti (u := x) hx hb hr hlocks hK hP hD hS dX4_performWithoutAddress_82 (by unfold fnX4_performWithoutAddress; (try dsimp only); rw [if_neg h1]; rw [if_neg h3]; rw [if_neg h5]; rw [if_neg h8]; rw [if_pos h11]; rw [if_neg h12]; (try exact rfl))
    · refine lv_aload_n hx hb dX4_performWithoutAddress_72 rfl (lv_at hl 0 rfl) ?_
      refine lv_iload_n hx hb dX4_performWithoutAddress_73 rfl (lv_at hl 1 rfl) ?_
      refine kFi (As := [.int (a0)]) (rest := []) hx hb hml hown hG hl (okX4_performInRing0 l D cI cJ cP ad H.size x a0 hI) (cV 1 hG kw120 kw121 kw122 kw123 kw5 hdX4_performInRing0 ⟨by decide, by decide⟩) 0 4 rfl rfl hK hP hD hS hA hN rfl rfl (Nat.le_of_ble_eq_true rfl) dX4_performWithoutAddress_74 ⟨Nat.zero_le _, Nat.zero_le _⟩ (fun r13 u13 q13 H locs hP hD hS => ?_)
      have j13 : ivX4_performInRing0P (r13, u13) := by rw [q13]; exact ivX4_performInRing0 x a0 hI
      refine lv_goto (tgt := 82) hx hb dX4_performWithoutAddress_77 (by decide) ?_
      exact reti (u := u13) hx hb hr hlocks hK hP hD hS dX4_performWithoutAddress_82 (by unfold fnX4_performWithoutAddress; (try dsimp only); rw [if_neg h1]; rw [if_neg h3]; rw [if_neg h5]; rw [if_neg h8]; rw [if_pos h11]; rw [if_pos h12]; rw [← q13]; (try dsimp only); (try exact rfl))
  refine lv_lookup (off := 82) (tgt := 83) hx hb dX4_performWithoutAddress_1 (by decide) ((lv_osw h1 (by decide)).trans ((lv_osw h3 (by decide)).trans ((lv_osw h5 (by decide)).trans ((lv_osw h8 (by decide)).trans ((lv_osw h11 (by decide)).trans (rfl)))))) (by decide) ?_
  refine lv_bipush (v := 6) hx hb dX4_performWithoutAddress_83 (by decide) ?_
  exact reti (u := x) hx hb hr hlocks hK hP hD hS dX4_performWithoutAddress_85 (by unfold fnX4_performWithoutAddress; (try dsimp only); rw [if_neg h1]; rw [if_neg h3]; rw [if_neg h5]; rw [if_neg h8]; rw [if_neg h11]; (try exact rfl))
def fnX4_combined (x : TR) (a0 : Int32) (a1 : Int64) : Int64 :=
  if a0 = (3 : Int32) then
   (x.1.1 + a1)
  else
   if a0 = (4 : Int32) then
    (x.1.1 - a1)
   else
    if a0 = (5 : Int32) then
     (x.1.1 * a1)
    else
     if a0 = (6 : Int32) then
      (x.1.1 &&& a1)
     else
      if a0 = (7 : Int32) then
       (x.1.1 ||| a1)
      else
       if a0 = (8 : Int32) then
        (x.1.1 ^^^ a1)
       else
        a1
set_option maxRecDepth 100000 in
set_option maxHeartbeats 4000000 in
theorem okX4_combined (l : Launch) (D : va_G) (cI cJ cP : ClassId) (ad : Nat → Nat) (sz : Nat) (x : TR) (a0 : Int32) (a1 : Int64) (hI : iR x) : Met l yX4_combined (Cond.code yX4_combined cX4_combined 4 (some .long) :: gG) { frames := 0, cells := 0, slots := 0, locals := 0 } (va_Pc [.ref (ad 0), .int a0, .long a1] (PRE D (tz cI cJ cP) sz (wR cI cJ cP ad x))) (va_Ql (fun (r : Int64) (_ : Unit) => r = fnX4_combined x a0 a1) (AT D (tz cI cJ cP) (va_A (wR cI cJ cP ad x) sz) (fun (_ : Unit) => (wR cI cJ cP ad x))) (va_A (wR cI cJ cP ad x) sz)) 0 0 (va_A (wR cI cJ cP ad x) sz) := by
  refine mo (QA := fun A => va_Ql (fun (r : Int64) (_ : Unit) => r = fnX4_combined x a0 a1) (AT D (tz cI cJ cP) A (fun (_ : Unit) => (wR cI cJ cP ad x))) A) (by decide) (Nat.le_of_ble_eq_true rfl) ?_
  intro p e s m below meth c A ls H hx hb hr hml hown hG hlocks hnm hA hS hP hK hD hl hN
  have hown : s.vm.findClass RX4 = some m.cls := hown
  have hl : lv_has ls 4 [(0, .ref (ad 0)), (1, .int a0), (2, .long a1)] := hl
  refine lv_iload_n hx hb dX4_combined_0 rfl (lv_at hl 1 rfl) ?_
  by_cases h1 : a0 = (3 : Int32)
  · refine lv_tableIn (off := 39) (tgt := 40) hx hb dX4_combined_1 (by rw [h1]; decide) (by rw [h1]; decide) (by rw [h1]; decide) (by decide) ?_
    refine lv_aload_n hx hb dX4_combined_40 rfl (lv_at hl 0 rfl) ?_
    refine va_get (D := D) (ci := 4) (v := .long (x.1.1)) hx hb hG inX4 hown hK hP 0 rfl rfl 1 (by decide) (hG _ kw90) (fun _ h9 => h9) rfl dX4_combined_41 ?_
    refine lv_lload_n hx hb dX4_combined_44 rfl (lv_at hl 2 rfl) ?_
    refine lv_ladd hx hb dX4_combined_45 ?_
    exact retl (u := ()) hx hb hr hlocks hK hP hD hS dX4_combined_46 (by unfold fnX4_combined; (try dsimp only); rw [if_pos h1]; (try exact rfl))
  by_cases h2 : a0 = (4 : Int32)
  · refine lv_tableIn (off := 46) (tgt := 47) hx hb dX4_combined_1 (by rw [h2]; decide) (by rw [h2]; decide) (by rw [h2]; decide) (by decide) ?_
    refine lv_aload_n hx hb dX4_combined_47 rfl (lv_at hl 0 rfl) ?_
    refine va_get (D := D) (ci := 4) (v := .long (x.1.1)) hx hb hG inX4 hown hK hP 0 rfl rfl 1 (by decide) (hG _ kw90) (fun _ h9 => h9) rfl dX4_combined_48 ?_
    refine lv_lload_n hx hb dX4_combined_51 rfl (lv_at hl 2 rfl) ?_
    refine lv_lsub hx hb dX4_combined_52 ?_
    exact retl (u := ()) hx hb hr hlocks hK hP hD hS dX4_combined_53 (by unfold fnX4_combined; (try dsimp only); rw [if_neg h1]; rw [if_pos h2]; (try exact rfl))
  by_cases h3 : a0 = (5 : Int32)
  · refine lv_tableIn (off := 53) (tgt := 54) hx hb dX4_combined_1 (by rw [h3]; decide) (by rw [h3]; decide) (by rw [h3]; decide) (by decide) ?_
    refine lv_aload_n hx hb dX4_combined_54 rfl (lv_at hl 0 rfl) ?_
    refine va_get (D := D) (ci := 4) (v := .long (x.1.1)) hx hb hG inX4 hown hK hP 0 rfl rfl 1 (by decide) (hG _ kw90) (fun _ h9 => h9) rfl dX4_combined_55 ?_
    refine lv_lload_n hx hb dX4_combined_58 rfl (lv_at hl 2 rfl) ?_
    refine lv_lmul hx hb dX4_combined_59 ?_
    exact retl (u := ()) hx hb hr hlocks hK hP hD hS dX4_combined_60 (by unfold fnX4_combined; (try dsimp only); rw [if_neg h1]; rw [if_neg h2]; rw [if_pos h3]; (try exact rfl))
  by_cases h4 : a0 = (6 : Int32)
  · refine lv_tableIn (off := 60) (tgt := 61) hx hb dX4_combined_1 (by rw [h4]; decide) (by rw [h4]; decide) (by rw [h4]; decide) (by decide) ?_
    refine lv_aload_n hx hb dX4_combined_61 rfl (lv_at hl 0 rfl) ?_
    refine va_get (D := D) (ci := 4) (v := .long (x.1.1)) hx hb hG inX4 hown hK hP 0 rfl rfl 1 (by decide) (hG _ kw90) (fun _ h9 => h9) rfl dX4_combined_62 ?_
    refine lv_lload_n hx hb dX4_combined_65 rfl (lv_at hl 2 rfl) ?_
    refine lv_land hx hb dX4_combined_66 ?_
    exact retl (u := ()) hx hb hr hlocks hK hP hD hS dX4_combined_67 (by unfold fnX4_combined; (try dsimp only); rw [if_neg h1]; rw [if_neg h2]; rw [if_neg h3]; rw [if_pos h4]; (try exact rfl))
  by_cases h5 : a0 = (7 : Int32)
  · refine lv_tableIn (off := 67) (tgt := 68) hx hb dX4_combined_1 (by rw [h5]; decide) (by rw [h5]; decide) (by rw [h5]; decide) (by decide) ?_
    refine lv_aload_n hx hb dX4_combined_68 rfl (lv_at hl 0 rfl) ?_
    refine va_get (D := D) (ci := 4) (v := .long (x.1.1)) hx hb hG inX4 hown hK hP 0 rfl rfl 1 (by decide) (hG _ kw90) (fun _ h9 => h9) rfl dX4_combined_69 ?_
    refine lv_lload_n hx hb dX4_combined_72 rfl (lv_at hl 2 rfl) ?_
    refine lv_lor hx hb dX4_combined_73 ?_
    exact retl (u := ()) hx hb hr hlocks hK hP hD hS dX4_combined_74 (by unfold fnX4_combined; (try dsimp only); rw [if_neg h1]; rw [if_neg h2]; rw [if_neg h3]; rw [if_neg h4]; rw [if_pos h5]; (try exact rfl))
  by_cases h6 : a0 = (8 : Int32)
  · refine lv_tableIn (off := 74) (tgt := 75) hx hb dX4_combined_1 (by rw [h6]; decide) (by rw [h6]; decide) (by rw [h6]; decide) (by decide) ?_
    refine lv_aload_n hx hb dX4_combined_75 rfl (lv_at hl 0 rfl) ?_
    refine va_get (D := D) (ci := 4) (v := .long (x.1.1)) hx hb hG inX4 hown hK hP 0 rfl rfl 1 (by decide) (hG _ kw90) (fun _ h9 => h9) rfl dX4_combined_76 ?_
    refine lv_lload_n hx hb dX4_combined_79 rfl (lv_at hl 2 rfl) ?_
    refine lv_lxor hx hb dX4_combined_80 ?_
    exact retl (u := ()) hx hb hr hlocks hK hP hD hS dX4_combined_81 (by unfold fnX4_combined; (try dsimp only); rw [if_neg h1]; rw [if_neg h2]; rw [if_neg h3]; rw [if_neg h4]; rw [if_neg h5]; rw [if_pos h6]; (try exact rfl))
  refine lv_tableOut (tgt := 82) hx hb dX4_combined_1 (by have a0 := neI (n := 3) h1 (by decide); have a1 := neI (n := 4) h2 (by decide); have a2 := neI (n := 5) h3 (by decide); have a3 := neI (n := 6) h4 (by decide); have a4 := neI (n := 7) h5 (by decide); have a5 := neI (n := 8) h6 (by decide); omega) (by decide) ?_
  refine lv_lload_n hx hb dX4_combined_82 rfl (lv_at hl 2 rfl) ?_
  exact retl (u := ()) hx hb hr hlocks hK hP hD hS dX4_combined_83 (by unfold fnX4_combined; (try dsimp only); rw [if_neg h1]; rw [if_neg h2]; rw [if_neg h3]; rw [if_neg h4]; rw [if_neg h5]; rw [if_neg h6]; (try exact rfl))
def fnX4_load (x : TR) (a0 : Int32) : Int32 × TR :=
  let p1 := fnX3_read x.2.2.2.2.2.2.2 x.2.2.2.2.2.1 (0 : Int32)
  if (0 : Int64) ≤ p1.1 then
   if a0 = (9 : Int32) then
    let p4 := fnX4_advance ((x.1.1, p1.1), x.2.1, x.2.2.1, x.2.2.2.1, x.2.2.2.2.1, x.2.2.2.2.2.1, x.2.2.2.2.2.2.1, p1.2)
    (p4.1, p4.2)
   else
    if a0 = (10 : Int32) then
     let p6 := fnX4_combined (x.1, x.2.1, x.2.2.1, x.2.2.2.1, x.2.2.2.2.1, x.2.2.2.2.2.1, x.2.2.2.2.2.2.1, p1.2) a0 p1.1
     let p7 := fnX4_advance (((p6 &&& (68719476735 : Int64)), x.1.2), x.2.1, x.2.2.1, x.2.2.2.1, x.2.2.2.2.1, x.2.2.2.2.2.1, x.2.2.2.2.2.2.1, p1.2)
     (p7.1, p7.2)
    else
     if a0 = (11 : Int32) then
      let p9 := fnX4_combined (x.1, x.2.1, x.2.2.1, x.2.2.2.1, x.2.2.2.2.1, x.2.2.2.2.2.1, x.2.2.2.2.2.2.1, p1.2) a0 p1.1
      let p10 := fnX4_advance (((p9 &&& (68719476735 : Int64)), x.1.2), x.2.1, x.2.2.1, x.2.2.2.1, x.2.2.2.2.1, x.2.2.2.2.2.1, x.2.2.2.2.2.2.1, p1.2)
      (p10.1, p10.2)
     else
      if a0 = (12 : Int32) then
       let p12 := fnX4_field p1.1 (0 : Int32) (12 : Int32)
       let p13 := fnX4_advance (x.1, x.2.1, (upd x.2.2.1 ((a0 &&& (3 : Int32))).toNatClampNeg p12), x.2.2.2.1, x.2.2.2.2.1, x.2.2.2.2.2.1, x.2.2.2.2.2.2.1, p1.2)
       (p13.1, p13.2)
      else
       if a0 = (13 : Int32) then
        let p15 := fnX4_field p1.1 (0 : Int32) (12 : Int32)
        let p16 := fnX4_advance (x.1, x.2.1, (upd x.2.2.1 ((a0 &&& (3 : Int32))).toNatClampNeg p15), x.2.2.2.1, x.2.2.2.2.1, x.2.2.2.2.2.1, x.2.2.2.2.2.2.1, p1.2)
        (p16.1, p16.2)
       else
        if a0 = (14 : Int32) then
         let p18 := fnX4_field p1.1 (0 : Int32) (12 : Int32)
         let p19 := fnX4_advance (x.1, x.2.1, (upd x.2.2.1 ((a0 &&& (3 : Int32))).toNatClampNeg p18), x.2.2.2.1, x.2.2.2.2.1, x.2.2.2.2.2.1, x.2.2.2.2.2.2.1, p1.2)
         (p19.1, p19.2)
        else
         if a0 = (15 : Int32) then
          let p21 := fnX4_field p1.1 (0 : Int32) (12 : Int32)
          let p22 := fnX4_advance (x.1, x.2.1, (upd x.2.2.1 ((a0 &&& (3 : Int32))).toNatClampNeg p21), x.2.2.2.1, x.2.2.2.2.1, x.2.2.2.2.2.1, x.2.2.2.2.2.2.1, p1.2)
          (p22.1, p22.2)
         else
          let p23 := fnX4_combined (x.1, x.2.1, x.2.2.1, x.2.2.2.1, x.2.2.2.2.1, x.2.2.2.2.2.1, x.2.2.2.2.2.2.1, p1.2) a0 p1.1
          let p24 := fnX4_advance (((p23 &&& (68719476735 : Int64)), x.1.2), x.2.1, x.2.2.1, x.2.2.2.1, x.2.2.2.2.1, x.2.2.2.2.2.1, x.2.2.2.2.2.2.1, p1.2)
          (p24.1, p24.2)
  else
   let p25 := fnX4_faultOf p1.1
   (p25, (x.1, x.2.1, x.2.2.1, x.2.2.2.1, x.2.2.2.2.1, x.2.2.2.2.2.1, x.2.2.2.2.2.2.1, p1.2))
abbrev ivX4_loadP (z : Int32 × TR) : Prop := i4 z.1 ∧ iR z.2
set_option maxRecDepth 100000 in
set_option maxHeartbeats 4000000 in
theorem ivX4_load (x : TR) (a0 : Int32) (hI : iR x) : ivX4_loadP (fnX4_load x a0) := by
  unfold fnX4_load
  try dsimp only
  have j1 : ivX3_readP (fnX3_read x.2.2.2.2.2.2.2 x.2.2.2.2.2.1 (0 : Int32)) := ivX3_read x.2.2.2.2.2.2.2 x.2.2.2.2.2.1 (0 : Int32) hI.2.2.2.2.2.2.2 hI.2.2.2.2.2.1
  generalize fnX3_read x.2.2.2.2.2.2.2 x.2.2.2.2.2.1 (0 : Int32) = p1 at j1 ⊢
  refine iteI (fun h2 => ?_) (fun h2 => ?_)
  · refine iteI (fun h3 => ?_) (fun h3 => ?_)
    · have j4 : ivX4_advanceP (fnX4_advance ((x.1.1, p1.1), x.2.1, x.2.2.1, x.2.2.2.1, x.2.2.2.2.1, x.2.2.2.2.2.1, x.2.2.2.2.2.2.1, p1.2)) := ivX4_advance ((x.1.1, p1.1), x.2.1, x.2.2.1, x.2.2.2.1, x.2.2.2.2.1, x.2.2.2.2.2.1, x.2.2.2.2.2.2.1, p1.2) ⟨⟨hI.1.1, (rdI j1.1 (Int64.not_lt.mpr h2))⟩, hI.2.1, hI.2.2.1, hI.2.2.2.1, hI.2.2.2.2.1, hI.2.2.2.2.2.1, hI.2.2.2.2.2.2.1, j1.2⟩
      generalize fnX4_advance ((x.1.1, p1.1), x.2.1, x.2.2.1, x.2.2.2.1, x.2.2.2.2.1, x.2.2.2.2.2.1, x.2.2.2.2.2.2.1, p1.2) = p4 at j4 ⊢
      exact ⟨j4.1, j4.2⟩
    · refine iteI (fun h5 => ?_) (fun h5 => ?_)
      · generalize fnX4_combined (x.1, x.2.1, x.2.2.1, x.2.2.2.1, x.2.2.2.2.1, x.2.2.2.2.2.1, x.2.2.2.2.2.2.1, p1.2) a0 p1.1 = p6
        have j7 : ivX4_advanceP (fnX4_advance (((p6 &&& (68719476735 : Int64)), x.1.2), x.2.1, x.2.2.1, x.2.2.2.1, x.2.2.2.2.1, x.2.2.2.2.2.1, x.2.2.2.2.2.2.1, p1.2)) := ivX4_advance (((p6 &&& (68719476735 : Int64)), x.1.2), x.2.1, x.2.2.1, x.2.2.2.1, x.2.2.2.2.1, x.2.2.2.2.2.1, x.2.2.2.2.2.2.1, p1.2) ⟨⟨(mkW _), hI.1.2⟩, hI.2.1, hI.2.2.1, hI.2.2.2.1, hI.2.2.2.2.1, hI.2.2.2.2.2.1, hI.2.2.2.2.2.2.1, j1.2⟩
        generalize fnX4_advance (((p6 &&& (68719476735 : Int64)), x.1.2), x.2.1, x.2.2.1, x.2.2.2.1, x.2.2.2.2.1, x.2.2.2.2.2.1, x.2.2.2.2.2.2.1, p1.2) = p7 at j7 ⊢
        exact ⟨j7.1, j7.2⟩
      · refine iteI (fun h8 => ?_) (fun h8 => ?_)
        · generalize fnX4_combined (x.1, x.2.1, x.2.2.1, x.2.2.2.1, x.2.2.2.2.1, x.2.2.2.2.2.1, x.2.2.2.2.2.2.1, p1.2) a0 p1.1 = p9
          have j10 : ivX4_advanceP (fnX4_advance (((p9 &&& (68719476735 : Int64)), x.1.2), x.2.1, x.2.2.1, x.2.2.2.1, x.2.2.2.2.1, x.2.2.2.2.2.1, x.2.2.2.2.2.2.1, p1.2)) := ivX4_advance (((p9 &&& (68719476735 : Int64)), x.1.2), x.2.1, x.2.2.1, x.2.2.2.1, x.2.2.2.2.1, x.2.2.2.2.2.1, x.2.2.2.2.2.2.1, p1.2) ⟨⟨(mkW _), hI.1.2⟩, hI.2.1, hI.2.2.1, hI.2.2.2.1, hI.2.2.2.2.1, hI.2.2.2.2.2.1, hI.2.2.2.2.2.2.1, j1.2⟩
          generalize fnX4_advance (((p9 &&& (68719476735 : Int64)), x.1.2), x.2.1, x.2.2.1, x.2.2.2.1, x.2.2.2.2.1, x.2.2.2.2.2.1, x.2.2.2.2.2.2.1, p1.2) = p10 at j10 ⊢
          exact ⟨j10.1, j10.2⟩
        · refine iteI (fun h11 => ?_) (fun h11 => ?_)
          · have j12 : i12 (fnX4_field p1.1 (0 : Int32) (12 : Int32)) := (f12X p1.1 (0 : Int32))
            generalize fnX4_field p1.1 (0 : Int32) (12 : Int32) = p12 at j12 ⊢
            have j13 : ivX4_advanceP (fnX4_advance (x.1, x.2.1, (upd x.2.2.1 ((a0 &&& (3 : Int32))).toNatClampNeg p12), x.2.2.2.1, x.2.2.2.2.1, x.2.2.2.2.2.1, x.2.2.2.2.2.2.1, p1.2)) := ivX4_advance (x.1, x.2.1, (upd x.2.2.1 ((a0 &&& (3 : Int32))).toNatClampNeg p12), x.2.2.2.1, x.2.2.2.2.1, x.2.2.2.2.2.1, x.2.2.2.2.2.2.1, p1.2) ⟨hI.1, hI.2.1, (up12 hI.2.2.1 j12), hI.2.2.2.1, hI.2.2.2.2.1, hI.2.2.2.2.2.1, hI.2.2.2.2.2.2.1, j1.2⟩
            generalize fnX4_advance (x.1, x.2.1, (upd x.2.2.1 ((a0 &&& (3 : Int32))).toNatClampNeg p12), x.2.2.2.1, x.2.2.2.2.1, x.2.2.2.2.2.1, x.2.2.2.2.2.2.1, p1.2) = p13 at j13 ⊢
            exact ⟨j13.1, j13.2⟩
          · refine iteI (fun h14 => ?_) (fun h14 => ?_)
            · have j15 : i12 (fnX4_field p1.1 (0 : Int32) (12 : Int32)) := (f12X p1.1 (0 : Int32))
              generalize fnX4_field p1.1 (0 : Int32) (12 : Int32) = p15 at j15 ⊢
              have j16 : ivX4_advanceP (fnX4_advance (x.1, x.2.1, (upd x.2.2.1 ((a0 &&& (3 : Int32))).toNatClampNeg p15), x.2.2.2.1, x.2.2.2.2.1, x.2.2.2.2.2.1, x.2.2.2.2.2.2.1, p1.2)) := ivX4_advance (x.1, x.2.1, (upd x.2.2.1 ((a0 &&& (3 : Int32))).toNatClampNeg p15), x.2.2.2.1, x.2.2.2.2.1, x.2.2.2.2.2.1, x.2.2.2.2.2.2.1, p1.2) ⟨hI.1, hI.2.1, (up12 hI.2.2.1 j15), hI.2.2.2.1, hI.2.2.2.2.1, hI.2.2.2.2.2.1, hI.2.2.2.2.2.2.1, j1.2⟩
              generalize fnX4_advance (x.1, x.2.1, (upd x.2.2.1 ((a0 &&& (3 : Int32))).toNatClampNeg p15), x.2.2.2.1, x.2.2.2.2.1, x.2.2.2.2.2.1, x.2.2.2.2.2.2.1, p1.2) = p16 at j16 ⊢
              exact ⟨j16.1, j16.2⟩
            · refine iteI (fun h17 => ?_) (fun h17 => ?_)
              · have j18 : i12 (fnX4_field p1.1 (0 : Int32) (12 : Int32)) := (f12X p1.1 (0 : Int32))
                generalize fnX4_field p1.1 (0 : Int32) (12 : Int32) = p18 at j18 ⊢
                have j19 : ivX4_advanceP (fnX4_advance (x.1, x.2.1, (upd x.2.2.1 ((a0 &&& (3 : Int32))).toNatClampNeg p18), x.2.2.2.1, x.2.2.2.2.1, x.2.2.2.2.2.1, x.2.2.2.2.2.2.1, p1.2)) := ivX4_advance (x.1, x.2.1, (upd x.2.2.1 ((a0 &&& (3 : Int32))).toNatClampNeg p18), x.2.2.2.1, x.2.2.2.2.1, x.2.2.2.2.2.1, x.2.2.2.2.2.2.1, p1.2) ⟨hI.1, hI.2.1, (up12 hI.2.2.1 j18), hI.2.2.2.1, hI.2.2.2.2.1, hI.2.2.2.2.2.1, hI.2.2.2.2.2.2.1, j1.2⟩
                generalize fnX4_advance (x.1, x.2.1, (upd x.2.2.1 ((a0 &&& (3 : Int32))).toNatClampNeg p18), x.2.2.2.1, x.2.2.2.2.1, x.2.2.2.2.2.1, x.2.2.2.2.2.2.1, p1.2) = p19 at j19 ⊢
                exact ⟨j19.1, j19.2⟩
              · refine iteI (fun h20 => ?_) (fun h20 => ?_)
                · have j21 : i12 (fnX4_field p1.1 (0 : Int32) (12 : Int32)) := (f12X p1.1 (0 : Int32))
                  generalize fnX4_field p1.1 (0 : Int32) (12 : Int32) = p21 at j21 ⊢
                  have j22 : ivX4_advanceP (fnX4_advance (x.1, x.2.1, (upd x.2.2.1 ((a0 &&& (3 : Int32))).toNatClampNeg p21), x.2.2.2.1, x.2.2.2.2.1, x.2.2.2.2.2.1, x.2.2.2.2.2.2.1, p1.2)) := ivX4_advance (x.1, x.2.1, (upd x.2.2.1 ((a0 &&& (3 : Int32))).toNatClampNeg p21), x.2.2.2.1, x.2.2.2.2.1, x.2.2.2.2.2.1, x.2.2.2.2.2.2.1, p1.2) ⟨hI.1, hI.2.1, (up12 hI.2.2.1 j21), hI.2.2.2.1, hI.2.2.2.2.1, hI.2.2.2.2.2.1, hI.2.2.2.2.2.2.1, j1.2⟩
                  generalize fnX4_advance (x.1, x.2.1, (upd x.2.2.1 ((a0 &&& (3 : Int32))).toNatClampNeg p21), x.2.2.2.1, x.2.2.2.2.1, x.2.2.2.2.2.1, x.2.2.2.2.2.2.1, p1.2) = p22 at j22 ⊢
                  exact ⟨j22.1, j22.2⟩
                · generalize fnX4_combined (x.1, x.2.1, x.2.2.1, x.2.2.2.1, x.2.2.2.2.1, x.2.2.2.2.2.1, x.2.2.2.2.2.2.1, p1.2) a0 p1.1 = p23
                  have j24 : ivX4_advanceP (fnX4_advance (((p23 &&& (68719476735 : Int64)), x.1.2), x.2.1, x.2.2.1, x.2.2.2.1, x.2.2.2.2.1, x.2.2.2.2.2.1, x.2.2.2.2.2.2.1, p1.2)) := ivX4_advance (((p23 &&& (68719476735 : Int64)), x.1.2), x.2.1, x.2.2.1, x.2.2.2.1, x.2.2.2.2.1, x.2.2.2.2.2.1, x.2.2.2.2.2.2.1, p1.2) ⟨⟨(mkW _), hI.1.2⟩, hI.2.1, hI.2.2.1, hI.2.2.2.1, hI.2.2.2.2.1, hI.2.2.2.2.2.1, hI.2.2.2.2.2.2.1, j1.2⟩
                  generalize fnX4_advance (((p23 &&& (68719476735 : Int64)), x.1.2), x.2.1, x.2.2.1, x.2.2.2.1, x.2.2.2.2.1, x.2.2.2.2.2.1, x.2.2.2.2.2.2.1, p1.2) = p24 at j24 ⊢
                  exact ⟨j24.1, j24.2⟩
  · have j25 : i4 (fnX4_faultOf p1.1) := (fltI j1.1 (Int64.not_le.mp h2))
    generalize fnX4_faultOf p1.1 = p25 at j25 ⊢
    exact ⟨j25, ⟨hI.1, hI.2.1, hI.2.2.1, hI.2.2.2.1, hI.2.2.2.2.1, hI.2.2.2.2.2.1, hI.2.2.2.2.2.2.1, j1.2⟩⟩
set_option maxRecDepth 100000 in
set_option maxHeartbeats 4000000 in
theorem okX4_load (l : Launch) (D : va_G) (cI cJ cP : ClassId) (ad : Nat → Nat) (sz : Nat) (x : TR) (a0 : Int32) (hI : iR x) : Met l yX4_load (Cond.code yX4_load cX4_load 4 (some .int) :: gG) { frames := 4, cells := 0, slots := 0, locals := 105 } (va_Pc [.ref (ad 0), .int a0] (PRE D (tz cI cJ cP) sz (wR cI cJ cP ad x))) (va_Qi (fun (r : Int32) (u : TR) => (r, u) = fnX4_load x a0) (AT D (tz cI cJ cP) (va_A (wR cI cJ cP ad x) sz) (fun (u : TR) => (wR cI cJ cP ad u))) (va_A (wR cI cJ cP ad x) sz)) 0 0 (va_A (wR cI cJ cP ad x) sz) := by
  refine mo (QA := fun A => va_Qi (fun (r : Int32) (u : TR) => (r, u) = fnX4_load x a0) (AT D (tz cI cJ cP) A (fun (u : TR) => (wR cI cJ cP ad u))) A) (by decide) (Nat.le_of_ble_eq_true rfl) ?_
  intro p e s m below meth c A ls H hx hb hr hml hown hG hlocks hnm hA hS hP hK hD hl hN
  have hown : s.vm.findClass RX4 = some m.cls := hown
  have hl : lv_has ls 4 [(0, .ref (ad 0)), (1, .int a0)] := hl
  refine lv_aload_n hx hb dX4_load_0 rfl (lv_at hl 0 rfl) ?_
  refine va_get (D := D) (ci := 4) (v := .ref (ad 1)) hx hb hG inX4 hown hK hP 0 rfl rfl 0 (by decide) (hG _ kw104) (fun _ h9 => h9) rfl dX4_load_1 ?_
  refine lv_aload_n hx hb dX4_load_4 rfl (lv_at hl 0 rfl) ?_
  refine va_get (D := D) (ci := 4) (v := .ref (ad 12)) hx hb hG inX4 hown hK hP 0 rfl rfl 6 (by decide) (hG _ kw124) (fun _ h9 => h9) rfl dX4_load_5 ?_
  refine lv_iconst (v := 0) hx hb dX4_load_8 (by decide) ?_
  refine kVl (As := [.ref (ad 12), .int ((0 : Int32))]) (rest := []) (W' := (fun u1 => (wR cI cJ cP ad (x.1, x.2.1, x.2.2.1, x.2.2.2.1, x.2.2.2.2.1, x.2.2.2.2.2.1, x.2.2.2.2.2.2.1, u1)))) hx hb hml hown hG hl (okX3_read l D cI cJ cP (fun i => ad (i + 1)) H.size x.2.2.2.2.2.2.2 x.2.2.2.2.2.1 (0 : Int32) hI.2.2.2.2.2.2.2 hI.2.2.2.2.2.1) (cV 2 hG kw125 kw126 kw127 kw128 kw60 hdX3_read ⟨by decide, by decide⟩) 1 3 rfl rfl hK hP hD hS hA hN [1, 2, 3, 4, 5, 6, 7, 8, 9, 10, 11, 12] rfl rfl rfl (fun _ => rfl) (fun _ => rfl) rfl rfl (Nat.le_of_ble_eq_true rfl) dX4_load_9 ⟨Nat.zero_le _, Nat.zero_le _⟩ (fun r1 u1 q1 H locs hP hD hS => ?_)
  have j1 : ivX3_readP (r1, u1) := by rw [q1]; exact ivX3_read x.2.2.2.2.2.2.2 x.2.2.2.2.2.1 (0 : Int32) hI.2.2.2.2.2.2.2 hI.2.2.2.2.2.1
  refine lv_lstore_n (lv' := [(2, .long (r1)), (0, .ref (ad 0)), (1, .int (a0))]) hx hb dX4_load_12 rfl hl (by decide) rfl (fun ls hl => ?_)
  refine lv_lload_n hx hb dX4_load_13 rfl (lv_at hl 0 rfl) ?_
  refine lv_lconst (v := 0) hx hb dX4_load_14 (by decide) ?_
  refine lq_ge (tgt := 24) hx hb dX4_load_15 dX4_load_16 (by decide) (fun h2 => ?_) (fun h2 => ?_)
  · refine lv_iload_n hx hb dX4_load_24 rfl (lv_at hl 2 rfl) ?_
    by_cases h3 : a0 = (9 : Int32)
    · refine lv_tableIn (off := 61) (tgt := 86) hx hb dX4_load_25 (by rw [h3]; decide) (by rw [h3]; decide) (by rw [h3]; decide) (by decide) ?_
      refine lv_aload_n hx hb dX4_load_86 rfl (lv_at hl 1 rfl) ?_
      refine lv_lload_n hx hb dX4_load_87 rfl (lv_at hl 0 rfl) ?_
      refine pu (D := D) (ci := 4) (v := .long (r1)) (ty := .long) (W' := (wR cI cJ cP ad ((x.1.1, r1), x.2.1, x.2.2.1, x.2.2.2.1, x.2.2.2.2.1, x.2.2.2.2.2.1, x.2.2.2.2.2.2.1, u1))) hx hb hG inX4 tyX4 tyokX4 nmX4 hown hK hP hD hS 0 rfl rfl 2 (by decide) (hG _ kw91) (fun _ h9 => h9) rfl (by decide +kernel) rfl rfl (Nat.le_of_ble_eq_true rfl) dX4_load_88 rfl (fun H locs hP hD hS => ?_)
      refine lv_goto (tgt := 108) hx hb dX4_load_91 (by decide) ?_
      refine lv_aload_n hx hb dX4_load_108 rfl (lv_at hl 1 rfl) ?_
      refine kFi (As := []) (rest := []) hx hb hml hown hG hl (okX4_advance l D cI cJ cP ad H.size ((x.1.1, r1), x.2.1, x.2.2.1, x.2.2.2.1, x.2.2.2.2.1, x.2.2.2.2.2.1, x.2.2.2.2.2.2.1, u1) ⟨⟨hI.1.1, (rdI j1.1 (Int64.not_lt.mpr h2))⟩, hI.2.1, hI.2.2.1, hI.2.2.2.1, hI.2.2.2.2.1, hI.2.2.2.2.2.1, hI.2.2.2.2.2.2.1, j1.2⟩) (cV 0 hG kw92 kw93 kw94 kw95 kw5 hdX4_advance ⟨by decide, by decide⟩) 0 4 rfl rfl hK hP hD hS hA hN rfl rfl (Nat.le_of_ble_eq_true rfl) dX4_load_109 ⟨Nat.zero_le _, Nat.zero_le _⟩ (fun r4 u4 q4 H locs hP hD hS => ?_)
      have j4 : ivX4_advanceP (r4, u4) := by rw [q4]; exact ivX4_advance ((x.1.1, r1), x.2.1, x.2.2.1, x.2.2.2.1, x.2.2.2.2.1, x.2.2.2.2.2.1, x.2.2.2.2.2.2.1, u1) ⟨⟨hI.1.1, (rdI j1.1 (Int64.not_lt.mpr h2))⟩, hI.2.1, hI.2.2.1, hI.2.2.2.1, hI.2.2.2.2.1, hI.2.2.2.2.2.1, hI.2.2.2.2.2.2.1, j1.2⟩
      exact reti (u := u4) hx hb hr hlocks hK hP hD hS dX4_load_112 (by unfold fnX4_load; rw [← q1]; (try dsimp only); rw [if_pos h2]; rw [if_pos h3]; rw [← q4]; (try dsimp only); (try exact rfl))
    by_cases h5 : a0 = (10 : Int32)
    · refine lv_tableIn (off := 69) (tgt := 94) hx hb dX4_load_25 (by rw [h5]; decide) (by rw [h5]; decide) (by rw [h5]; decide) (by decide) ?_
      refine lv_aload_n hx hb dX4_load_94 rfl (lv_at hl 1 rfl) ?_
      refine lv_aload_n hx hb dX4_load_95 rfl (lv_at hl 1 rfl) ?_
      refine lv_iload_n hx hb dX4_load_96 rfl (lv_at hl 2 rfl) ?_
      refine lv_lload_n hx hb dX4_load_97 rfl (lv_at hl 0 rfl) ?_
      refine kFl (As := [.int (a0), .long (r1)]) (rest := [.ref (ad 0)]) hx hb hml hown hG hl (okX4_combined l D cI cJ cP ad H.size (x.1, x.2.1, x.2.2.1, x.2.2.2.1, x.2.2.2.2.1, x.2.2.2.2.2.1, x.2.2.2.2.2.2.1, u1) a0 r1 ⟨hI.1, hI.2.1, hI.2.2.1, hI.2.2.2.1, hI.2.2.2.2.1, hI.2.2.2.2.2.1, hI.2.2.2.2.2.2.1, j1.2⟩) (cV 2 hG kw129 kw130 kw131 kw132 kw5 hdX4_combined ⟨by decide, by decide⟩) 0 4 rfl rfl hK hP hD hS hA hN rfl rfl (Nat.le_of_ble_eq_true rfl) dX4_load_98 ⟨Nat.zero_le _, Nat.zero_le _⟩ (fun r6 _ q6 H locs hP hD hS => ?_)
      refine lv_ldc2 (v := 68719476735) hx hb hown (hG _ kw133) dX4_load_101 ?_
      refine lv_land hx hb dX4_load_104 ?_
      refine pu (D := D) (ci := 4) (v := .long ((r6 &&& (68719476735 : Int64)))) (ty := .long) (W' := (wR cI cJ cP ad (((r6 &&& (68719476735 : Int64)), x.1.2), x.2.1, x.2.2.1, x.2.2.2.1, x.2.2.2.2.1, x.2.2.2.2.2.1, x.2.2.2.2.2.2.1, u1))) hx hb hG inX4 tyX4 tyokX4 nmX4 hown hK hP hD hS 0 rfl rfl 1 (by decide) (hG _ kw90) (fun _ h9 => h9) rfl (by decide +kernel) rfl rfl (Nat.le_of_ble_eq_true rfl) dX4_load_105 rfl (fun H locs hP hD hS => ?_)
      refine lv_aload_n hx hb dX4_load_108 rfl (lv_at hl 1 rfl) ?_
      refine kFi (As := []) (rest := []) hx hb hml hown hG hl (okX4_advance l D cI cJ cP ad H.size (((r6 &&& (68719476735 : Int64)), x.1.2), x.2.1, x.2.2.1, x.2.2.2.1, x.2.2.2.2.1, x.2.2.2.2.2.1, x.2.2.2.2.2.2.1, u1) ⟨⟨(mkW _), hI.1.2⟩, hI.2.1, hI.2.2.1, hI.2.2.2.1, hI.2.2.2.2.1, hI.2.2.2.2.2.1, hI.2.2.2.2.2.2.1, j1.2⟩) (cV 0 hG kw92 kw93 kw94 kw95 kw5 hdX4_advance ⟨by decide, by decide⟩) 0 4 rfl rfl hK hP hD hS hA hN rfl rfl (Nat.le_of_ble_eq_true rfl) dX4_load_109 ⟨Nat.zero_le _, Nat.zero_le _⟩ (fun r7 u7 q7 H locs hP hD hS => ?_)
      have j7 : ivX4_advanceP (r7, u7) := by rw [q7]; exact ivX4_advance (((r6 &&& (68719476735 : Int64)), x.1.2), x.2.1, x.2.2.1, x.2.2.2.1, x.2.2.2.2.1, x.2.2.2.2.2.1, x.2.2.2.2.2.2.1, u1) ⟨⟨(mkW _), hI.1.2⟩, hI.2.1, hI.2.2.1, hI.2.2.2.1, hI.2.2.2.2.1, hI.2.2.2.2.2.1, hI.2.2.2.2.2.2.1, j1.2⟩
      exact reti (u := u7) hx hb hr hlocks hK hP hD hS dX4_load_112 (by unfold fnX4_load; rw [← q1]; (try dsimp only); rw [if_pos h2]; rw [if_neg h3]; rw [if_pos h5]; rw [← q6]; (try dsimp only); rw [← q7]; (try dsimp only); (try exact rfl))
    by_cases h8 : a0 = (11 : Int32)
    · refine lv_tableIn (off := 69) (tgt := 94) hx hb dX4_load_25 (by rw [h8]; decide) (by rw [h8]; decide) (by rw [h8]; decide) (by decide) ?_
      refine lv_aload_n hx hb dX4_load_94 rfl (lv_at hl 1 rfl) ?_
      refine lv_aload_n hx hb dX4_load_95 rfl (lv_at hl 1 rfl) ?_
      refine lv_iload_n hx hb dX4_load_96 rfl (lv_at hl 2 rfl) ?_
      refine lv_lload_n hx hb dX4_load_97 rfl (lv_at hl 0 rfl) ?_
      refine kFl (As := [.int (a0), .long (r1)]) (rest := [.ref (ad 0)]) hx hb hml hown hG hl (okX4_combined l D cI cJ cP ad H.size (x.1, x.2.1, x.2.2.1, x.2.2.2.1, x.2.2.2.2.1, x.2.2.2.2.2.1, x.2.2.2.2.2.2.1, u1) a0 r1 ⟨hI.1, hI.2.1, hI.2.2.1, hI.2.2.2.1, hI.2.2.2.2.1, hI.2.2.2.2.2.1, hI.2.2.2.2.2.2.1, j1.2⟩) (cV 2 hG kw129 kw130 kw131 kw132 kw5 hdX4_combined ⟨by decide, by decide⟩) 0 4 rfl rfl hK hP hD hS hA hN rfl rfl (Nat.le_of_ble_eq_true rfl) dX4_load_98 ⟨Nat.zero_le _, Nat.zero_le _⟩ (fun r9 _ q9 H locs hP hD hS => ?_)
      refine lv_ldc2 (v := 68719476735) hx hb hown (hG _ kw133) dX4_load_101 ?_
      refine lv_land hx hb dX4_load_104 ?_
      refine pu (D := D) (ci := 4) (v := .long ((r9 &&& (68719476735 : Int64)))) (ty := .long) (W' := (wR cI cJ cP ad (((r9 &&& (68719476735 : Int64)), x.1.2), x.2.1, x.2.2.1, x.2.2.2.1, x.2.2.2.2.1, x.2.2.2.2.2.1, x.2.2.2.2.2.2.1, u1))) hx hb hG inX4 tyX4 tyokX4 nmX4 hown hK hP hD hS 0 rfl rfl 1 (by decide) (hG _ kw90) (fun _ h9 => h9) rfl (by decide +kernel) rfl rfl (Nat.le_of_ble_eq_true rfl) dX4_load_105 rfl (fun H locs hP hD hS => ?_)
      refine lv_aload_n hx hb dX4_load_108 rfl (lv_at hl 1 rfl) ?_
      refine kFi (As := []) (rest := []) hx hb hml hown hG hl (okX4_advance l D cI cJ cP ad H.size (((r9 &&& (68719476735 : Int64)), x.1.2), x.2.1, x.2.2.1, x.2.2.2.1, x.2.2.2.2.1, x.2.2.2.2.2.1, x.2.2.2.2.2.2.1, u1) ⟨⟨(mkW _), hI.1.2⟩, hI.2.1, hI.2.2.1, hI.2.2.2.1, hI.2.2.2.2.1, hI.2.2.2.2.2.1, hI.2.2.2.2.2.2.1, j1.2⟩) (cV 0 hG kw92 kw93 kw94 kw95 kw5 hdX4_advance ⟨by decide, by decide⟩) 0 4 rfl rfl hK hP hD hS hA hN rfl rfl (Nat.le_of_ble_eq_true rfl) dX4_load_109 ⟨Nat.zero_le _, Nat.zero_le _⟩ (fun r10 u10 q10 H locs hP hD hS => ?_)
      have j10 : ivX4_advanceP (r10, u10) := by rw [q10]; exact ivX4_advance (((r9 &&& (68719476735 : Int64)), x.1.2), x.2.1, x.2.2.1, x.2.2.2.1, x.2.2.2.2.1, x.2.2.2.2.2.1, x.2.2.2.2.2.2.1, u1) ⟨⟨(mkW _), hI.1.2⟩, hI.2.1, hI.2.2.1, hI.2.2.2.1, hI.2.2.2.2.1, hI.2.2.2.2.2.1, hI.2.2.2.2.2.2.1, j1.2⟩
      exact reti (u := u10) hx hb hr hlocks hK hP hD hS dX4_load_112 (by unfold fnX4_load; rw [← q1]; (try dsimp only); rw [if_pos h2]; rw [if_neg h3]; rw [if_neg h5]; rw [if_pos h8]; rw [← q9]; (try dsimp only); rw [← q10]; (try dsimp only); (try exact rfl))
    by_cases h11 : a0 = (12 : Int32)
    · refine lv_tableIn (off := 43) (tgt := 68) hx hb dX4_load_25 (by rw [h11]; decide) (by rw [h11]; decide) (by rw [h11]; decide) (by decide) ?_
      refine lv_aload_n hx hb dX4_load_68 rfl (lv_at hl 1 rfl) ?_
      refine va_get (D := D) (ci := 4) (v := .ref (ad 13)) hx hb hG inX4 hown hK hP 0 rfl rfl 3 (by decide) (hG _ kw134) (fun _ h9 => h9) rfl dX4_load_69 ?_
      refine lv_iload_n hx hb dX4_load_72 rfl (lv_at hl 2 rfl) ?_
      refine lv_iconst (v := 3) hx hb dX4_load_73 (by decide) ?_
      refine lv_iand hx hb dX4_load_74 ?_
      refine lv_lload_n hx hb dX4_load_75 rfl (lv_at hl 0 rfl) ?_
      refine lv_iconst (v := 0) hx hb dX4_load_76 (by decide) ?_
      refine lv_bipush (v := 12) hx hb dX4_load_77 (by decide) ?_
      refine k0Si (As := [.long (r1), .int ((0 : Int32)), .int ((12 : Int32))]) (rest := [.int ((a0 &&& (3 : Int32))), .ref (ad 13)]) hx hb hml hown hG hl (okX4_field l D cI cJ cP  H.size r1 (0 : Int32) (12 : Int32) ) (cS 3 hG kw4 kw135 kw6 kw5 hdX4_field ⟨by decide, by decide⟩) hK hP hD hS hA hN rfl rfl (Nat.le_of_ble_eq_true rfl) dX4_load_79 ⟨Nat.zero_le _, Nat.zero_le _⟩ (fun r12 q12 H locs hP hD hS => ?_)
      have j12 : i12 r12 := by rw [q12]; exact (f12X r1 (0 : Int32))
      refine si (D := D) (j := ((a0 &&& (3 : Int32))).toNatClampNeg) (f := x.2.2.1) (x := r12) (W' := (wR cI cJ cP ad (x.1, x.2.1, (upd x.2.2.1 ((a0 &&& (3 : Int32))).toNatClampNeg r12), x.2.2.2.1, x.2.2.2.2.1, x.2.2.2.2.2.1, x.2.2.2.2.2.2.1, u1))) hx hb hK hP hD hS 13 0 rfl rfl (in2 (mk2 _)) rfl dX4_load_82 rfl (fun H locs hP hD hS => ?_)
      refine lv_goto (tgt := 108) hx hb dX4_load_83 (by decide) ?_
      refine lv_aload_n hx hb dX4_load_108 rfl (lv_at hl 1 rfl) ?_
      refine kFi (As := []) (rest := []) hx hb hml hown hG hl (okX4_advance l D cI cJ cP ad H.size (x.1, x.2.1, (upd x.2.2.1 ((a0 &&& (3 : Int32))).toNatClampNeg r12), x.2.2.2.1, x.2.2.2.2.1, x.2.2.2.2.2.1, x.2.2.2.2.2.2.1, u1) ⟨hI.1, hI.2.1, (up12 hI.2.2.1 j12), hI.2.2.2.1, hI.2.2.2.2.1, hI.2.2.2.2.2.1, hI.2.2.2.2.2.2.1, j1.2⟩) (cV 0 hG kw92 kw93 kw94 kw95 kw5 hdX4_advance ⟨by decide, by decide⟩) 0 4 rfl rfl hK hP hD hS hA hN rfl rfl (Nat.le_of_ble_eq_true rfl) dX4_load_109 ⟨Nat.zero_le _, Nat.zero_le _⟩ (fun r13 u13 q13 H locs hP hD hS => ?_)
      have j13 : ivX4_advanceP (r13, u13) := by rw [q13]; exact ivX4_advance (x.1, x.2.1, (upd x.2.2.1 ((a0 &&& (3 : Int32))).toNatClampNeg r12), x.2.2.2.1, x.2.2.2.2.1, x.2.2.2.2.2.1, x.2.2.2.2.2.2.1, u1) ⟨hI.1, hI.2.1, (up12 hI.2.2.1 j12), hI.2.2.2.1, hI.2.2.2.2.1, hI.2.2.2.2.2.1, hI.2.2.2.2.2.2.1, j1.2⟩
      exact reti (u := u13) hx hb hr hlocks hK hP hD hS dX4_load_112 (by unfold fnX4_load; rw [← q1]; (try dsimp only); rw [if_pos h2]; rw [if_neg h3]; rw [if_neg h5]; rw [if_neg h8]; rw [if_pos h11]; rw [← q12]; (try dsimp only); rw [← q13]; (try dsimp only); (try exact rfl))
    by_cases h14 : a0 = (13 : Int32)
    · refine lv_tableIn (off := 43) (tgt := 68) hx hb dX4_load_25 (by rw [h14]; decide) (by rw [h14]; decide) (by rw [h14]; decide) (by decide) ?_
      refine lv_aload_n hx hb dX4_load_68 rfl (lv_at hl 1 rfl) ?_
      refine va_get (D := D) (ci := 4) (v := .ref (ad 13)) hx hb hG inX4 hown hK hP 0 rfl rfl 3 (by decide) (hG _ kw134) (fun _ h9 => h9) rfl dX4_load_69 ?_
      refine lv_iload_n hx hb dX4_load_72 rfl (lv_at hl 2 rfl) ?_
      refine lv_iconst (v := 3) hx hb dX4_load_73 (by decide) ?_
      refine lv_iand hx hb dX4_load_74 ?_
      refine lv_lload_n hx hb dX4_load_75 rfl (lv_at hl 0 rfl) ?_
      refine lv_iconst (v := 0) hx hb dX4_load_76 (by decide) ?_
      refine lv_bipush (v := 12) hx hb dX4_load_77 (by decide) ?_
      refine k0Si (As := [.long (r1), .int ((0 : Int32)), .int ((12 : Int32))]) (rest := [.int ((a0 &&& (3 : Int32))), .ref (ad 13)]) hx hb hml hown hG hl (okX4_field l D cI cJ cP  H.size r1 (0 : Int32) (12 : Int32) ) (cS 3 hG kw4 kw135 kw6 kw5 hdX4_field ⟨by decide, by decide⟩) hK hP hD hS hA hN rfl rfl (Nat.le_of_ble_eq_true rfl) dX4_load_79 ⟨Nat.zero_le _, Nat.zero_le _⟩ (fun r15 q15 H locs hP hD hS => ?_)
      have j15 : i12 r15 := by rw [q15]; exact (f12X r1 (0 : Int32))
      refine si (D := D) (j := ((a0 &&& (3 : Int32))).toNatClampNeg) (f := x.2.2.1) (x := r15) (W' := (wR cI cJ cP ad (x.1, x.2.1, (upd x.2.2.1 ((a0 &&& (3 : Int32))).toNatClampNeg r15), x.2.2.2.1, x.2.2.2.2.1, x.2.2.2.2.2.1, x.2.2.2.2.2.2.1, u1))) hx hb hK hP hD hS 13 0 rfl rfl (in2 (mk2 _)) rfl dX4_load_82 rfl (fun H locs hP hD hS => ?_)
      refine lv_goto (tgt := 108) hx hb dX4_load_83 (by decide) ?_
      refine lv_aload_n hx hb dX4_load_108 rfl (lv_at hl 1 rfl) ?_
      refine kFi (As := []) (rest := []) hx hb hml hown hG hl (okX4_advance l D cI cJ cP ad H.size (x.1, x.2.1, (upd x.2.2.1 ((a0 &&& (3 : Int32))).toNatClampNeg r15), x.2.2.2.1, x.2.2.2.2.1, x.2.2.2.2.2.1, x.2.2.2.2.2.2.1, u1) ⟨hI.1, hI.2.1, (up12 hI.2.2.1 j15), hI.2.2.2.1, hI.2.2.2.2.1, hI.2.2.2.2.2.1, hI.2.2.2.2.2.2.1, j1.2⟩) (cV 0 hG kw92 kw93 kw94 kw95 kw5 hdX4_advance ⟨by decide, by decide⟩) 0 4 rfl rfl hK hP hD hS hA hN rfl rfl (Nat.le_of_ble_eq_true rfl) dX4_load_109 ⟨Nat.zero_le _, Nat.zero_le _⟩ (fun r16 u16 q16 H locs hP hD hS => ?_)
      have j16 : ivX4_advanceP (r16, u16) := by rw [q16]; exact ivX4_advance (x.1, x.2.1, (upd x.2.2.1 ((a0 &&& (3 : Int32))).toNatClampNeg r15), x.2.2.2.1, x.2.2.2.2.1, x.2.2.2.2.2.1, x.2.2.2.2.2.2.1, u1) ⟨hI.1, hI.2.1, (up12 hI.2.2.1 j15), hI.2.2.2.1, hI.2.2.2.2.1, hI.2.2.2.2.2.1, hI.2.2.2.2.2.2.1, j1.2⟩
      exact reti (u := u16) hx hb hr hlocks hK hP hD hS dX4_load_112 (by unfold fnX4_load; rw [← q1]; (try dsimp only); rw [if_pos h2]; rw [if_neg h3]; rw [if_neg h5]; rw [if_neg h8]; rw [if_neg h11]; rw [if_pos h14]; rw [← q15]; (try dsimp only); rw [← q16]; (try dsimp only); (try exact rfl))
    by_cases h17 : a0 = (14 : Int32)
    · refine lv_tableIn (off := 43) (tgt := 68) hx hb dX4_load_25 (by rw [h17]; decide) (by rw [h17]; decide) (by rw [h17]; decide) (by decide) ?_
      refine lv_aload_n hx hb dX4_load_68 rfl (lv_at hl 1 rfl) ?_
      refine va_get (D := D) (ci := 4) (v := .ref (ad 13)) hx hb hG inX4 hown hK hP 0 rfl rfl 3 (by decide) (hG _ kw134) (fun _ h9 => h9) rfl dX4_load_69 ?_
      refine lv_iload_n hx hb dX4_load_72 rfl (lv_at hl 2 rfl) ?_
      refine lv_iconst (v := 3) hx hb dX4_load_73 (by decide) ?_
      refine lv_iand hx hb dX4_load_74 ?_
      refine lv_lload_n hx hb dX4_load_75 rfl (lv_at hl 0 rfl) ?_
      refine lv_iconst (v := 0) hx hb dX4_load_76 (by decide) ?_
      refine lv_bipush (v := 12) hx hb dX4_load_77 (by decide) ?_
      refine k0Si (As := [.long (r1), .int ((0 : Int32)), .int ((12 : Int32))]) (rest := [.int ((a0 &&& (3 : Int32))), .ref (ad 13)]) hx hb hml hown hG hl (okX4_field l D cI cJ cP  H.size r1 (0 : Int32) (12 : Int32) ) (cS 3 hG kw4 kw135 kw6 kw5 hdX4_field ⟨by decide, by decide⟩) hK hP hD hS hA hN rfl rfl (Nat.le_of_ble_eq_true rfl) dX4_load_79 ⟨Nat.zero_le _, Nat.zero_le _⟩ (fun r18 q18 H locs hP hD hS => ?_)
      have j18 : i12 r18 := by rw [q18]; exact (f12X r1 (0 : Int32))
      refine si (D := D) (j := ((a0 &&& (3 : Int32))).toNatClampNeg) (f := x.2.2.1) (x := r18) (W' := (wR cI cJ cP ad (x.1, x.2.1, (upd x.2.2.1 ((a0 &&& (3 : Int32))).toNatClampNeg r18), x.2.2.2.1, x.2.2.2.2.1, x.2.2.2.2.2.1, x.2.2.2.2.2.2.1, u1))) hx hb hK hP hD hS 13 0 rfl rfl (in2 (mk2 _)) rfl dX4_load_82 rfl (fun H locs hP hD hS => ?_)
      refine lv_goto (tgt := 108) hx hb dX4_load_83 (by decide) ?_
      refine lv_aload_n hx hb dX4_load_108 rfl (lv_at hl 1 rfl) ?_
      refine kFi (As := []) (rest := []) hx hb hml hown hG hl (okX4_advance l D cI cJ cP ad H.size (x.1, x.2.1, (upd x.2.2.1 ((a0 &&& (3 : Int32))).toNatClampNeg r18), x.2.2.2.1, x.2.2.2.2.1, x.2.2.2.2.2.1, x.2.2.2.2.2.2.1, u1) ⟨hI.1, hI.2.1, (up12 hI.2.2.1 j18), hI.2.2.2.1, hI.2.2.2.2.1, hI.2.2.2.2.2.1, hI.2.2.2.2.2.2.1, j1.2⟩) (cV 0 hG kw92 kw93 kw94 kw95 kw5 hdX4_advance ⟨by decide, by decide⟩) 0 4 rfl rfl hK hP hD hS hA hN rfl rfl (Nat.le_of_ble_eq_true rfl) dX4_load_109 ⟨Nat.zero_le _, Nat.zero_le _⟩ (fun r19 u19 q19 H locs hP hD hS => ?_)
      have j19 : ivX4_advanceP (r19, u19) := by rw [q19]; exact ivX4_advance (x.1, x.2.1, (upd x.2.2.1 ((a0 &&& (3 : Int32))).toNatClampNeg r18), x.2.2.2.1, x.2.2.2.2.1, x.2.2.2.2.2.1, x.2.2.2.2.2.2.1, u1) ⟨hI.1, hI.2.1, (up12 hI.2.2.1 j18), hI.2.2.2.1, hI.2.2.2.2.1, hI.2.2.2.2.2.1, hI.2.2.2.2.2.2.1, j1.2⟩
      exact reti (u := u19) hx hb hr hlocks hK hP hD hS dX4_load_112 (by unfold fnX4_load; rw [← q1]; (try dsimp only); rw [if_pos h2]; rw [if_neg h3]; rw [if_neg h5]; rw [if_neg h8]; rw [if_neg h11]; rw [if_neg h14]; rw [if_pos h17]; rw [← q18]; (try dsimp only); rw [← q19]; (try dsimp only); (try exact rfl))
    by_cases h20 : a0 = (15 : Int32)
    · refine lv_tableIn (off := 43) (tgt := 68) hx hb dX4_load_25 (by rw [h20]; decide) (by rw [h20]; decide) (by rw [h20]; decide) (by decide) ?_
      refine lv_aload_n hx hb dX4_load_68 rfl (lv_at hl 1 rfl) ?_
      refine va_get (D := D) (ci := 4) (v := .ref (ad 13)) hx hb hG inX4 hown hK hP 0 rfl rfl 3 (by decide) (hG _ kw134) (fun _ h9 => h9) rfl dX4_load_69 ?_
      refine lv_iload_n hx hb dX4_load_72 rfl (lv_at hl 2 rfl) ?_
      refine lv_iconst (v := 3) hx hb dX4_load_73 (by decide) ?_
      refine lv_iand hx hb dX4_load_74 ?_
      refine lv_lload_n hx hb dX4_load_75 rfl (lv_at hl 0 rfl) ?_
      refine lv_iconst (v := 0) hx hb dX4_load_76 (by decide) ?_
      refine lv_bipush (v := 12) hx hb dX4_load_77 (by decide) ?_
      refine k0Si (As := [.long (r1), .int ((0 : Int32)), .int ((12 : Int32))]) (rest := [.int ((a0 &&& (3 : Int32))), .ref (ad 13)]) hx hb hml hown hG hl (okX4_field l D cI cJ cP  H.size r1 (0 : Int32) (12 : Int32) ) (cS 3 hG kw4 kw135 kw6 kw5 hdX4_field ⟨by decide, by decide⟩) hK hP hD hS hA hN rfl rfl (Nat.le_of_ble_eq_true rfl) dX4_load_79 ⟨Nat.zero_le _, Nat.zero_le _⟩ (fun r21 q21 H locs hP hD hS => ?_)
      have j21 : i12 r21 := by rw [q21]; exact (f12X r1 (0 : Int32))
      refine si (D := D) (j := ((a0 &&& (3 : Int32))).toNatClampNeg) (f := x.2.2.1) (x := r21) (W' := (wR cI cJ cP ad (x.1, x.2.1, (upd x.2.2.1 ((a0 &&& (3 : Int32))).toNatClampNeg r21), x.2.2.2.1, x.2.2.2.2.1, x.2.2.2.2.2.1, x.2.2.2.2.2.2.1, u1))) hx hb hK hP hD hS 13 0 rfl rfl (in2 (mk2 _)) rfl dX4_load_82 rfl (fun H locs hP hD hS => ?_)
      refine lv_goto (tgt := 108) hx hb dX4_load_83 (by decide) ?_
      refine lv_aload_n hx hb dX4_load_108 rfl (lv_at hl 1 rfl) ?_
      refine kFi (As := []) (rest := []) hx hb hml hown hG hl (okX4_advance l D cI cJ cP ad H.size (x.1, x.2.1, (upd x.2.2.1 ((a0 &&& (3 : Int32))).toNatClampNeg r21), x.2.2.2.1, x.2.2.2.2.1, x.2.2.2.2.2.1, x.2.2.2.2.2.2.1, u1) ⟨hI.1, hI.2.1, (up12 hI.2.2.1 j21), hI.2.2.2.1, hI.2.2.2.2.1, hI.2.2.2.2.2.1, hI.2.2.2.2.2.2.1, j1.2⟩) (cV 0 hG kw92 kw93 kw94 kw95 kw5 hdX4_advance ⟨by decide, by decide⟩) 0 4 rfl rfl hK hP hD hS hA hN rfl rfl (Nat.le_of_ble_eq_true rfl) dX4_load_109 ⟨Nat.zero_le _, Nat.zero_le _⟩ (fun r22 u22 q22 H locs hP hD hS => ?_)
      have j22 : ivX4_advanceP (r22, u22) := by rw [q22]; exact ivX4_advance (x.1, x.2.1, (upd x.2.2.1 ((a0 &&& (3 : Int32))).toNatClampNeg r21), x.2.2.2.1, x.2.2.2.2.1, x.2.2.2.2.2.1, x.2.2.2.2.2.2.1, u1) ⟨hI.1, hI.2.1, (up12 hI.2.2.1 j21), hI.2.2.2.1, hI.2.2.2.2.1, hI.2.2.2.2.2.1, hI.2.2.2.2.2.2.1, j1.2⟩
      exact reti (u := u22) hx hb hr hlocks hK hP hD hS dX4_load_112 (by unfold fnX4_load; rw [← q1]; (try dsimp only); rw [if_pos h2]; rw [if_neg h3]; rw [if_neg h5]; rw [if_neg h8]; rw [if_neg h11]; rw [if_neg h14]; rw [if_neg h17]; rw [if_pos h20]; rw [← q21]; (try dsimp only); rw [← q22]; (try dsimp only); (try exact rfl))
    refine lv_tableOut (tgt := 94) hx hb dX4_load_25 (by have a0 := neI (n := 9) h3 (by decide); have a1 := neI (n := 10) h5 (by decide); have a2 := neI (n := 11) h8 (by decide); have a3 := neI (n := 12) h11 (by decide); have a4 := neI (n := 13) h14 (by decide); have a5 := neI (n := 14) h17 (by decide); have a6 := neI (n := 15) h20 (by decide); omega) (by decide) ?_
    refine lv_aload_n hx hb dX4_load_94 rfl (lv_at hl 1 rfl) ?_
    refine lv_aload_n hx hb dX4_load_95 rfl (lv_at hl 1 rfl) ?_
    refine lv_iload_n hx hb dX4_load_96 rfl (lv_at hl 2 rfl) ?_
    refine lv_lload_n hx hb dX4_load_97 rfl (lv_at hl 0 rfl) ?_
    refine kFl (As := [.int (a0), .long (r1)]) (rest := [.ref (ad 0)]) hx hb hml hown hG hl (okX4_combined l D cI cJ cP ad H.size (x.1, x.2.1, x.2.2.1, x.2.2.2.1, x.2.2.2.2.1, x.2.2.2.2.2.1, x.2.2.2.2.2.2.1, u1) a0 r1 ⟨hI.1, hI.2.1, hI.2.2.1, hI.2.2.2.1, hI.2.2.2.2.1, hI.2.2.2.2.2.1, hI.2.2.2.2.2.2.1, j1.2⟩) (cV 2 hG kw129 kw130 kw131 kw132 kw5 hdX4_combined ⟨by decide, by decide⟩) 0 4 rfl rfl hK hP hD hS hA hN rfl rfl (Nat.le_of_ble_eq_true rfl) dX4_load_98 ⟨Nat.zero_le _, Nat.zero_le _⟩ (fun r23 _ q23 H locs hP hD hS => ?_)
    refine lv_ldc2 (v := 68719476735) hx hb hown (hG _ kw133) dX4_load_101 ?_
    refine lv_land hx hb dX4_load_104 ?_
    refine pu (D := D) (ci := 4) (v := .long ((r23 &&& (68719476735 : Int64)))) (ty := .long) (W' := (wR cI cJ cP ad (((r23 &&& (68719476735 : Int64)), x.1.2), x.2.1, x.2.2.1, x.2.2.2.1, x.2.2.2.2.1, x.2.2.2.2.2.1, x.2.2.2.2.2.2.1, u1))) hx hb hG inX4 tyX4 tyokX4 nmX4 hown hK hP hD hS 0 rfl rfl 1 (by decide) (hG _ kw90) (fun _ h9 => h9) rfl (by decide +kernel) rfl rfl (Nat.le_of_ble_eq_true rfl) dX4_load_105 rfl (fun H locs hP hD hS => ?_)
    refine lv_aload_n hx hb dX4_load_108 rfl (lv_at hl 1 rfl) ?_
    refine kFi (As := []) (rest := []) hx hb hml hown hG hl (okX4_advance l D cI cJ cP ad H.size (((r23 &&& (68719476735 : Int64)), x.1.2), x.2.1, x.2.2.1, x.2.2.2.1, x.2.2.2.2.1, x.2.2.2.2.2.1, x.2.2.2.2.2.2.1, u1) ⟨⟨(mkW _), hI.1.2⟩, hI.2.1, hI.2.2.1, hI.2.2.2.1, hI.2.2.2.2.1, hI.2.2.2.2.2.1, hI.2.2.2.2.2.2.1, j1.2⟩) (cV 0 hG kw92 kw93 kw94 kw95 kw5 hdX4_advance ⟨by decide, by decide⟩) 0 4 rfl rfl hK hP hD hS hA hN rfl rfl (Nat.le_of_ble_eq_true rfl) dX4_load_109 ⟨Nat.zero_le _, Nat.zero_le _⟩ (fun r24 u24 q24 H locs hP hD hS => ?_)
    have j24 : ivX4_advanceP (r24, u24) := by rw [q24]; exact ivX4_advance (((r23 &&& (68719476735 : Int64)), x.1.2), x.2.1, x.2.2.1, x.2.2.2.1, x.2.2.2.2.1, x.2.2.2.2.2.1, x.2.2.2.2.2.2.1, u1) ⟨⟨(mkW _), hI.1.2⟩, hI.2.1, hI.2.2.1, hI.2.2.2.1, hI.2.2.2.2.1, hI.2.2.2.2.2.1, hI.2.2.2.2.2.2.1, j1.2⟩
    exact reti (u := u24) hx hb hr hlocks hK hP hD hS dX4_load_112 (by unfold fnX4_load; rw [← q1]; (try dsimp only); rw [if_pos h2]; rw [if_neg h3]; rw [if_neg h5]; rw [if_neg h8]; rw [if_neg h11]; rw [if_neg h14]; rw [if_neg h17]; rw [if_neg h20]; rw [← q23]; (try dsimp only); rw [← q24]; (try dsimp only); (try exact rfl))
  · refine lv_lload_n hx hb dX4_load_19 rfl (lv_at hl 0 rfl) ?_
    refine k0Si (As := [.long (r1)]) (rest := []) hx hb hml hown hG hl (okX4_faultOf l D cI cJ cP  H.size r1 ) (cS 1 hG kw85 kw136 kw86 kw5 hdX4_faultOf ⟨by decide, by decide⟩) hK hP hD hS hA hN rfl rfl (Nat.le_of_ble_eq_true rfl) dX4_load_20 ⟨Nat.zero_le _, Nat.zero_le _⟩ (fun r25 q25 H locs hP hD hS => ?_)
    have j25 : i4 r25 := by rw [q25]; exact (fltI j1.1 (Int64.not_le.mp h2))
    exact reti (u := (x.1, x.2.1, x.2.2.1, x.2.2.2.1, x.2.2.2.2.1, x.2.2.2.2.2.1, x.2.2.2.2.2.2.1, u1)) hx hb hr hlocks hK hP hD hS dX4_load_23 (by unfold fnX4_load; rw [← q1]; (try dsimp only); rw [if_neg h2]; rw [← q25]; (try dsimp only); (try exact rfl))
def fnX4_addOne (x : TR)  : Int32 × TR :=
  let p1 := fnX3_read x.2.2.2.2.2.2.2 x.2.2.2.2.2.1 (0 : Int32)
  if (0 : Int64) ≤ p1.1 then
   let p3 := fnX3_write p1.2 x.2.2.2.2.2.1 ((p1.1 + (1 : Int64)) &&& (68719476735 : Int64))
   if p3.1 = (0 : Int32) then
    let p5 := fnX4_advance (x.1, x.2.1, x.2.2.1, x.2.2.2.1, x.2.2.2.2.1, x.2.2.2.2.2.1, x.2.2.2.2.2.2.1, p3.2)
    (p5.1, p5.2)
   else
    (p3.1, (x.1, x.2.1, x.2.2.1, x.2.2.2.1, x.2.2.2.2.1, x.2.2.2.2.2.1, x.2.2.2.2.2.2.1, p3.2))
  else
   let p6 := fnX4_faultOf p1.1
   (p6, (x.1, x.2.1, x.2.2.1, x.2.2.2.1, x.2.2.2.2.1, x.2.2.2.2.2.1, x.2.2.2.2.2.2.1, p1.2))
abbrev ivX4_addOneP (z : Int32 × TR) : Prop := i4 z.1 ∧ iR z.2
set_option maxRecDepth 100000 in
set_option maxHeartbeats 4000000 in
theorem ivX4_addOne (x : TR)  (hI : iR x) : ivX4_addOneP (fnX4_addOne x) := by
  unfold fnX4_addOne
  try dsimp only
  have j1 : ivX3_readP (fnX3_read x.2.2.2.2.2.2.2 x.2.2.2.2.2.1 (0 : Int32)) := ivX3_read x.2.2.2.2.2.2.2 x.2.2.2.2.2.1 (0 : Int32) hI.2.2.2.2.2.2.2 hI.2.2.2.2.2.1
  generalize fnX3_read x.2.2.2.2.2.2.2 x.2.2.2.2.2.1 (0 : Int32) = p1 at j1 ⊢
  refine iteI (fun h2 => ?_) (fun h2 => ?_)
  · have j3 : ivX3_writeP (fnX3_write p1.2 x.2.2.2.2.2.1 ((p1.1 + (1 : Int64)) &&& (68719476735 : Int64))) := ivX3_write p1.2 x.2.2.2.2.2.1 ((p1.1 + (1 : Int64)) &&& (68719476735 : Int64)) j1.2 hI.2.2.2.2.2.1 (mkW _)
    generalize fnX3_write p1.2 x.2.2.2.2.2.1 ((p1.1 + (1 : Int64)) &&& (68719476735 : Int64)) = p3 at j3 ⊢
    refine iteI (fun h4 => ?_) (fun h4 => ?_)
    · have j5 : ivX4_advanceP (fnX4_advance (x.1, x.2.1, x.2.2.1, x.2.2.2.1, x.2.2.2.2.1, x.2.2.2.2.2.1, x.2.2.2.2.2.2.1, p3.2)) := ivX4_advance (x.1, x.2.1, x.2.2.1, x.2.2.2.1, x.2.2.2.2.1, x.2.2.2.2.2.1, x.2.2.2.2.2.2.1, p3.2) ⟨hI.1, hI.2.1, hI.2.2.1, hI.2.2.2.1, hI.2.2.2.2.1, hI.2.2.2.2.2.1, hI.2.2.2.2.2.2.1, j3.2⟩
      generalize fnX4_advance (x.1, x.2.1, x.2.2.1, x.2.2.2.1, x.2.2.2.2.1, x.2.2.2.2.2.1, x.2.2.2.2.2.2.1, p3.2) = p5 at j5 ⊢
      exact ⟨j5.1, j5.2⟩
    · exact ⟨j3.1, ⟨hI.1, hI.2.1, hI.2.2.1, hI.2.2.2.1, hI.2.2.2.2.1, hI.2.2.2.2.2.1, hI.2.2.2.2.2.2.1, j3.2⟩⟩
  · have j6 : i4 (fnX4_faultOf p1.1) := (fltI j1.1 (Int64.not_le.mp h2))
    generalize fnX4_faultOf p1.1 = p6 at j6 ⊢
    exact ⟨j6, ⟨hI.1, hI.2.1, hI.2.2.1, hI.2.2.2.1, hI.2.2.2.2.1, hI.2.2.2.2.2.1, hI.2.2.2.2.2.2.1, j1.2⟩⟩
set_option maxRecDepth 100000 in
set_option maxHeartbeats 4000000 in
theorem okX4_addOne (l : Launch) (D : va_G) (cI cJ cP : ClassId) (ad : Nat → Nat) (sz : Nat) (x : TR)  (hI : iR x) : Met l yX4_addOne (Cond.code yX4_addOne cX4_addOne 4 (some .int) :: gG) { frames := 4, cells := 0, slots := 0, locals := 106 } (va_Pc [.ref (ad 0)] (PRE D (tz cI cJ cP) sz (wR cI cJ cP ad x))) (va_Qi (fun (r : Int32) (u : TR) => (r, u) = fnX4_addOne x) (AT D (tz cI cJ cP) (va_A (wR cI cJ cP ad x) sz) (fun (u : TR) => (wR cI cJ cP ad u))) (va_A (wR cI cJ cP ad x) sz)) 0 0 (va_A (wR cI cJ cP ad x) sz) := by
  refine mo (QA := fun A => va_Qi (fun (r : Int32) (u : TR) => (r, u) = fnX4_addOne x) (AT D (tz cI cJ cP) A (fun (u : TR) => (wR cI cJ cP ad u))) A) (by decide) (Nat.le_of_ble_eq_true rfl) ?_
  intro p e s m below meth c A ls H hx hb hr hml hown hG hlocks hnm hA hS hP hK hD hl hN
  have hown : s.vm.findClass RX4 = some m.cls := hown
  have hl : lv_has ls 4 [(0, .ref (ad 0))] := hl
  refine lv_aload_n hx hb dX4_addOne_0 rfl (lv_at hl 0 rfl) ?_
  refine va_get (D := D) (ci := 4) (v := .ref (ad 1)) hx hb hG inX4 hown hK hP 0 rfl rfl 0 (by decide) (hG _ kw104) (fun _ h9 => h9) rfl dX4_addOne_1 ?_
  refine lv_aload_n hx hb dX4_addOne_4 rfl (lv_at hl 0 rfl) ?_
  refine va_get (D := D) (ci := 4) (v := .ref (ad 12)) hx hb hG inX4 hown hK hP 0 rfl rfl 6 (by decide) (hG _ kw124) (fun _ h9 => h9) rfl dX4_addOne_5 ?_
  refine lv_iconst (v := 0) hx hb dX4_addOne_8 (by decide) ?_
  refine kVl (As := [.ref (ad 12), .int ((0 : Int32))]) (rest := []) (W' := (fun u1 => (wR cI cJ cP ad (x.1, x.2.1, x.2.2.1, x.2.2.2.1, x.2.2.2.2.1, x.2.2.2.2.2.1, x.2.2.2.2.2.2.1, u1)))) hx hb hml hown hG hl (okX3_read l D cI cJ cP (fun i => ad (i + 1)) H.size x.2.2.2.2.2.2.2 x.2.2.2.2.2.1 (0 : Int32) hI.2.2.2.2.2.2.2 hI.2.2.2.2.2.1) (cV 2 hG kw125 kw126 kw127 kw128 kw60 hdX3_read ⟨by decide, by decide⟩) 1 3 rfl rfl hK hP hD hS hA hN [1, 2, 3, 4, 5, 6, 7, 8, 9, 10, 11, 12] rfl rfl rfl (fun _ => rfl) (fun _ => rfl) rfl rfl (Nat.le_of_ble_eq_true rfl) dX4_addOne_9 ⟨Nat.zero_le _, Nat.zero_le _⟩ (fun r1 u1 q1 H locs hP hD hS => ?_)
  have j1 : ivX3_readP (r1, u1) := by rw [q1]; exact ivX3_read x.2.2.2.2.2.2.2 x.2.2.2.2.2.1 (0 : Int32) hI.2.2.2.2.2.2.2 hI.2.2.2.2.2.1
  refine lv_lstore_n (lv' := [(1, .long (r1)), (0, .ref (ad 0))]) hx hb dX4_addOne_12 rfl hl (by decide) rfl (fun ls hl => ?_)
  refine lv_lload_n hx hb dX4_addOne_13 rfl (lv_at hl 0 rfl) ?_
  refine lv_lconst (v := 0) hx hb dX4_addOne_14 (by decide) ?_
  refine lq_ge (tgt := 24) hx hb dX4_addOne_15 dX4_addOne_16 (by decide) (fun h2 => ?_) (fun h2 => ?_)
  · refine lv_aload_n hx hb dX4_addOne_24 rfl (lv_at hl 1 rfl) ?_
    refine va_get (D := D) (ci := 4) (v := .ref (ad 1)) hx hb hG inX4 hown hK hP 0 rfl rfl 0 (by decide) (hG _ kw104) (fun _ h9 => h9) rfl dX4_addOne_25 ?_
    refine lv_aload_n hx hb dX4_addOne_28 rfl (lv_at hl 1 rfl) ?_
    refine va_get (D := D) (ci := 4) (v := .ref (ad 12)) hx hb hG inX4 hown hK hP 0 rfl rfl 6 (by decide) (hG _ kw124) (fun _ h9 => h9) rfl dX4_addOne_29 ?_
    refine lv_lload_n hx hb dX4_addOne_32 rfl (lv_at hl 0 rfl) ?_
    refine lv_lconst (v := 1) hx hb dX4_addOne_33 (by decide) ?_
    refine lv_ladd hx hb dX4_addOne_34 ?_
    refine lv_ldc2 (v := 68719476735) hx hb hown (hG _ kw133) dX4_addOne_35 ?_
    refine lv_land hx hb dX4_addOne_38 ?_
    refine kVi (As := [.ref (ad 12), .long (((r1 + (1 : Int64)) &&& (68719476735 : Int64)))]) (rest := []) (W' := (fun u3 => (wR cI cJ cP ad (x.1, x.2.1, x.2.2.1, x.2.2.2.1, x.2.2.2.2.1, x.2.2.2.2.2.1, x.2.2.2.2.2.2.1, u3)))) hx hb hml hown hG hl (okX3_write l D cI cJ cP (fun i => ad (i + 1)) H.size u1 x.2.2.2.2.2.1 ((r1 + (1 : Int64)) &&& (68719476735 : Int64)) j1.2 hI.2.2.2.2.2.1 (mkW _)) (cV 2 hG kw137 kw138 kw139 kw140 kw60 hdX3_write ⟨by decide, by decide⟩) 1 3 rfl rfl hK hP hD hS hA hN [1, 2, 3, 4, 5, 6, 7, 8, 9, 10, 11, 12] rfl rfl rfl (fun _ => rfl) (fun _ => rfl) rfl rfl (Nat.le_of_ble_eq_true rfl) dX4_addOne_39 ⟨Nat.zero_le _, Nat.zero_le _⟩ (fun r3 u3 q3 H locs hP hD hS => ?_)
    have j3 : ivX3_writeP (r3, u3) := by rw [q3]; exact ivX3_write u1 x.2.2.2.2.2.1 ((r1 + (1 : Int64)) &&& (68719476735 : Int64)) j1.2 hI.2.2.2.2.2.1 (mkW _)
    refine lv_istore_n (lv' := [(3, .int (r3)), (1, .long (r1)), (0, .ref (ad 0))]) hx hb dX4_addOne_42 rfl hl (by decide) rfl (fun ls hl => ?_)
    refine lv_iload_n hx hb dX4_addOne_43 rfl (lv_at hl 0 rfl) ?_
    refine lv_if_ne (tgt := 54) hx hb dX4_addOne_44 (by decide) (fun h4 => ?_) (fun h4 => ?_)
    · refine lv_iload_n hx hb dX4_addOne_54 rfl (lv_at hl 0 rfl) ?_
      exact reti (u := (x.1, x.2.1, x.2.2.1, x.2.2.2.1, x.2.2.2.2.1, x.2.2.2.2.2.1, x.2.2.2.2.2.2.1, u3)) hx hb hr hlocks hK hP hD hS dX4_addOne_55 (by unfold fnX4_addOne; rw [← q1]; (try dsimp only); rw [if_pos h2]; rw [← q3]; (try dsimp only); rw [if_neg h4]; (try exact rfl))
    · refine lv_aload_n hx hb dX4_addOne_47 rfl (lv_at hl 2 rfl) ?_
      refine kFi (As := []) (rest := []) hx hb hml hown hG hl (okX4_advance l D cI cJ cP ad H.size (x.1, x.2.1, x.2.2.1, x.2.2.2.1, x.2.2.2.2.1, x.2.2.2.2.2.1, x.2.2.2.2.2.2.1, u3) ⟨hI.1, hI.2.1, hI.2.2.1, hI.2.2.2.1, hI.2.2.2.2.1, hI.2.2.2.2.2.1, hI.2.2.2.2.2.2.1, j3.2⟩) (cV 0 hG kw92 kw93 kw94 kw95 kw5 hdX4_advance ⟨by decide, by decide⟩) 0 4 rfl rfl hK hP hD hS hA hN rfl rfl (Nat.le_of_ble_eq_true rfl) dX4_addOne_48 ⟨Nat.zero_le _, Nat.zero_le _⟩ (fun r5 u5 q5 H locs hP hD hS => ?_)
      have j5 : ivX4_advanceP (r5, u5) := by rw [q5]; exact ivX4_advance (x.1, x.2.1, x.2.2.1, x.2.2.2.1, x.2.2.2.2.1, x.2.2.2.2.2.1, x.2.2.2.2.2.2.1, u3) ⟨hI.1, hI.2.1, hI.2.2.1, hI.2.2.2.1, hI.2.2.2.2.1, hI.2.2.2.2.2.1, hI.2.2.2.2.2.2.1, j3.2⟩
      refine lv_goto (tgt := 55) hx hb dX4_addOne_51 (by decide) ?_
      exact reti (u := u5) hx hb hr hlocks hK hP hD hS dX4_addOne_55 (by unfold fnX4_addOne; rw [← q1]; (try dsimp only); rw [if_pos h2]; rw [← q3]; (try dsimp only); rw [if_pos h4]; rw [← q5]; (try dsimp only); (try exact rfl))
  · refine lv_lload_n hx hb dX4_addOne_19 rfl (lv_at hl 0 rfl) ?_
    refine k0Si (As := [.long (r1)]) (rest := []) hx hb hml hown hG hl (okX4_faultOf l D cI cJ cP  H.size r1 ) (cS 1 hG kw85 kw136 kw86 kw5 hdX4_faultOf ⟨by decide, by decide⟩) hK hP hD hS hA hN rfl rfl (Nat.le_of_ble_eq_true rfl) dX4_addOne_20 ⟨Nat.zero_le _, Nat.zero_le _⟩ (fun r6 q6 H locs hP hD hS => ?_)
    have j6 : i4 r6 := by rw [q6]; exact (fltI j1.1 (Int64.not_le.mp h2))
    exact reti (u := (x.1, x.2.1, x.2.2.1, x.2.2.2.1, x.2.2.2.2.1, x.2.2.2.2.2.1, x.2.2.2.2.2.2.1, u1)) hx hb hr hlocks hK hP hD hS dX4_addOne_23 (by unfold fnX4_addOne; rw [← q1]; (try dsimp only); rw [if_neg h2]; rw [← q6]; (try dsimp only); (try exact rfl))
def fnX4_put (x : TR) (a0 : Int64) : Int32 × TR :=
  let p1 := fnX3_write x.2.2.2.2.2.2.2 x.2.2.2.2.2.1 a0
  if p1.1 = (0 : Int32) then
   let p3 := fnX4_advance (x.1, x.2.1, x.2.2.1, x.2.2.2.1, x.2.2.2.2.1, x.2.2.2.2.2.1, x.2.2.2.2.2.2.1, p1.2)
   (p3.1, p3.2)
  else
   (p1.1, (x.1, x.2.1, x.2.2.1, x.2.2.2.1, x.2.2.2.2.1, x.2.2.2.2.2.1, x.2.2.2.2.2.2.1, p1.2))
abbrev ivX4_putP (z : Int32 × TR) : Prop := i4 z.1 ∧ iR z.2
set_option maxRecDepth 100000 in
set_option maxHeartbeats 4000000 in
theorem ivX4_put (x : TR) (a0 : Int64) (hI : iR x) (g0 : i36 a0) : ivX4_putP (fnX4_put x a0) := by
  unfold fnX4_put
  try dsimp only
  have j1 : ivX3_writeP (fnX3_write x.2.2.2.2.2.2.2 x.2.2.2.2.2.1 a0) := ivX3_write x.2.2.2.2.2.2.2 x.2.2.2.2.2.1 a0 hI.2.2.2.2.2.2.2 hI.2.2.2.2.2.1 g0
  generalize fnX3_write x.2.2.2.2.2.2.2 x.2.2.2.2.2.1 a0 = p1 at j1 ⊢
  refine iteI (fun h2 => ?_) (fun h2 => ?_)
  · have j3 : ivX4_advanceP (fnX4_advance (x.1, x.2.1, x.2.2.1, x.2.2.2.1, x.2.2.2.2.1, x.2.2.2.2.2.1, x.2.2.2.2.2.2.1, p1.2)) := ivX4_advance (x.1, x.2.1, x.2.2.1, x.2.2.2.1, x.2.2.2.2.1, x.2.2.2.2.2.1, x.2.2.2.2.2.2.1, p1.2) ⟨hI.1, hI.2.1, hI.2.2.1, hI.2.2.2.1, hI.2.2.2.2.1, hI.2.2.2.2.2.1, hI.2.2.2.2.2.2.1, j1.2⟩
    generalize fnX4_advance (x.1, x.2.1, x.2.2.1, x.2.2.2.1, x.2.2.2.2.1, x.2.2.2.2.2.1, x.2.2.2.2.2.2.1, p1.2) = p3 at j3 ⊢
    exact ⟨j3.1, j3.2⟩
  · exact ⟨j1.1, ⟨hI.1, hI.2.1, hI.2.2.1, hI.2.2.2.1, hI.2.2.2.2.1, hI.2.2.2.2.2.1, hI.2.2.2.2.2.2.1, j1.2⟩⟩
set_option maxRecDepth 100000 in
set_option maxHeartbeats 4000000 in
theorem okX4_put (l : Launch) (D : va_G) (cI cJ cP : ClassId) (ad : Nat → Nat) (sz : Nat) (x : TR) (a0 : Int64) (hI : iR x) (g0 : i36 a0) : Met l yX4_put (Cond.code yX4_put cX4_put 4 (some .int) :: gG) { frames := 4, cells := 0, slots := 0, locals := 106 } (va_Pc [.ref (ad 0), .long a0] (PRE D (tz cI cJ cP) sz (wR cI cJ cP ad x))) (va_Qi (fun (r : Int32) (u : TR) => (r, u) = fnX4_put x a0) (AT D (tz cI cJ cP) (va_A (wR cI cJ cP ad x) sz) (fun (u : TR) => (wR cI cJ cP ad u))) (va_A (wR cI cJ cP ad x) sz)) 0 0 (va_A (wR cI cJ cP ad x) sz) := by
  refine mo (QA := fun A => va_Qi (fun (r : Int32) (u : TR) => (r, u) = fnX4_put x a0) (AT D (tz cI cJ cP) A (fun (u : TR) => (wR cI cJ cP ad u))) A) (by decide) (Nat.le_of_ble_eq_true rfl) ?_
  intro p e s m below meth c A ls H hx hb hr hml hown hG hlocks hnm hA hS hP hK hD hl hN
  have hown : s.vm.findClass RX4 = some m.cls := hown
  have hl : lv_has ls 4 [(0, .ref (ad 0)), (1, .long a0)] := hl
  refine lv_aload_n hx hb dX4_put_0 rfl (lv_at hl 0 rfl) ?_
  refine va_get (D := D) (ci := 4) (v := .ref (ad 1)) hx hb hG inX4 hown hK hP 0 rfl rfl 0 (by decide) (hG _ kw104) (fun _ h9 => h9) rfl dX4_put_1 ?_
  refine lv_aload_n hx hb dX4_put_4 rfl (lv_at hl 0 rfl) ?_
  refine va_get (D := D) (ci := 4) (v := .ref (ad 12)) hx hb hG inX4 hown hK hP 0 rfl rfl 6 (by decide) (hG _ kw124) (fun _ h9 => h9) rfl dX4_put_5 ?_
  refine lv_lload_n hx hb dX4_put_8 rfl (lv_at hl 1 rfl) ?_
  refine kVi (As := [.ref (ad 12), .long (a0)]) (rest := []) (W' := (fun u1 => (wR cI cJ cP ad (x.1, x.2.1, x.2.2.1, x.2.2.2.1, x.2.2.2.2.1, x.2.2.2.2.2.1, x.2.2.2.2.2.2.1, u1)))) hx hb hml hown hG hl (okX3_write l D cI cJ cP (fun i => ad (i + 1)) H.size x.2.2.2.2.2.2.2 x.2.2.2.2.2.1 a0 hI.2.2.2.2.2.2.2 hI.2.2.2.2.2.1 g0) (cV 2 hG kw137 kw138 kw139 kw140 kw60 hdX3_write ⟨by decide, by decide⟩) 1 3 rfl rfl hK hP hD hS hA hN [1, 2, 3, 4, 5, 6, 7, 8, 9, 10, 11, 12] rfl rfl rfl (fun _ => rfl) (fun _ => rfl) rfl rfl (Nat.le_of_ble_eq_true rfl) dX4_put_9 ⟨Nat.zero_le _, Nat.zero_le _⟩ (fun r1 u1 q1 H locs hP hD hS => ?_)
  have j1 : ivX3_writeP (r1, u1) := by rw [q1]; exact ivX3_write x.2.2.2.2.2.2.2 x.2.2.2.2.2.1 a0 hI.2.2.2.2.2.2.2 hI.2.2.2.2.2.1 g0
  refine lv_istore_n (lv' := [(3, .int (r1)), (0, .ref (ad 0)), (1, .long (a0))]) hx hb dX4_put_12 rfl hl (by decide) rfl (fun ls hl => ?_)
  refine lv_iload_n hx hb dX4_put_13 rfl (lv_at hl 0 rfl) ?_
  refine lv_if_ne (tgt := 24) hx hb dX4_put_14 (by decide) (fun h2 => ?_) (fun h2 => ?_)
  · refine lv_iload_n hx hb dX4_put_24 rfl (lv_at hl 0 rfl) ?_
    exact reti (u := (x.1, x.2.1, x.2.2.1, x.2.2.2.1, x.2.2.2.2.1, x.2.2.2.2.2.1, x.2.2.2.2.2.2.1, u1)) hx hb hr hlocks hK hP hD hS dX4_put_25 (by unfold fnX4_put; rw [← q1]; (try dsimp only); rw [if_neg h2]; (try exact rfl))
  · refine lv_aload_n hx hb dX4_put_17 rfl (lv_at hl 1 rfl) ?_
    refine kFi (As := []) (rest := []) hx hb hml hown hG hl (okX4_advance l D cI cJ cP ad H.size (x.1, x.2.1, x.2.2.1, x.2.2.2.1, x.2.2.2.2.1, x.2.2.2.2.2.1, x.2.2.2.2.2.2.1, u1) ⟨hI.1, hI.2.1, hI.2.2.1, hI.2.2.2.1, hI.2.2.2.2.1, hI.2.2.2.2.2.1, hI.2.2.2.2.2.2.1, j1.2⟩) (cV 0 hG kw92 kw93 kw94 kw95 kw5 hdX4_advance ⟨by decide, by decide⟩) 0 4 rfl rfl hK hP hD hS hA hN rfl rfl (Nat.le_of_ble_eq_true rfl) dX4_put_18 ⟨Nat.zero_le _, Nat.zero_le _⟩ (fun r3 u3 q3 H locs hP hD hS => ?_)
    have j3 : ivX4_advanceP (r3, u3) := by rw [q3]; exact ivX4_advance (x.1, x.2.1, x.2.2.1, x.2.2.2.1, x.2.2.2.2.1, x.2.2.2.2.2.1, x.2.2.2.2.2.2.1, u1) ⟨hI.1, hI.2.1, hI.2.2.1, hI.2.2.2.1, hI.2.2.2.2.1, hI.2.2.2.2.2.1, hI.2.2.2.2.2.2.1, j1.2⟩
    refine lv_goto (tgt := 25) hx hb dX4_put_21 (by decide) ?_
    exact reti (u := u3) hx hb hr hlocks hK hP hD hS dX4_put_25 (by unfold fnX4_put; rw [← q1]; (try dsimp only); rw [if_pos h2]; rw [← q3]; (try dsimp only); (try exact rfl))
def fnX4_transfer (x : TR) (a0 : Int32) : Int32 × TR :=
  if a0 = (0 : Int32) then
   let p4 := fnX4_advance x
   (p4.1, p4.2)
  else
   if x.2.2.2.2.2.1.2.2 = x.2.2.2.2.1.2.2 then
    let p3 := fnX2_become x.2.2.2.2.1 x.2.2.2.2.2.1
    ((0 : Int32), (x.1, x.2.1, x.2.2.1, x.2.2.2.1, p3, x.2.2.2.2.2.1, x.2.2.2.2.2.2.1, x.2.2.2.2.2.2.2))
   else
    ((5 : Int32), x)
abbrev ivX4_transferP (z : Int32 × TR) : Prop := i4 z.1 ∧ iR z.2
set_option maxRecDepth 100000 in
set_option maxHeartbeats 4000000 in
theorem ivX4_transfer (x : TR) (a0 : Int32) (hI : iR x) : ivX4_transferP (fnX4_transfer x a0) := by
  unfold fnX4_transfer
  try dsimp only
  refine iteI (fun h1 => ?_) (fun h1 => ?_)
  · have j4 : ivX4_advanceP (fnX4_advance x) := ivX4_advance x hI
    generalize fnX4_advance x = p4 at j4 ⊢
    exact ⟨j4.1, j4.2⟩
  · refine iteI (fun h2 => ?_) (fun h2 => ?_)
    · have j3 : ivX2_becomeP (fnX2_become x.2.2.2.2.1 x.2.2.2.2.2.1) := ivX2_become x.2.2.2.2.1 x.2.2.2.2.2.1 hI.2.2.2.2.1 hI.2.2.2.2.2.1
      generalize fnX2_become x.2.2.2.2.1 x.2.2.2.2.2.1 = p3 at j3 ⊢
      exact ⟨(show i4 (0 : Int32) from by decide), ⟨hI.1, hI.2.1, hI.2.2.1, hI.2.2.2.1, j3, hI.2.2.2.2.2.1, hI.2.2.2.2.2.2.1, hI.2.2.2.2.2.2.2⟩⟩
    · exact ⟨(show i4 (5 : Int32) from by decide), hI⟩
set_option maxRecDepth 100000 in
set_option maxHeartbeats 4000000 in
theorem okX4_transfer (l : Launch) (D : va_G) (cI cJ cP : ClassId) (ad : Nat → Nat) (sz : Nat) (x : TR) (a0 : Int32) (hI : iR x) : Met l yX4_transfer (Cond.code yX4_transfer cX4_transfer 2 (some .int) :: gG) { frames := 2, cells := 0, slots := 0, locals := 41 } (va_Pc [.ref (ad 0), .int a0] (PRE D (tz cI cJ cP) sz (wR cI cJ cP ad x))) (va_Qi (fun (r : Int32) (u : TR) => (r, u) = fnX4_transfer x a0) (AT D (tz cI cJ cP) (va_A (wR cI cJ cP ad x) sz) (fun (u : TR) => (wR cI cJ cP ad u))) (va_A (wR cI cJ cP ad x) sz)) 0 0 (va_A (wR cI cJ cP ad x) sz) := by
  refine mo (QA := fun A => va_Qi (fun (r : Int32) (u : TR) => (r, u) = fnX4_transfer x a0) (AT D (tz cI cJ cP) A (fun (u : TR) => (wR cI cJ cP ad u))) A) (by decide) (Nat.le_of_ble_eq_true rfl) ?_
  intro p e s m below meth c A ls H hx hb hr hml hown hG hlocks hnm hA hS hP hK hD hl hN
  have hown : s.vm.findClass RX4 = some m.cls := hown
  have hl : lv_has ls 2 [(0, .ref (ad 0)), (1, .int a0)] := hl
  refine lv_iload_n hx hb dX4_transfer_0 rfl (lv_at hl 1 rfl) ?_
  refine lv_if_ne (tgt := 9) hx hb dX4_transfer_1 (by decide) (fun h1 => ?_) (fun h1 => ?_)
  · refine lv_aload_n hx hb dX4_transfer_9 rfl (lv_at hl 0 rfl) ?_
    refine va_get (D := D) (ci := 4) (v := .ref (ad 12)) hx hb hG inX4 hown hK hP 0 rfl rfl 6 (by decide) (hG _ kw124) (fun _ h9 => h9) rfl dX4_transfer_10 ?_
    refine va_get (D := D) (ci := 2) (v := .int (x.2.2.2.2.2.1.2.2)) hx hb hG inX2 hown hK hP 12 rfl rfl 2 (by decide) (hG _ kw119) (fun _ h9 => h9) rfl dX4_transfer_13 ?_
    refine lv_aload_n hx hb dX4_transfer_16 rfl (lv_at hl 0 rfl) ?_
    refine va_get (D := D) (ci := 4) (v := .ref (ad 19)) hx hb hG inX4 hown hK hP 0 rfl rfl 5 (by decide) (hG _ kw87) (fun _ h9 => h9) rfl dX4_transfer_17 ?_
    refine va_get (D := D) (ci := 2) (v := .int (x.2.2.2.2.1.2.2)) hx hb hG inX2 hown hK hP 19 rfl rfl 2 (by decide) (hG _ kw119) (fun _ h9 => h9) rfl dX4_transfer_20 ?_
    refine lv_icmp_eq (tgt := 28) hx hb dX4_transfer_23 (by decide) (fun h2 => ?_) (fun h2 => ?_)
    · refine lv_aload_n hx hb dX4_transfer_28 rfl (lv_at hl 0 rfl) ?_
      refine va_get (D := D) (ci := 4) (v := .ref (ad 19)) hx hb hG inX4 hown hK hP 0 rfl rfl 5 (by decide) (hG _ kw87) (fun _ h9 => h9) rfl dX4_transfer_29 ?_
      refine lv_aload_n hx hb dX4_transfer_32 rfl (lv_at hl 0 rfl) ?_
      refine va_get (D := D) (ci := 4) (v := .ref (ad 12)) hx hb hG inX4 hown hK hP 0 rfl rfl 6 (by decide) (hG _ kw124) (fun _ h9 => h9) rfl dX4_transfer_33 ?_
      refine kVv (As := [.ref (ad 12)]) (rest := []) (W' := (fun u3 => (wR cI cJ cP ad (x.1, x.2.1, x.2.2.1, x.2.2.2.1, u3, x.2.2.2.2.2.1, x.2.2.2.2.2.2.1, x.2.2.2.2.2.2.2)))) hx hb hml hown hG hl (okX2_become l D cI cJ cP (ad 19) (ad 12) H.size x.2.2.2.2.1 x.2.2.2.2.2.1 hI.2.2.2.2.1 hI.2.2.2.2.2.1) (cV 1 hG kw98 kw100 kw101 kw102 kw99 hdX2_become ⟨by decide, by decide⟩) 19 2 rfl rfl hK hP hD hS hA hN [19, 12] rfl rfl rfl (fun _ => rfl) (fun _ => rfl) rfl rfl (Nat.le_of_ble_eq_true rfl) dX4_transfer_36 ⟨Nat.zero_le _, Nat.zero_le _⟩ (fun u3 q3 H locs hP hD hS => ?_)
      have j3 : ivX2_becomeP u3 := by rw [q3]; exact ivX2_become x.2.2.2.2.1 x.2.2.2.2.2.1 hI.2.2.2.2.1 hI.2.2.2.2.2.1
      refine lv_iconst (v := 0) hx hb dX4_transfer_39 (by decide) ?_
      exact reti (u := (x.1, x.2.1, x.2.2.1, x.2.2.2.1, u3, x.2.2.2.2.2.1, x.2.2.2.2.2.2.1, x.2.2.2.2.2.2.2)) hx hb hr hlocks hK hP hD hS dX4_transfer_40 (by unfold fnX4_transfer; (try dsimp only); rw [if_neg h1]; rw [if_pos h2]; rw [← q3]; (try dsimp only); (try exact rfl))
    · refine lv_iconst (v := 5) hx hb dX4_transfer_26 (by decide) ?_
      exact reti (u := x) hx hb hr hlocks hK hP hD hS dX4_transfer_27 (by unfold fnX4_transfer; (try dsimp only); rw [if_neg h1]; rw [if_neg h2]; (try exact rfl))
  · refine lv_aload_n hx hb dX4_transfer_4 rfl (lv_at hl 0 rfl) ?_
    refine kFi (As := []) (rest := []) hx hb hml hown hG hl (okX4_advance l D cI cJ cP ad H.size x hI) (cV 0 hG kw92 kw93 kw94 kw95 kw5 hdX4_advance ⟨by decide, by decide⟩) 0 4 rfl rfl hK hP hD hS hA hN rfl rfl (Nat.le_of_ble_eq_true rfl) dX4_transfer_5 ⟨Nat.zero_le _, Nat.zero_le _⟩ (fun r4 u4 q4 H locs hP hD hS => ?_)
    have j4 : ivX4_advanceP (r4, u4) := by rw [q4]; exact ivX4_advance x hI
    exact reti (u := u4) hx hb hr hlocks hK hP hD hS dX4_transfer_8 (by unfold fnX4_transfer; (try dsimp only); rw [if_pos h1]; rw [← q4]; (try dsimp only); (try exact rfl))
def fnX4_callAddress (x : TR)  : Int32 × TR :=
  let p1 := fnX3_lookForDescriptor x.2.2.2.2.2.2.2 x.2.2.2.2.2.1.1 (1 : Int32)
  if p1.2.2.2.1 = (0 : Int32) then
   ((1 : Int32), (x.1, x.2.1, x.2.2.1, x.2.2.2.1, x.2.2.2.2.1, x.2.2.2.2.2.1, x.2.2.2.2.2.2.1, p1))
  else
   if p1.2.2.2.2.2.2.2.2.2.2.2.2.1 = (0 : Int32) then
    ((4 : Int32), (x.1, x.2.1, x.2.2.1, x.2.2.2.1, x.2.2.2.2.1, x.2.2.2.2.2.1, x.2.2.2.2.2.2.1, p1))
   else
    let p4 := fnX1_ringOfCall p1.2.2.2 x.2.2.2.2.2.1.2.1 x.2.2.2.2.2.1.2.2
    if p4 = (-1 : Int32) then
     ((5 : Int32), (x.1, x.2.1, x.2.2.1, x.2.2.2.1, x.2.2.2.2.1, x.2.2.2.2.2.1, x.2.2.2.2.2.2.1, p1))
    else
     let p6 := fnX4_advance (x.1, x.2.1, x.2.2.1, x.2.2.2.1, x.2.2.2.2.1, x.2.2.2.2.2.1, x.2.2.2.2.2.2.1, p1)
     let p7 := fnX2_become p6.2.2.2.2.1.1 p6.2.2.2.2.2.1
     let p8 := fnX2_become p6.2.2.2.2.2.1 p6.2.2.2.2.2.2.1
     ((0 : Int32), (p6.2.1, p6.2.2.1, p6.2.2.2.1, (p7, p6.2.2.2.2.1.2.1, p6.2.2.2.2.1.2.2.1, p6.2.2.2.2.1.2.2.2), (p8.1, p8.2.1, p4), p6.2.2.2.2.2.2.1, p6.2.2.2.2.2.2.2.1, p6.2.2.2.2.2.2.2.2))
abbrev ivX4_callAddressP (z : Int32 × TR) : Prop := i4 z.1 ∧ iR z.2
set_option maxRecDepth 100000 in
set_option maxHeartbeats 4000000 in
theorem ivX4_callAddress (x : TR)  (hI : iR x) : ivX4_callAddressP (fnX4_callAddress x) := by
  unfold fnX4_callAddress
  try dsimp only
  have j1 : ivX3_lookForDescriptorP (fnX3_lookForDescriptor x.2.2.2.2.2.2.2 x.2.2.2.2.2.1.1 (1 : Int32)) := ivX3_lookForDescriptor x.2.2.2.2.2.2.2 x.2.2.2.2.2.1.1 (1 : Int32) hI.2.2.2.2.2.2.2 hI.2.2.2.2.2.1.1
  generalize fnX3_lookForDescriptor x.2.2.2.2.2.2.2 x.2.2.2.2.2.1.1 (1 : Int32) = p1 at j1 ⊢
  refine iteI (fun h2 => ?_) (fun h2 => ?_)
  · exact ⟨(show i4 (1 : Int32) from by decide), ⟨hI.1, hI.2.1, hI.2.2.1, hI.2.2.2.1, hI.2.2.2.2.1, hI.2.2.2.2.2.1, hI.2.2.2.2.2.2.1, j1⟩⟩
  · refine iteI (fun h3 => ?_) (fun h3 => ?_)
    · exact ⟨(show i4 (4 : Int32) from by decide), ⟨hI.1, hI.2.1, hI.2.2.1, hI.2.2.2.1, hI.2.2.2.2.1, hI.2.2.2.2.2.1, hI.2.2.2.2.2.2.1, j1⟩⟩
    · have j4 : ivX1_ringOfCallP (fnX1_ringOfCall p1.2.2.2 x.2.2.2.2.2.1.2.1 x.2.2.2.2.2.1.2.2) := ivX1_ringOfCall p1.2.2.2 x.2.2.2.2.2.1.2.1 x.2.2.2.2.2.1.2.2 j1.2.2.2 hI.2.2.2.2.2.1.2.2
      generalize fnX1_ringOfCall p1.2.2.2 x.2.2.2.2.2.1.2.1 x.2.2.2.2.2.1.2.2 = p4 at j4 ⊢
      refine iteI (fun h5 => ?_) (fun h5 => ?_)
      · exact ⟨(show i4 (5 : Int32) from by decide), ⟨hI.1, hI.2.1, hI.2.2.1, hI.2.2.2.1, hI.2.2.2.2.1, hI.2.2.2.2.2.1, hI.2.2.2.2.2.2.1, j1⟩⟩
      · have j6 : ivX4_advanceP (fnX4_advance (x.1, x.2.1, x.2.2.1, x.2.2.2.1, x.2.2.2.2.1, x.2.2.2.2.2.1, x.2.2.2.2.2.2.1, p1)) := ivX4_advance (x.1, x.2.1, x.2.2.1, x.2.2.2.1, x.2.2.2.2.1, x.2.2.2.2.2.1, x.2.2.2.2.2.2.1, p1) ⟨hI.1, hI.2.1, hI.2.2.1, hI.2.2.2.1, hI.2.2.2.2.1, hI.2.2.2.2.2.1, hI.2.2.2.2.2.2.1, j1⟩
        generalize fnX4_advance (x.1, x.2.1, x.2.2.1, x.2.2.2.1, x.2.2.2.2.1, x.2.2.2.2.2.1, x.2.2.2.2.2.2.1, p1) = p6 at j6 ⊢
        have j7 : ivX2_becomeP (fnX2_become p6.2.2.2.2.1.1 p6.2.2.2.2.2.1) := ivX2_become p6.2.2.2.2.1.1 p6.2.2.2.2.2.1 j6.2.2.2.2.1.1 j6.2.2.2.2.2.1
        generalize fnX2_become p6.2.2.2.2.1.1 p6.2.2.2.2.2.1 = p7 at j7 ⊢
        have j8 : ivX2_becomeP (fnX2_become p6.2.2.2.2.2.1 p6.2.2.2.2.2.2.1) := ivX2_become p6.2.2.2.2.2.1 p6.2.2.2.2.2.2.1 j6.2.2.2.2.2.1 j6.2.2.2.2.2.2.1
        generalize fnX2_become p6.2.2.2.2.2.1 p6.2.2.2.2.2.2.1 = p8 at j8 ⊢
        exact ⟨(show i4 (0 : Int32) from by decide), ⟨j6.2.1, j6.2.2.1, j6.2.2.2.1, ⟨j7, j6.2.2.2.2.1.2.1, j6.2.2.2.2.1.2.2.1, j6.2.2.2.2.1.2.2.2⟩, ⟨j8.1, j8.2.1, (rcI j4 h5)⟩, j6.2.2.2.2.2.2.1, j6.2.2.2.2.2.2.2.1, j6.2.2.2.2.2.2.2.2⟩⟩
set_option maxRecDepth 100000 in
set_option maxHeartbeats 4000000 in
theorem okX4_callAddress (l : Launch) (D : va_G) (cI cJ cP : ClassId) (ad : Nat → Nat) (sz : Nat) (x : TR)  (hI : iR x) : Met l yX4_callAddress (Cond.code yX4_callAddress cX4_callAddress 3 (some .int) :: gG) { frames := 2, cells := 0, slots := 0, locals := 54 } (va_Pc [.ref (ad 0)] (PRE D (tz cI cJ cP) sz (wR cI cJ cP ad x))) (va_Qi (fun (r : Int32) (u : TR) => (r, u) = fnX4_callAddress x) (AT D (tz cI cJ cP) (va_A (wR cI cJ cP ad x) sz) (fun (u : TR) => (wR cI cJ cP ad u))) (va_A (wR cI cJ cP ad x) sz)) 0 0 (va_A (wR cI cJ cP ad x) sz) := by
  refine mo (QA := fun A => va_Qi (fun (r : Int32) (u : TR) => (r, u) = fnX4_callAddress x) (AT D (tz cI cJ cP) A (fun (u : TR) => (wR cI cJ cP ad u))) A) (by decide) (Nat.le_of_ble_eq_true rfl) ?_
  intro p e s m below meth c A ls H hx hb hr hml hown hG hlocks hnm hA hS hP hK hD hl hN
  have hown : s.vm.findClass RX4 = some m.cls := hown
  have hl : lv_has ls 3 [(0, .ref (ad 0))] := hl
  refine lv_aload_n hx hb dX4_callAddress_0 rfl (lv_at hl 0 rfl) ?_
  refine va_get (D := D) (ci := 4) (v := .ref (ad 1)) hx hb hG inX4 hown hK hP 0 rfl rfl 0 (by decide) (hG _ kw104) (fun _ h9 => h9) rfl dX4_callAddress_1 ?_
  refine lv_aload_n hx hb dX4_callAddress_4 rfl (lv_at hl 0 rfl) ?_
  refine va_get (D := D) (ci := 4) (v := .ref (ad 12)) hx hb hG inX4 hown hK hP 0 rfl rfl 6 (by decide) (hG _ kw124) (fun _ h9 => h9) rfl dX4_callAddress_5 ?_
  refine va_get (D := D) (ci := 2) (v := .int (x.2.2.2.2.2.1.1)) hx hb hG inX2 hown hK hP 12 rfl rfl 0 (by decide) (hG _ kw141) (fun _ h9 => h9) rfl dX4_callAddress_8 ?_
  refine lv_iconst (v := 1) hx hb dX4_callAddress_11 (by decide) ?_
  refine kVr (As := [.int (x.2.2.2.2.2.1.1), .int ((1 : Int32))]) (rest := []) (W' := (fun u1 => (wR cI cJ cP ad (x.1, x.2.1, x.2.2.1, x.2.2.2.1, x.2.2.2.2.1, x.2.2.2.2.2.1, x.2.2.2.2.2.2.1, u1)))) hx hb hml hown hG hl (okX3_lookForDescriptor l D cI cJ cP (fun i => ad (i + 1)) H.size x.2.2.2.2.2.2.2 x.2.2.2.2.2.1.1 (1 : Int32) hI.2.2.2.2.2.2.2 hI.2.2.2.2.2.1.1) (cV 2 hG kw59 kw142 kw62 kw63 kw60 hdX3_lookForDescriptor ⟨by decide, by decide⟩) 1 3 rfl rfl hK hP hD hS hA hN [1, 2, 3, 4, 5, 6, 7, 8, 9, 10, 11] rfl rfl rfl (fun _ => rfl) (fun _ => rfl) rfl rfl (Nat.le_of_ble_eq_true rfl) dX4_callAddress_12 ⟨Nat.zero_le _, Nat.zero_le _⟩ (fun u1 q1 H locs hP hD hS => ?_)
  have j1 : ivX3_lookForDescriptorP u1 := by rw [q1]; exact ivX3_lookForDescriptor x.2.2.2.2.2.2.2 x.2.2.2.2.2.1.1 (1 : Int32) hI.2.2.2.2.2.2.2 hI.2.2.2.2.2.1.1
  refine lv_astore_n (lv' := [(1, .ref (ad 11)), (0, .ref (ad 0))]) hx hb dX4_callAddress_15 rfl hl (by decide) rfl (fun ls hl => ?_)
  refine lv_aload_n hx hb dX4_callAddress_16 rfl (lv_at hl 0 rfl) ?_
  refine va_get (D := D) (ci := 1) (v := .int (u1.2.2.2.1)) hx hb hG inX1 hown hK hP 11 rfl rfl 0 (by decide) (hG _ kw143) (fun _ h9 => h9) rfl dX4_callAddress_17 ?_
  refine lv_if_ne (tgt := 25) hx hb dX4_callAddress_20 (by decide) (fun h2 => ?_) (fun h2 => ?_)
  · refine lv_aload_n hx hb dX4_callAddress_25 rfl (lv_at hl 0 rfl) ?_
    refine va_get (D := D) (ci := 1) (v := .int (u1.2.2.2.2.2.2.2.2.2.2.2.2.1)) hx hb hG inX1 hown hK hP 11 rfl rfl 9 (by decide) (hG _ kw144) (fun _ h9 => h9) rfl dX4_callAddress_26 ?_
    refine lv_if_ne (tgt := 34) hx hb dX4_callAddress_29 (by decide) (fun h3 => ?_) (fun h3 => ?_)
    · refine lv_aload_n hx hb dX4_callAddress_34 rfl (lv_at hl 0 rfl) ?_
      refine lv_aload_n hx hb dX4_callAddress_35 rfl (lv_at hl 1 rfl) ?_
      refine va_get (D := D) (ci := 4) (v := .ref (ad 12)) hx hb hG inX4 hown hK hP 0 rfl rfl 6 (by decide) (hG _ kw124) (fun _ h9 => h9) rfl dX4_callAddress_36 ?_
      refine va_get (D := D) (ci := 2) (v := .int (x.2.2.2.2.2.1.2.1)) hx hb hG inX2 hown hK hP 12 rfl rfl 1 (by decide) (hG _ kw88) (fun _ h9 => h9) rfl dX4_callAddress_39 ?_
      refine lv_aload_n hx hb dX4_callAddress_42 rfl (lv_at hl 1 rfl) ?_
      refine va_get (D := D) (ci := 4) (v := .ref (ad 12)) hx hb hG inX4 hown hK hP 0 rfl rfl 6 (by decide) (hG _ kw124) (fun _ h9 => h9) rfl dX4_callAddress_43 ?_
      refine va_get (D := D) (ci := 2) (v := .int (x.2.2.2.2.2.1.2.2)) hx hb hG inX2 hown hK hP 12 rfl rfl 2 (by decide) (hG _ kw119) (fun _ h9 => h9) rfl dX4_callAddress_46 ?_
      refine kVi (As := [.int (x.2.2.2.2.2.1.2.1), .int (x.2.2.2.2.2.1.2.2)]) (rest := []) (W' := (fun _ => (wR cI cJ cP ad (x.1, x.2.1, x.2.2.1, x.2.2.2.1, x.2.2.2.2.1, x.2.2.2.2.2.1, x.2.2.2.2.2.2.1, u1)))) hx hb hml hown hG hl (okX1_ringOfCall l D cI cJ cP (ad 11) H.size u1.2.2.2 x.2.2.2.2.2.1.2.1 x.2.2.2.2.2.1.2.2 j1.2.2.2 hI.2.2.2.2.2.1.2.2) (cV 2 hG kw145 kw146 kw147 kw148 kw43 hdX1_ringOfCall ⟨by decide, by decide⟩) 11 1 rfl rfl hK hP hD hS hA hN [11] rfl rfl rfl (fun _ => rfl) (fun _ => rfl) rfl rfl (Nat.le_of_ble_eq_true rfl) dX4_callAddress_49 ⟨Nat.zero_le _, Nat.zero_le _⟩ (fun r4 _ q4 H locs hP hD hS => ?_)
      have j4 : ivX1_ringOfCallP r4 := by rw [q4]; exact ivX1_ringOfCall u1.2.2.2 x.2.2.2.2.2.1.2.1 x.2.2.2.2.2.1.2.2 j1.2.2.2 hI.2.2.2.2.2.1.2.2
      refine lv_istore_n (lv' := [(2, .int (r4)), (1, .ref (ad 11)), (0, .ref (ad 0))]) hx hb dX4_callAddress_52 rfl hl (by decide) rfl (fun ls hl => ?_)
      refine lv_iload_n hx hb dX4_callAddress_53 rfl (lv_at hl 0 rfl) ?_
      refine lv_iconst (v := (-1)) hx hb dX4_callAddress_54 (by decide) ?_
      refine lv_icmp_ne (tgt := 60) hx hb dX4_callAddress_55 (by decide) (fun h5 => ?_) (fun h5 => ?_)
      · refine lv_aload_n hx hb dX4_callAddress_60 rfl (lv_at hl 2 rfl) ?_
        refine kFi (As := []) (rest := []) hx hb hml hown hG hl (okX4_advance l D cI cJ cP ad H.size (x.1, x.2.1, x.2.2.1, x.2.2.2.1, x.2.2.2.2.1, x.2.2.2.2.2.1, x.2.2.2.2.2.2.1, u1) ⟨hI.1, hI.2.1, hI.2.2.1, hI.2.2.2.1, hI.2.2.2.2.1, hI.2.2.2.2.2.1, hI.2.2.2.2.2.2.1, j1⟩) (cV 0 hG kw92 kw93 kw94 kw95 kw5 hdX4_advance ⟨by decide, by decide⟩) 0 4 rfl rfl hK hP hD hS hA hN rfl rfl (Nat.le_of_ble_eq_true rfl) dX4_callAddress_61 ⟨Nat.zero_le _, Nat.zero_le _⟩ (fun r6 u6 q6 H locs hP hD hS => ?_)
        have j6 : ivX4_advanceP (r6, u6) := by rw [q6]; exact ivX4_advance (x.1, x.2.1, x.2.2.1, x.2.2.2.1, x.2.2.2.2.1, x.2.2.2.2.2.1, x.2.2.2.2.2.2.1, u1) ⟨hI.1, hI.2.1, hI.2.2.1, hI.2.2.2.1, hI.2.2.2.2.1, hI.2.2.2.2.2.1, hI.2.2.2.2.2.2.1, j1⟩
        refine lv_pop hx hb dX4_callAddress_64 rfl ?_
        refine lv_aload_n hx hb dX4_callAddress_65 rfl (lv_at hl 2 rfl) ?_
        refine va_get (D := D) (ci := 4) (v := .ref (ad 14)) hx hb hG inX4 hown hK hP 0 rfl rfl 4 (by decide) (hG _ kw149) (fun _ h9 => h9) rfl dX4_callAddress_66 ?_
        refine lv_iconst (v := 0) hx hb dX4_callAddress_69 (by decide) ?_
        refine gq (D := D) (j := 0) (x := ad 15) hx hb hK hP 14 2 rfl rfl (inL (by decide)) (by decide) rfl dX4_callAddress_70 ?_
        refine lv_aload_n hx hb dX4_callAddress_71 rfl (lv_at hl 2 rfl) ?_
        refine va_get (D := D) (ci := 4) (v := .ref (ad 19)) hx hb hG inX4 hown hK hP 0 rfl rfl 5 (by decide) (hG _ kw87) (fun _ h9 => h9) rfl dX4_callAddress_72 ?_
        refine kVv (As := [.ref (ad 19)]) (rest := []) (W' := (fun u7 => (wR cI cJ cP ad (u6.1, u6.2.1, u6.2.2.1, (u7, u6.2.2.2.1.2.1, u6.2.2.2.1.2.2.1, u6.2.2.2.1.2.2.2), u6.2.2.2.2.1, u6.2.2.2.2.2.1, u6.2.2.2.2.2.2.1, u6.2.2.2.2.2.2.2)))) hx hb hml hown hG hl (okX2_become l D cI cJ cP (ad 15) (ad 19) H.size u6.2.2.2.1.1 u6.2.2.2.2.1 j6.2.2.2.2.1.1 j6.2.2.2.2.2.1) (cV 1 hG kw98 kw100 kw101 kw102 kw99 hdX2_become ⟨by decide, by decide⟩) 15 2 rfl rfl hK hP hD hS hA hN [15, 19] rfl rfl rfl (fun _ => rfl) (fun _ => rfl) rfl rfl (Nat.le_of_ble_eq_true rfl) dX4_callAddress_75 ⟨Nat.zero_le _, Nat.zero_le _⟩ (fun u7 q7 H locs hP hD hS => ?_)
        have j7 : ivX2_becomeP u7 := by rw [q7]; exact ivX2_become u6.2.2.2.1.1 u6.2.2.2.2.1 j6.2.2.2.2.1.1 j6.2.2.2.2.2.1
        refine lv_aload_n hx hb dX4_callAddress_78 rfl (lv_at hl 2 rfl) ?_
        refine va_get (D := D) (ci := 4) (v := .ref (ad 19)) hx hb hG inX4 hown hK hP 0 rfl rfl 5 (by decide) (hG _ kw87) (fun _ h9 => h9) rfl dX4_callAddress_79 ?_
        refine lv_aload_n hx hb dX4_callAddress_82 rfl (lv_at hl 2 rfl) ?_
        refine va_get (D := D) (ci := 4) (v := .ref (ad 12)) hx hb hG inX4 hown hK hP 0 rfl rfl 6 (by decide) (hG _ kw124) (fun _ h9 => h9) rfl dX4_callAddress_83 ?_
        refine kVv (As := [.ref (ad 12)]) (rest := []) (W' := (fun u8 => (wR cI cJ cP ad (u6.1, u6.2.1, u6.2.2.1, (u7, u6.2.2.2.1.2.1, u6.2.2.2.1.2.2.1, u6.2.2.2.1.2.2.2), u8, u6.2.2.2.2.2.1, u6.2.2.2.2.2.2.1, u6.2.2.2.2.2.2.2)))) hx hb hml hown hG hl (okX2_become l D cI cJ cP (ad 19) (ad 12) H.size u6.2.2.2.2.1 u6.2.2.2.2.2.1 j6.2.2.2.2.2.1 j6.2.2.2.2.2.2.1) (cV 1 hG kw98 kw100 kw101 kw102 kw99 hdX2_become ⟨by decide, by decide⟩) 19 2 rfl rfl hK hP hD hS hA hN [19, 12] rfl rfl rfl (fun _ => rfl) (fun _ => rfl) rfl rfl (Nat.le_of_ble_eq_true rfl) dX4_callAddress_86 ⟨Nat.zero_le _, Nat.zero_le _⟩ (fun u8 q8 H locs hP hD hS => ?_)
        have j8 : ivX2_becomeP u8 := by rw [q8]; exact ivX2_become u6.2.2.2.2.1 u6.2.2.2.2.2.1 j6.2.2.2.2.2.1 j6.2.2.2.2.2.2.1
        refine lv_aload_n hx hb dX4_callAddress_89 rfl (lv_at hl 2 rfl) ?_
        refine va_get (D := D) (ci := 4) (v := .ref (ad 19)) hx hb hG inX4 hown hK hP 0 rfl rfl 5 (by decide) (hG _ kw87) (fun _ h9 => h9) rfl dX4_callAddress_90 ?_
        refine lv_iload_n hx hb dX4_callAddress_93 rfl (lv_at hl 0 rfl) ?_
        refine pu (D := D) (ci := 2) (v := .int (r4)) (ty := .int) (W' := (wR cI cJ cP ad (u6.1, u6.2.1, u6.2.2.1, (u7, u6.2.2.2.1.2.1, u6.2.2.2.1.2.2.1, u6.2.2.2.1.2.2.2), (u8.1, u8.2.1, r4), u6.2.2.2.2.2.1, u6.2.2.2.2.2.2.1, u6.2.2.2.2.2.2.2))) hx hb hG inX2 tyX2 tyokX2 nmX2 hown hK hP hD hS 19 rfl rfl 2 (by decide) (hG _ kw119) (fun _ h9 => h9) rfl (by decide +kernel) rfl rfl (Nat.le_of_ble_eq_true rfl) dX4_callAddress_94 rfl (fun H locs hP hD hS => ?_)
        refine lv_iconst (v := 0) hx hb dX4_callAddress_97 (by decide) ?_
        exact reti (u := (u6.1, u6.2.1, u6.2.2.1, (u7, u6.2.2.2.1.2.1, u6.2.2.2.1.2.2.1, u6.2.2.2.1.2.2.2), (u8.1, u8.2.1, r4), u6.2.2.2.2.2.1, u6.2.2.2.2.2.2.1, u6.2.2.2.2.2.2.2)) hx hb hr hlocks hK hP hD hS dX4_callAddress_98 (by unfold fnX4_callAddress; rw [← q1]; (try dsimp only); rw [if_neg h2]; rw [if_neg h3]; rw [← q4]; (try dsimp only); rw [if_neg h5]; rw [← q6]; (try dsimp only); rw [← q7]; (try dsimp only); rw [← q8]; (try dsimp only); (try exact rfl))
      · refine lv_iconst (v := 5) hx hb dX4_callAddress_58 (by decide) ?_
        exact reti (u := (x.1, x.2.1, x.2.2.1, x.2.2.2.1, x.2.2.2.2.1, x.2.2.2.2.2.1, x.2.2.2.2.2.2.1, u1)) hx hb hr hlocks hK hP hD hS dX4_callAddress_59 (by unfold fnX4_callAddress; rw [← q1]; (try dsimp only); rw [if_neg h2]; rw [if_neg h3]; rw [← q4]; (try dsimp only); rw [if_pos h5]; (try exact rfl))
    · refine lv_iconst (v := 4) hx hb dX4_callAddress_32 (by decide) ?_
      exact reti (u := (x.1, x.2.1, x.2.2.1, x.2.2.2.1, x.2.2.2.2.1, x.2.2.2.2.2.1, x.2.2.2.2.2.2.1, u1)) hx hb hr hlocks hK hP hD hS dX4_callAddress_33 (by unfold fnX4_callAddress; rw [← q1]; (try dsimp only); rw [if_neg h2]; rw [if_pos h3]; (try exact rfl))
  · refine lv_iconst (v := 1) hx hb dX4_callAddress_23 (by decide) ?_
    exact reti (u := (x.1, x.2.1, x.2.2.1, x.2.2.2.1, x.2.2.2.2.1, x.2.2.2.2.2.1, x.2.2.2.2.2.2.1, u1)) hx hb hr hlocks hK hP hD hS dX4_callAddress_24 (by unfold fnX4_callAddress; rw [← q1]; (try dsimp only); rw [if_pos h2]; (try exact rfl))
def fnX4_returnByWord (x : TR)  : Int32 × TR :=
  let p1 := fnX3_read x.2.2.2.2.2.2.2 x.2.2.2.2.2.1 (0 : Int32)
  if (0 : Int64) ≤ p1.1 then
   let p3 := fnX4_field p1.1 (33 : Int32) (3 : Int32)
   if p3 = (1 : Int32) then
    let p5 := fnX2_takeFrom x.2.2.2.2.1 p1.1
    ((0 : Int32), (x.1, x.2.1, x.2.2.1, x.2.2.2.1, (p5.1, p5.2.1, (if (if x.2.2.2.2.1.2.2 < x.2.2.2.2.2.1.2.2 then x.2.2.2.2.2.1.2.2 else x.2.2.2.2.1.2.2) < p5.2.2 then p5.2.2 else (if x.2.2.2.2.1.2.2 < x.2.2.2.2.2.1.2.2 then x.2.2.2.2.2.1.2.2 else x.2.2.2.2.1.2.2))), x.2.2.2.2.2.1, x.2.2.2.2.2.2.1, p1.2))
   else
    ((6 : Int32), (x.1, x.2.1, x.2.2.1, x.2.2.2.1, x.2.2.2.2.1, x.2.2.2.2.2.1, x.2.2.2.2.2.2.1, p1.2))
  else
   let p6 := fnX4_faultOf p1.1
   (p6, (x.1, x.2.1, x.2.2.1, x.2.2.2.1, x.2.2.2.2.1, x.2.2.2.2.2.1, x.2.2.2.2.2.2.1, p1.2))
abbrev ivX4_returnByWordP (z : Int32 × TR) : Prop := i4 z.1 ∧ iR z.2
set_option maxRecDepth 100000 in
set_option maxHeartbeats 4000000 in
theorem ivX4_returnByWord (x : TR)  (hI : iR x) : ivX4_returnByWordP (fnX4_returnByWord x) := by
  unfold fnX4_returnByWord
  try dsimp only
  have j1 : ivX3_readP (fnX3_read x.2.2.2.2.2.2.2 x.2.2.2.2.2.1 (0 : Int32)) := ivX3_read x.2.2.2.2.2.2.2 x.2.2.2.2.2.1 (0 : Int32) hI.2.2.2.2.2.2.2 hI.2.2.2.2.2.1
  generalize fnX3_read x.2.2.2.2.2.2.2 x.2.2.2.2.2.1 (0 : Int32) = p1 at j1 ⊢
  refine iteI (fun h2 => ?_) (fun h2 => ?_)
  · have j3 : i3 (fnX4_field p1.1 (33 : Int32) (3 : Int32)) := (f3X p1.1 (33 : Int32))
    generalize fnX4_field p1.1 (33 : Int32) (3 : Int32) = p3 at j3 ⊢
    refine iteI (fun h4 => ?_) (fun h4 => ?_)
    · have j5 : ivX2_takeFromP (fnX2_takeFrom x.2.2.2.2.1 p1.1) := ivX2_takeFrom x.2.2.2.2.1 p1.1 hI.2.2.2.2.1
      generalize fnX2_takeFrom x.2.2.2.2.1 p1.1 = p5 at j5 ⊢
      exact ⟨(show i4 (0 : Int32) from by decide), ⟨hI.1, hI.2.1, hI.2.2.1, hI.2.2.2.1, ⟨j5.1, j5.2.1, (mx3 (mx3 hI.2.2.2.2.1.2.2 hI.2.2.2.2.2.1.2.2) j5.2.2)⟩, hI.2.2.2.2.2.1, hI.2.2.2.2.2.2.1, j1.2⟩⟩
    · exact ⟨(show i4 (6 : Int32) from by decide), ⟨hI.1, hI.2.1, hI.2.2.1, hI.2.2.2.1, hI.2.2.2.2.1, hI.2.2.2.2.2.1, hI.2.2.2.2.2.2.1, j1.2⟩⟩
  · have j6 : i4 (fnX4_faultOf p1.1) := (fltI j1.1 (Int64.not_le.mp h2))
    generalize fnX4_faultOf p1.1 = p6 at j6 ⊢
    exact ⟨j6, ⟨hI.1, hI.2.1, hI.2.2.1, hI.2.2.2.1, hI.2.2.2.2.1, hI.2.2.2.2.2.1, hI.2.2.2.2.2.2.1, j1.2⟩⟩
set_option maxRecDepth 100000 in
set_option maxHeartbeats 4000000 in
theorem okX4_returnByWord (l : Launch) (D : va_G) (cI cJ cP : ClassId) (ad : Nat → Nat) (sz : Nat) (x : TR)  (hI : iR x) : Met l yX4_returnByWord (Cond.code yX4_returnByWord cX4_returnByWord 4 (some .int) :: gG) { frames := 4, cells := 0, slots := 0, locals := 105 } (va_Pc [.ref (ad 0)] (PRE D (tz cI cJ cP) sz (wR cI cJ cP ad x))) (va_Qi (fun (r : Int32) (u : TR) => (r, u) = fnX4_returnByWord x) (AT D (tz cI cJ cP) (va_A (wR cI cJ cP ad x) sz) (fun (u : TR) => (wR cI cJ cP ad u))) (va_A (wR cI cJ cP ad x) sz)) 0 0 (va_A (wR cI cJ cP ad x) sz) := by
  refine mo (QA := fun A => va_Qi (fun (r : Int32) (u : TR) => (r, u) = fnX4_returnByWord x) (AT D (tz cI cJ cP) A (fun (u : TR) => (wR cI cJ cP ad u))) A) (by decide) (Nat.le_of_ble_eq_true rfl) ?_
  intro p e s m below meth c A ls H hx hb hr hml hown hG hlocks hnm hA hS hP hK hD hl hN
  have hown : s.vm.findClass RX4 = some m.cls := hown
  have hl : lv_has ls 4 [(0, .ref (ad 0))] := hl
  refine lv_aload_n hx hb dX4_returnByWord_0 rfl (lv_at hl 0 rfl) ?_
  refine va_get (D := D) (ci := 4) (v := .ref (ad 1)) hx hb hG inX4 hown hK hP 0 rfl rfl 0 (by decide) (hG _ kw104) (fun _ h9 => h9) rfl dX4_returnByWord_1 ?_
  refine lv_aload_n hx hb dX4_returnByWord_4 rfl (lv_at hl 0 rfl) ?_
  refine va_get (D := D) (ci := 4) (v := .ref (ad 12)) hx hb hG inX4 hown hK hP 0 rfl rfl 6 (by decide) (hG _ kw124) (fun _ h9 => h9) rfl dX4_returnByWord_5 ?_
  refine lv_iconst (v := 0) hx hb dX4_returnByWord_8 (by decide) ?_
  refine kVl (As := [.ref (ad 12), .int ((0 : Int32))]) (rest := []) (W' := (fun u1 => (wR cI cJ cP ad (x.1, x.2.1, x.2.2.1, x.2.2.2.1, x.2.2.2.2.1, x.2.2.2.2.2.1, x.2.2.2.2.2.2.1, u1)))) hx hb hml hown hG hl (okX3_read l D cI cJ cP (fun i => ad (i + 1)) H.size x.2.2.2.2.2.2.2 x.2.2.2.2.2.1 (0 : Int32) hI.2.2.2.2.2.2.2 hI.2.2.2.2.2.1) (cV 2 hG kw125 kw126 kw127 kw128 kw60 hdX3_read ⟨by decide, by decide⟩) 1 3 rfl rfl hK hP hD hS hA hN [1, 2, 3, 4, 5, 6, 7, 8, 9, 10, 11, 12] rfl rfl rfl (fun _ => rfl) (fun _ => rfl) rfl rfl (Nat.le_of_ble_eq_true rfl) dX4_returnByWord_9 ⟨Nat.zero_le _, Nat.zero_le _⟩ (fun r1 u1 q1 H locs hP hD hS => ?_)
  have j1 : ivX3_readP (r1, u1) := by rw [q1]; exact ivX3_read x.2.2.2.2.2.2.2 x.2.2.2.2.2.1 (0 : Int32) hI.2.2.2.2.2.2.2 hI.2.2.2.2.2.1
  refine lv_lstore_n (lv' := [(1, .long (r1)), (0, .ref (ad 0))]) hx hb dX4_returnByWord_12 rfl hl (by decide) rfl (fun ls hl => ?_)
  refine lv_lload_n hx hb dX4_returnByWord_13 rfl (lv_at hl 0 rfl) ?_
  refine lv_lconst (v := 0) hx hb dX4_returnByWord_14 (by decide) ?_
  refine lq_ge (tgt := 24) hx hb dX4_returnByWord_15 dX4_returnByWord_16 (by decide) (fun h2 => ?_) (fun h2 => ?_)
  · refine lv_lload_n hx hb dX4_returnByWord_24 rfl (lv_at hl 0 rfl) ?_
    refine lv_bipush (v := 33) hx hb dX4_returnByWord_25 (by decide) ?_
    refine lv_iconst (v := 3) hx hb dX4_returnByWord_27 (by decide) ?_
    refine k0Si (As := [.long (r1), .int ((33 : Int32)), .int ((3 : Int32))]) (rest := []) hx hb hml hown hG hl (okX4_field l D cI cJ cP  H.size r1 (33 : Int32) (3 : Int32) ) (cS 3 hG kw4 kw135 kw6 kw5 hdX4_field ⟨by decide, by decide⟩) hK hP hD hS hA hN rfl rfl (Nat.le_of_ble_eq_true rfl) dX4_returnByWord_28 ⟨Nat.zero_le _, Nat.zero_le _⟩ (fun r3 q3 H locs hP hD hS => ?_)
    have j3 : i3 r3 := by rw [q3]; exact (f3X r1 (33 : Int32))
    refine lv_iconst (v := 1) hx hb dX4_returnByWord_31 (by decide) ?_
    refine lv_icmp_eq (tgt := 38) hx hb dX4_returnByWord_32 (by decide) (fun h4 => ?_) (fun h4 => ?_)
    · refine lv_aload_n hx hb dX4_returnByWord_38 rfl (lv_at hl 1 rfl) ?_
      refine va_get (D := D) (ci := 4) (v := .ref (ad 19)) hx hb hG inX4 hown hK hP 0 rfl rfl 5 (by decide) (hG _ kw87) (fun _ h9 => h9) rfl dX4_returnByWord_39 ?_
      refine va_get (D := D) (ci := 2) (v := .int (x.2.2.2.2.1.2.2)) hx hb hG inX2 hown hK hP 19 rfl rfl 2 (by decide) (hG _ kw119) (fun _ h9 => h9) rfl dX4_returnByWord_42 ?_
      refine lv_aload_n hx hb dX4_returnByWord_45 rfl (lv_at hl 1 rfl) ?_
      refine va_get (D := D) (ci := 4) (v := .ref (ad 12)) hx hb hG inX4 hown hK hP 0 rfl rfl 6 (by decide) (hG _ kw124) (fun _ h9 => h9) rfl dX4_returnByWord_46 ?_
      refine va_get (D := D) (ci := 2) (v := .int (x.2.2.2.2.2.1.2.2)) hx hb hG inX2 hown hK hP 12 rfl rfl 2 (by decide) (hG _ kw119) (fun _ h9 => h9) rfl dX4_returnByWord_49 ?_
      refine va_mmax hx hb (hml.trans hl.1.symm) hown (hG _ kw150) (hG _ kw151) (hG _ kw152) (hG _ kw153) (by decide) (Nat.le_of_ble_eq_true rfl) (Nat.zero_le _) (Nat.zero_le _) dX4_returnByWord_52 ?_
      refine lv_istore_n (lv' := [(3, .int ((if x.2.2.2.2.1.2.2 < x.2.2.2.2.2.1.2.2 then x.2.2.2.2.2.1.2.2 else x.2.2.2.2.1.2.2))), (1, .long (r1)), (0, .ref (ad 0))]) hx hb dX4_returnByWord_55 rfl hl (by decide) rfl (fun ls hl => ?_)
      refine lv_aload_n hx hb dX4_returnByWord_56 rfl (lv_at hl 2 rfl) ?_
      refine va_get (D := D) (ci := 4) (v := .ref (ad 19)) hx hb hG inX4 hown hK hP 0 rfl rfl 5 (by decide) (hG _ kw87) (fun _ h9 => h9) rfl dX4_returnByWord_57 ?_
      refine lv_lload_n hx hb dX4_returnByWord_60 rfl (lv_at hl 1 rfl) ?_
      refine kVv (As := [.long (r1)]) (rest := []) (W' := (fun u5 => (wR cI cJ cP ad (x.1, x.2.1, x.2.2.1, x.2.2.2.1, u5, x.2.2.2.2.2.1, x.2.2.2.2.2.2.1, u1)))) hx hb hml hown hG hl (okX2_takeFrom l D cI cJ cP (ad 19) H.size x.2.2.2.2.1 r1 hI.2.2.2.2.1) (cV 1 hG kw154 kw155 kw156 kw157 kw99 hdX2_takeFrom ⟨by decide, by decide⟩) 19 2 rfl rfl hK hP hD hS hA hN [19] rfl rfl rfl (fun _ => rfl) (fun _ => rfl) rfl rfl (Nat.le_of_ble_eq_true rfl) dX4_returnByWord_61 ⟨Nat.zero_le _, Nat.zero_le _⟩ (fun u5 q5 H locs hP hD hS => ?_)
      have j5 : ivX2_takeFromP u5 := by rw [q5]; exact ivX2_takeFrom x.2.2.2.2.1 r1 hI.2.2.2.2.1
      refine lv_aload_n hx hb dX4_returnByWord_64 rfl (lv_at hl 2 rfl) ?_
      refine va_get (D := D) (ci := 4) (v := .ref (ad 19)) hx hb hG inX4 hown hK hP 0 rfl rfl 5 (by decide) (hG _ kw87) (fun _ h9 => h9) rfl dX4_returnByWord_65 ?_
      refine lv_iload_n hx hb dX4_returnByWord_68 rfl (lv_at hl 0 rfl) ?_
      refine lv_aload_n hx hb dX4_returnByWord_69 rfl (lv_at hl 2 rfl) ?_
      refine va_get (D := D) (ci := 4) (v := .ref (ad 19)) hx hb hG inX4 hown hK hP 0 rfl rfl 5 (by decide) (hG _ kw87) (fun _ h9 => h9) rfl dX4_returnByWord_70 ?_
      refine va_get (D := D) (ci := 2) (v := .int (u5.2.2)) hx hb hG inX2 hown hK hP 19 rfl rfl 2 (by decide) (hG _ kw119) (fun _ h9 => h9) rfl dX4_returnByWord_73 ?_
      refine va_mmax hx hb (hml.trans hl.1.symm) hown (hG _ kw150) (hG _ kw151) (hG _ kw152) (hG _ kw153) (by decide) (Nat.le_of_ble_eq_true rfl) (Nat.zero_le _) (Nat.zero_le _) dX4_returnByWord_76 ?_
      refine pu (D := D) (ci := 2) (v := .int ((if (if x.2.2.2.2.1.2.2 < x.2.2.2.2.2.1.2.2 then x.2.2.2.2.2.1.2.2 else x.2.2.2.2.1.2.2) < u5.2.2 then u5.2.2 else (if x.2.2.2.2.1.2.2 < x.2.2.2.2.2.1.2.2 then x.2.2.2.2.2.1.2.2 else x.2.2.2.2.1.2.2)))) (ty := .int) (W' := (wR cI cJ cP ad (x.1, x.2.1, x.2.2.1, x.2.2.2.1, (u5.1, u5.2.1, (if (if x.2.2.2.2.1.2.2 < x.2.2.2.2.2.1.2.2 then x.2.2.2.2.2.1.2.2 else x.2.2.2.2.1.2.2) < u5.2.2 then u5.2.2 else (if x.2.2.2.2.1.2.2 < x.2.2.2.2.2.1.2.2 then x.2.2.2.2.2.1.2.2 else x.2.2.2.2.1.2.2))), x.2.2.2.2.2.1, x.2.2.2.2.2.2.1, u1))) hx hb hG inX2 tyX2 tyokX2 nmX2 hown hK hP hD hS 19 rfl rfl 2 (by decide) (hG _ kw119) (fun _ h9 => h9) rfl (by decide +kernel) rfl rfl (Nat.le_of_ble_eq_true rfl) dX4_returnByWord_79 rfl (fun H locs hP hD hS => ?_)
      refine lv_iconst (v := 0) hx hb dX4_returnByWord_82 (by decide) ?_
      exact reti (u := (x.1, x.2.1, x.2.2.1, x.2.2.2.1, (u5.1, u5.2.1, (if (if x.2.2.2.2.1.2.2 < x.2.2.2.2.2.1.2.2 then x.2.2.2.2.2.1.2.2 else x.2.2.2.2.1.2.2) < u5.2.2 then u5.2.2 else (if x.2.2.2.2.1.2.2 < x.2.2.2.2.2.1.2.2 then x.2.2.2.2.2.1.2.2 else x.2.2.2.2.1.2.2))), x.2.2.2.2.2.1, x.2.2.2.2.2.2.1, u1)) hx hb hr hlocks hK hP hD hS dX4_returnByWord_83 (by unfold fnX4_returnByWord; rw [← q1]; (try dsimp only); rw [if_pos h2]; rw [← q3]; (try dsimp only); rw [if_pos h4]; rw [← q5]; (try dsimp only); (try exact rfl))
    · refine lv_bipush (v := 6) hx hb dX4_returnByWord_35 (by decide) ?_
      exact reti (u := (x.1, x.2.1, x.2.2.1, x.2.2.2.1, x.2.2.2.2.1, x.2.2.2.2.2.1, x.2.2.2.2.2.2.1, u1)) hx hb hr hlocks hK hP hD hS dX4_returnByWord_37 (by unfold fnX4_returnByWord; rw [← q1]; (try dsimp only); rw [if_pos h2]; rw [← q3]; (try dsimp only); rw [if_neg h4]; (try exact rfl))
  · refine lv_lload_n hx hb dX4_returnByWord_19 rfl (lv_at hl 0 rfl) ?_
    refine k0Si (As := [.long (r1)]) (rest := []) hx hb hml hown hG hl (okX4_faultOf l D cI cJ cP  H.size r1 ) (cS 1 hG kw85 kw136 kw86 kw5 hdX4_faultOf ⟨by decide, by decide⟩) hK hP hD hS hA hN rfl rfl (Nat.le_of_ble_eq_true rfl) dX4_returnByWord_20 ⟨Nat.zero_le _, Nat.zero_le _⟩ (fun r6 q6 H locs hP hD hS => ?_)
    have j6 : i4 r6 := by rw [q6]; exact (fltI j1.1 (Int64.not_le.mp h2))
    exact reti (u := (x.1, x.2.1, x.2.2.1, x.2.2.2.1, x.2.2.2.2.1, x.2.2.2.2.2.1, x.2.2.2.2.2.2.1, u1)) hx hb hr hlocks hK hP hD hS dX4_returnByWord_23 (by unfold fnX4_returnByWord; rw [← q1]; (try dsimp only); rw [if_neg h2]; rw [← q6]; (try dsimp only); (try exact rfl))
end
section
theorem dX4_followWord_0 : decode cX4_followWord 0 = .ok (.aload_n 0, 1) := by decide +kernel
theorem dX4_followWord_1 : decode cX4_followWord 1 = .ok (.getfield 31, 3) := by decide +kernel
theorem dX4_followWord_4 : decode cX4_followWord 4 = .ok (.getfield 129, 3) := by decide +kernel
theorem dX4_followWord_7 : decode cX4_followWord 7 = .ok (.istore_n 3, 1) := by decide +kernel
theorem dX4_followWord_8 : decode cX4_followWord 8 = .ok (.lload_n 1, 1) := by decide +kernel
theorem dX4_followWord_9 : decode cX4_followWord 9 = .ok (.bipush 33, 2) := by decide +kernel
theorem dX4_followWord_11 : decode cX4_followWord 11 = .ok (.iconst 3, 1) := by decide +kernel
theorem dX4_followWord_12 : decode cX4_followWord 12 = .ok (.invokestatic 53, 3) := by decide +kernel
theorem dX4_followWord_15 : decode cX4_followWord 15 = .ok (.tableswitch 98 0 2 #[25, 41, 52], 25) := by decide +kernel
theorem dX4_followWord_40 : decode cX4_followWord 40 = .ok (.aload_n 0, 1) := by decide +kernel
theorem dX4_followWord_41 : decode cX4_followWord 41 = .ok (.getfield 31, 3) := by decide +kernel
theorem dX4_followWord_44 : decode cX4_followWord 44 = .ok (.lload_n 1, 1) := by decide +kernel
theorem dX4_followWord_45 : decode cX4_followWord 45 = .ok (.iconst 0, 1) := by decide +kernel
theorem dX4_followWord_46 : decode cX4_followWord 46 = .ok (.bipush 12, 2) := by decide +kernel
theorem dX4_followWord_48 : decode cX4_followWord 48 = .ok (.invokestatic 53, 3) := by decide +kernel
theorem dX4_followWord_51 : decode cX4_followWord 51 = .ok (.putfield 122, 3) := by decide +kernel
theorem dX4_followWord_54 : decode cX4_followWord 54 = .ok (.iconst 1, 1) := by decide +kernel
theorem dX4_followWord_55 : decode cX4_followWord 55 = .ok (.ireturn, 1) := by decide +kernel
theorem dX4_followWord_56 : decode cX4_followWord 56 = .ok (.aload_n 0, 1) := by decide +kernel
theorem dX4_followWord_57 : decode cX4_followWord 57 = .ok (.getfield 31, 3) := by decide +kernel
theorem dX4_followWord_60 : decode cX4_followWord 60 = .ok (.lload_n 1, 1) := by decide +kernel
theorem dX4_followWord_61 : decode cX4_followWord 61 = .ok (.invokevirtual 57, 3) := by decide +kernel
theorem dX4_followWord_64 : decode cX4_followWord 64 = .ok (.goto 51, 3) := by decide +kernel
theorem dX4_followWord_67 : decode cX4_followWord 67 = .ok (.aload_n 0, 1) := by decide +kernel
theorem dX4_followWord_68 : decode cX4_followWord 68 = .ok (.getfield 31, 3) := by decide +kernel
theorem dX4_followWord_71 : decode cX4_followWord 71 = .ok (.aload_n 0, 1) := by decide +kernel
theorem dX4_followWord_72 : decode cX4_followWord 72 = .ok (.getfield 23, 3) := by decide +kernel
theorem dX4_followWord_75 : decode cX4_followWord 75 = .ok (.lload_n 1, 1) := by decide +kernel
theorem dX4_followWord_76 : decode cX4_followWord 76 = .ok (.bipush 18, 2) := by decide +kernel
theorem dX4_followWord_78 : decode cX4_followWord 78 = .ok (.iconst 2, 1) := by decide +kernel
theorem dX4_followWord_79 : decode cX4_followWord 79 = .ok (.invokestatic 53, 3) := by decide +kernel
theorem dX4_followWord_82 : decode cX4_followWord 82 = .ok (.aaload, 1) := by decide +kernel
theorem dX4_followWord_83 : decode cX4_followWord 83 = .ok (.invokevirtual 125, 3) := by decide +kernel
theorem dX4_followWord_86 : decode cX4_followWord 86 = .ok (.aload_n 0, 1) := by decide +kernel
theorem dX4_followWord_87 : decode cX4_followWord 87 = .ok (.getfield 31, 3) := by decide +kernel
theorem dX4_followWord_90 : decode cX4_followWord 90 = .ok (.aload_n 0, 1) := by decide +kernel
theorem dX4_followWord_91 : decode cX4_followWord 91 = .ok (.getfield 31, 3) := by decide +kernel
theorem dX4_followWord_94 : decode cX4_followWord 94 = .ok (.getfield 122, 3) := by decide +kernel
theorem dX4_followWord_97 : decode cX4_followWord 97 = .ok (.lload_n 1, 1) := by decide +kernel
theorem dX4_followWord_98 : decode cX4_followWord 98 = .ok (.iconst 0, 1) := by decide +kernel
theorem dX4_followWord_99 : decode cX4_followWord 99 = .ok (.bipush 12, 2) := by decide +kernel
theorem dX4_followWord_101 : decode cX4_followWord 101 = .ok (.invokestatic 53, 3) := by decide +kernel
theorem dX4_followWord_104 : decode cX4_followWord 104 = .ok (.invokestatic 156, 3) := by decide +kernel
theorem dX4_followWord_107 : decode cX4_followWord 107 = .ok (.putfield 122, 3) := by decide +kernel
theorem dX4_followWord_110 : decode cX4_followWord 110 = .ok (.goto 5, 3) := by decide +kernel
theorem dX4_followWord_113 : decode cX4_followWord 113 = .ok (.iconst 0, 1) := by decide +kernel
theorem dX4_followWord_114 : decode cX4_followWord 114 = .ok (.ireturn, 1) := by decide +kernel
theorem dX4_followWord_115 : decode cX4_followWord 115 = .ok (.aload_n 0, 1) := by decide +kernel
theorem dX4_followWord_116 : decode cX4_followWord 116 = .ok (.getfield 31, 3) := by decide +kernel
theorem dX4_followWord_119 : decode cX4_followWord 119 = .ok (.iload_n 3, 1) := by decide +kernel
theorem dX4_followWord_120 : decode cX4_followWord 120 = .ok (.aload_n 0, 1) := by decide +kernel
theorem dX4_followWord_121 : decode cX4_followWord 121 = .ok (.getfield 31, 3) := by decide +kernel
theorem dX4_followWord_124 : decode cX4_followWord 124 = .ok (.getfield 129, 3) := by decide +kernel
theorem dX4_followWord_127 : decode cX4_followWord 127 = .ok (.invokestatic 160, 3) := by decide +kernel
theorem dX4_followWord_130 : decode cX4_followWord 130 = .ok (.putfield 129, 3) := by decide +kernel
theorem dX4_followWord_133 : decode cX4_followWord 133 = .ok (.iconst 1, 1) := by decide +kernel
theorem dX4_followWord_134 : decode cX4_followWord 134 = .ok (.ireturn, 1) := by decide +kernel
theorem dX4_startAddress_0 : decode cX4_startAddress 0 = .ok (.lload_n 1, 1) := by decide +kernel
theorem dX4_startAddress_1 : decode cX4_startAddress 1 = .ok (.iconst 0, 1) := by decide +kernel
theorem dX4_startAddress_2 : decode cX4_startAddress 2 = .ok (.bipush 12, 2) := by decide +kernel
theorem dX4_startAddress_4 : decode cX4_startAddress 4 = .ok (.invokestatic 53, 3) := by decide +kernel
theorem dX4_startAddress_7 : decode cX4_startAddress 7 = .ok (.istore_n 3, 1) := by decide +kernel
theorem dX4_startAddress_8 : decode cX4_startAddress 8 = .ok (.lload_n 1, 1) := by decide +kernel
theorem dX4_startAddress_9 : decode cX4_startAddress 9 = .ok (.ldc2_w 154, 3) := by decide +kernel
theorem dX4_startAddress_12 : decode cX4_startAddress 12 = .ok (.land, 1) := by decide +kernel
theorem dX4_startAddress_13 : decode cX4_startAddress 13 = .ok (.lconst 0, 1) := by decide +kernel
theorem dX4_startAddress_14 : decode cX4_startAddress 14 = .ok (.lcmp, 1) := by decide +kernel
theorem dX4_startAddress_15 : decode cX4_startAddress 15 = .ok (.ifCond .eq 70, 3) := by decide +kernel
theorem dX4_startAddress_18 : decode cX4_startAddress 18 = .ok (.aload_n 0, 1) := by decide +kernel
theorem dX4_startAddress_19 : decode cX4_startAddress 19 = .ok (.getfield 23, 3) := by decide +kernel
theorem dX4_startAddress_22 : decode cX4_startAddress 22 = .ok (.lload_n 1, 1) := by decide +kernel
theorem dX4_startAddress_23 : decode cX4_startAddress 23 = .ok (.bipush 27, 2) := by decide +kernel
theorem dX4_startAddress_25 : decode cX4_startAddress 25 = .ok (.iconst 2, 1) := by decide +kernel
theorem dX4_startAddress_26 : decode cX4_startAddress 26 = .ok (.invokestatic 53, 3) := by decide +kernel
theorem dX4_startAddress_29 : decode cX4_startAddress 29 = .ok (.aaload, 1) := by decide +kernel
theorem dX4_startAddress_30 : decode cX4_startAddress 30 = .ok (.astore 4, 2) := by decide +kernel
theorem dX4_startAddress_32 : decode cX4_startAddress 32 = .ok (.aload_n 0, 1) := by decide +kernel
theorem dX4_startAddress_33 : decode cX4_startAddress 33 = .ok (.getfield 31, 3) := by decide +kernel
theorem dX4_startAddress_36 : decode cX4_startAddress 36 = .ok (.aload 4, 2) := by decide +kernel
theorem dX4_startAddress_38 : decode cX4_startAddress 38 = .ok (.getfield 119, 3) := by decide +kernel
theorem dX4_startAddress_41 : decode cX4_startAddress 41 = .ok (.putfield 119, 3) := by decide +kernel
theorem dX4_startAddress_44 : decode cX4_startAddress 44 = .ok (.aload_n 0, 1) := by decide +kernel
theorem dX4_startAddress_45 : decode cX4_startAddress 45 = .ok (.getfield 31, 3) := by decide +kernel
theorem dX4_startAddress_48 : decode cX4_startAddress 48 = .ok (.aload 4, 2) := by decide +kernel
theorem dX4_startAddress_50 : decode cX4_startAddress 50 = .ok (.getfield 122, 3) := by decide +kernel
theorem dX4_startAddress_53 : decode cX4_startAddress 53 = .ok (.iload_n 3, 1) := by decide +kernel
theorem dX4_startAddress_54 : decode cX4_startAddress 54 = .ok (.invokestatic 156, 3) := by decide +kernel
theorem dX4_startAddress_57 : decode cX4_startAddress 57 = .ok (.putfield 122, 3) := by decide +kernel
theorem dX4_startAddress_60 : decode cX4_startAddress 60 = .ok (.aload_n 0, 1) := by decide +kernel
theorem dX4_startAddress_61 : decode cX4_startAddress 61 = .ok (.getfield 31, 3) := by decide +kernel
theorem dX4_startAddress_64 : decode cX4_startAddress 64 = .ok (.aload_n 0, 1) := by decide +kernel
theorem dX4_startAddress_65 : decode cX4_startAddress 65 = .ok (.getfield 27, 3) := by decide +kernel
theorem dX4_startAddress_68 : decode cX4_startAddress 68 = .ok (.getfield 129, 3) := by decide +kernel
theorem dX4_startAddress_71 : decode cX4_startAddress 71 = .ok (.aload 4, 2) := by decide +kernel
theorem dX4_startAddress_73 : decode cX4_startAddress 73 = .ok (.getfield 129, 3) := by decide +kernel
theorem dX4_startAddress_76 : decode cX4_startAddress 76 = .ok (.invokestatic 160, 3) := by decide +kernel
theorem dX4_startAddress_79 : decode cX4_startAddress 79 = .ok (.putfield 129, 3) := by decide +kernel
theorem dX4_startAddress_82 : decode cX4_startAddress 82 = .ok (.goto 39, 3) := by decide +kernel
theorem dX4_startAddress_85 : decode cX4_startAddress 85 = .ok (.aload_n 0, 1) := by decide +kernel
theorem dX4_startAddress_86 : decode cX4_startAddress 86 = .ok (.getfield 31, 3) := by decide +kernel
theorem dX4_startAddress_89 : decode cX4_startAddress 89 = .ok (.aload_n 0, 1) := by decide +kernel
theorem dX4_startAddress_90 : decode cX4_startAddress 90 = .ok (.getfield 27, 3) := by decide +kernel
theorem dX4_startAddress_93 : decode cX4_startAddress 93 = .ok (.getfield 119, 3) := by decide +kernel
theorem dX4_startAddress_96 : decode cX4_startAddress 96 = .ok (.putfield 119, 3) := by decide +kernel
theorem dX4_startAddress_99 : decode cX4_startAddress 99 = .ok (.aload_n 0, 1) := by decide +kernel
theorem dX4_startAddress_100 : decode cX4_startAddress 100 = .ok (.getfield 31, 3) := by decide +kernel
theorem dX4_startAddress_103 : decode cX4_startAddress 103 = .ok (.iload_n 3, 1) := by decide +kernel
theorem dX4_startAddress_104 : decode cX4_startAddress 104 = .ok (.putfield 122, 3) := by decide +kernel
theorem dX4_startAddress_107 : decode cX4_startAddress 107 = .ok (.aload_n 0, 1) := by decide +kernel
theorem dX4_startAddress_108 : decode cX4_startAddress 108 = .ok (.getfield 31, 3) := by decide +kernel
theorem dX4_startAddress_111 : decode cX4_startAddress 111 = .ok (.aload_n 0, 1) := by decide +kernel
theorem dX4_startAddress_112 : decode cX4_startAddress 112 = .ok (.getfield 27, 3) := by decide +kernel
theorem dX4_startAddress_115 : decode cX4_startAddress 115 = .ok (.getfield 129, 3) := by decide +kernel
theorem dX4_startAddress_118 : decode cX4_startAddress 118 = .ok (.putfield 129, 3) := by decide +kernel
theorem dX4_startAddress_121 : decode cX4_startAddress 121 = .ok (.lload_n 1, 1) := by decide +kernel
theorem dX4_startAddress_122 : decode cX4_startAddress 122 = .ok (.bipush 24, 2) := by decide +kernel
theorem dX4_startAddress_124 : decode cX4_startAddress 124 = .ok (.iconst 2, 1) := by decide +kernel
theorem dX4_startAddress_125 : decode cX4_startAddress 125 = .ok (.invokestatic 53, 3) := by decide +kernel
theorem dX4_startAddress_128 : decode cX4_startAddress 128 = .ok (.istore 4, 2) := by decide +kernel
theorem dX4_startAddress_130 : decode cX4_startAddress 130 = .ok (.iload 4, 2) := by decide +kernel
theorem dX4_startAddress_132 : decode cX4_startAddress 132 = .ok (.ifCond .eq 27, 3) := by decide +kernel
theorem dX4_startAddress_135 : decode cX4_startAddress 135 = .ok (.aload_n 0, 1) := by decide +kernel
theorem dX4_startAddress_136 : decode cX4_startAddress 136 = .ok (.getfield 31, 3) := by decide +kernel
theorem dX4_startAddress_139 : decode cX4_startAddress 139 = .ok (.aload_n 0, 1) := by decide +kernel
theorem dX4_startAddress_140 : decode cX4_startAddress 140 = .ok (.getfield 31, 3) := by decide +kernel
theorem dX4_startAddress_143 : decode cX4_startAddress 143 = .ok (.getfield 122, 3) := by decide +kernel
theorem dX4_startAddress_146 : decode cX4_startAddress 146 = .ok (.aload_n 0, 1) := by decide +kernel
theorem dX4_startAddress_147 : decode cX4_startAddress 147 = .ok (.getfield 16, 3) := by decide +kernel
theorem dX4_startAddress_150 : decode cX4_startAddress 150 = .ok (.iload 4, 2) := by decide +kernel
theorem dX4_startAddress_152 : decode cX4_startAddress 152 = .ok (.iaload, 1) := by decide +kernel
theorem dX4_startAddress_153 : decode cX4_startAddress 153 = .ok (.invokestatic 156, 3) := by decide +kernel
theorem dX4_startAddress_156 : decode cX4_startAddress 156 = .ok (.putfield 122, 3) := by decide +kernel
theorem dX4_startAddress_159 : decode cX4_startAddress 159 = .ok (.return_, 1) := by decide +kernel
theorem dX4_takeInterrupt_0 : decode cX4_takeInterrupt 0 = .ok (.aload_n 0, 1) := by decide +kernel
theorem dX4_takeInterrupt_1 : decode cX4_takeInterrupt 1 = .ok (.getfield 83, 3) := by decide +kernel
theorem dX4_takeInterrupt_4 : decode cX4_takeInterrupt 4 = .ok (.ifCond .ne 10, 3) := by decide +kernel
theorem dX4_takeInterrupt_7 : decode cX4_takeInterrupt 7 = .ok (.aload_n 0, 1) := by decide +kernel
theorem dX4_takeInterrupt_8 : decode cX4_takeInterrupt 8 = .ok (.getfield 86, 3) := by decide +kernel
theorem dX4_takeInterrupt_11 : decode cX4_takeInterrupt 11 = .ok (.ifCond .ne 5, 3) := by decide +kernel
theorem dX4_takeInterrupt_14 : decode cX4_takeInterrupt 14 = .ok (.iconst 0, 1) := by decide +kernel
theorem dX4_takeInterrupt_15 : decode cX4_takeInterrupt 15 = .ok (.ireturn, 1) := by decide +kernel
theorem dX4_takeInterrupt_16 : decode cX4_takeInterrupt 16 = .ok (.iconst 0, 1) := by decide +kernel
theorem dX4_takeInterrupt_17 : decode cX4_takeInterrupt 17 = .ok (.istore_n 1, 1) := by decide +kernel
theorem dX4_takeInterrupt_18 : decode cX4_takeInterrupt 18 = .ok (.iload_n 1, 1) := by decide +kernel
theorem dX4_takeInterrupt_19 : decode cX4_takeInterrupt 19 = .ok (.iconst 3, 1) := by decide +kernel
theorem dX4_takeInterrupt_20 : decode cX4_takeInterrupt 20 = .ok (.if_icmp .ge 20, 3) := by decide +kernel
theorem dX4_takeInterrupt_23 : decode cX4_takeInterrupt 23 = .ok (.aload_n 0, 1) := by decide +kernel
theorem dX4_takeInterrupt_24 : decode cX4_takeInterrupt 24 = .ok (.getfield 86, 3) := by decide +kernel
theorem dX4_takeInterrupt_27 : decode cX4_takeInterrupt 27 = .ok (.iconst 1, 1) := by decide +kernel
theorem dX4_takeInterrupt_28 : decode cX4_takeInterrupt 28 = .ok (.iload_n 1, 1) := by decide +kernel
theorem dX4_takeInterrupt_29 : decode cX4_takeInterrupt 29 = .ok (.ishl, 1) := by decide +kernel
theorem dX4_takeInterrupt_30 : decode cX4_takeInterrupt 30 = .ok (.iand, 1) := by decide +kernel
theorem dX4_takeInterrupt_31 : decode cX4_takeInterrupt 31 = .ok (.ifCond .ne 9, 3) := by decide +kernel
theorem dX4_takeInterrupt_34 : decode cX4_takeInterrupt 34 = .ok (.iinc 1 1, 3) := by decide +kernel
theorem dX4_takeInterrupt_37 : decode cX4_takeInterrupt 37 = .ok (.goto (-19), 3) := by decide +kernel
theorem dX4_takeInterrupt_40 : decode cX4_takeInterrupt 40 = .ok (.aload_n 0, 1) := by decide +kernel
theorem dX4_takeInterrupt_41 : decode cX4_takeInterrupt 41 = .ok (.dup, 1) := by decide +kernel
theorem dX4_takeInterrupt_42 : decode cX4_takeInterrupt 42 = .ok (.getfield 86, 3) := by decide +kernel
theorem dX4_takeInterrupt_45 : decode cX4_takeInterrupt 45 = .ok (.iconst 1, 1) := by decide +kernel
theorem dX4_takeInterrupt_46 : decode cX4_takeInterrupt 46 = .ok (.iload_n 1, 1) := by decide +kernel
theorem dX4_takeInterrupt_47 : decode cX4_takeInterrupt 47 = .ok (.ishl, 1) := by decide +kernel
theorem dX4_takeInterrupt_48 : decode cX4_takeInterrupt 48 = .ok (.iconst (-1), 1) := by decide +kernel
theorem dX4_takeInterrupt_49 : decode cX4_takeInterrupt 49 = .ok (.ixor, 1) := by decide +kernel
theorem dX4_takeInterrupt_50 : decode cX4_takeInterrupt 50 = .ok (.iand, 1) := by decide +kernel
theorem dX4_takeInterrupt_51 : decode cX4_takeInterrupt 51 = .ok (.putfield 86, 3) := by decide +kernel
theorem dX4_takeInterrupt_54 : decode cX4_takeInterrupt 54 = .ok (.bipush 8, 2) := by decide +kernel
theorem dX4_takeInterrupt_56 : decode cX4_takeInterrupt 56 = .ok (.iload_n 1, 1) := by decide +kernel
theorem dX4_takeInterrupt_57 : decode cX4_takeInterrupt 57 = .ok (.iadd, 1) := by decide +kernel
theorem dX4_takeInterrupt_58 : decode cX4_takeInterrupt 58 = .ok (.ireturn, 1) := by decide +kernel
theorem dX4_enter_0 : decode cX4_enter 0 = .ok (.iload_n 1, 1) := by decide +kernel
theorem dX4_enter_1 : decode cX4_enter 1 = .ok (.iconst 4, 1) := by decide +kernel
theorem dX4_enter_2 : decode cX4_enter 2 = .ok (.if_icmp .gt 10, 3) := by decide +kernel
theorem dX4_enter_5 : decode cX4_enter 5 = .ok (.aload_n 0, 1) := by decide +kernel
theorem dX4_enter_6 : decode cX4_enter 6 = .ok (.getfield 31, 3) := by decide +kernel
theorem dX4_enter_9 : decode cX4_enter 9 = .ok (.goto 7, 3) := by decide +kernel
theorem dX4_enter_12 : decode cX4_enter 12 = .ok (.aload_n 0, 1) := by decide +kernel
theorem dX4_enter_13 : decode cX4_enter 13 = .ok (.getfield 27, 3) := by decide +kernel
theorem dX4_enter_16 : decode cX4_enter 16 = .ok (.astore_n 2, 1) := by decide +kernel
theorem dX4_enter_17 : decode cX4_enter 17 = .ok (.aload_n 0, 1) := by decide +kernel
theorem dX4_enter_18 : decode cX4_enter 18 = .ok (.iload_n 1, 1) := by decide +kernel
theorem dX4_enter_19 : decode cX4_enter 19 = .ok (.putfield 90, 3) := by decide +kernel
theorem dX4_enter_22 : decode cX4_enter 22 = .ok (.aload_n 0, 1) := by decide +kernel
theorem dX4_enter_23 : decode cX4_enter 23 = .ok (.aload_n 2, 1) := by decide +kernel
theorem dX4_enter_24 : decode cX4_enter 24 = .ok (.getfield 119, 3) := by decide +kernel
theorem dX4_enter_27 : decode cX4_enter 27 = .ok (.putfield 93, 3) := by decide +kernel
theorem dX4_enter_30 : decode cX4_enter 30 = .ok (.aload_n 0, 1) := by decide +kernel
theorem dX4_enter_31 : decode cX4_enter 31 = .ok (.aload_n 2, 1) := by decide +kernel
theorem dX4_enter_32 : decode cX4_enter 32 = .ok (.getfield 122, 3) := by decide +kernel
theorem dX4_enter_35 : decode cX4_enter 35 = .ok (.putfield 96, 3) := by decide +kernel
theorem dX4_enter_38 : decode cX4_enter 38 = .ok (.aload_n 0, 1) := by decide +kernel
theorem dX4_enter_39 : decode cX4_enter 39 = .ok (.getfield 83, 3) := by decide +kernel
theorem dX4_enter_42 : decode cX4_enter 42 = .ok (.ifCond .eq 9, 3) := by decide +kernel
theorem dX4_enter_45 : decode cX4_enter 45 = .ok (.aload_n 0, 1) := by decide +kernel
theorem dX4_enter_46 : decode cX4_enter 46 = .ok (.iconst 1, 1) := by decide +kernel
theorem dX4_enter_47 : decode cX4_enter 47 = .ok (.putfield 68, 3) := by decide +kernel
theorem dX4_enter_50 : decode cX4_enter 50 = .ok (.return_, 1) := by decide +kernel
theorem dX4_enter_51 : decode cX4_enter 51 = .ok (.aload_n 0, 1) := by decide +kernel
theorem dX4_enter_52 : decode cX4_enter 52 = .ok (.getfield 34, 3) := by decide +kernel
theorem dX4_enter_55 : decode cX4_enter 55 = .ok (.aload_n 0, 1) := by decide +kernel
theorem dX4_enter_56 : decode cX4_enter 56 = .ok (.getfield 27, 3) := by decide +kernel
theorem dX4_enter_59 : decode cX4_enter 59 = .ok (.invokevirtual 125, 3) := by decide +kernel
theorem dX4_enter_62 : decode cX4_enter 62 = .ok (.aload_n 0, 1) := by decide +kernel
theorem dX4_enter_63 : decode cX4_enter 63 = .ok (.iconst 1, 1) := by decide +kernel
theorem dX4_enter_64 : decode cX4_enter 64 = .ok (.putfield 99, 3) := by decide +kernel
theorem dX4_enter_67 : decode cX4_enter 67 = .ok (.aload_n 0, 1) := by decide +kernel
theorem dX4_enter_68 : decode cX4_enter 68 = .ok (.iconst 1, 1) := by decide +kernel
theorem dX4_enter_69 : decode cX4_enter 69 = .ok (.putfield 83, 3) := by decide +kernel
theorem dX4_enter_72 : decode cX4_enter 72 = .ok (.aload_n 0, 1) := by decide +kernel
theorem dX4_enter_73 : decode cX4_enter 73 = .ok (.getfield 27, 3) := by decide +kernel
theorem dX4_enter_76 : decode cX4_enter 76 = .ok (.iconst 0, 1) := by decide +kernel
theorem dX4_enter_77 : decode cX4_enter 77 = .ok (.putfield 119, 3) := by decide +kernel
theorem dX4_enter_80 : decode cX4_enter 80 = .ok (.aload_n 0, 1) := by decide +kernel
theorem dX4_enter_81 : decode cX4_enter 81 = .ok (.getfield 27, 3) := by decide +kernel
theorem dX4_enter_84 : decode cX4_enter 84 = .ok (.bipush 16, 2) := by decide +kernel
theorem dX4_enter_86 : decode cX4_enter 86 = .ok (.iload_n 1, 1) := by decide +kernel
theorem dX4_enter_87 : decode cX4_enter 87 = .ok (.iadd, 1) := by decide +kernel
theorem dX4_enter_88 : decode cX4_enter 88 = .ok (.putfield 122, 3) := by decide +kernel
theorem dX4_enter_91 : decode cX4_enter 91 = .ok (.aload_n 0, 1) := by decide +kernel
theorem dX4_enter_92 : decode cX4_enter 92 = .ok (.getfield 27, 3) := by decide +kernel
theorem dX4_enter_95 : decode cX4_enter 95 = .ok (.iconst 0, 1) := by decide +kernel
theorem dX4_enter_96 : decode cX4_enter 96 = .ok (.putfield 129, 3) := by decide +kernel
theorem dX4_enter_99 : decode cX4_enter 99 = .ok (.return_, 1) := by decide +kernel
theorem kw158 : Cond.constantLong RX4 154 536870912 ∈ gG := inG 464 (by decide +kernel) (by decide +kernel)
theorem kw159 : Cond.fieldLink RX4 86 RX4 "asked" "I" ∈ gG := inG 192 (by decide +kernel) (by decide +kernel)
theorem kw160 : Cond.fieldLink RX4 90 RX4 "latestFault" "I" ∈ gG := inG 189 (by decide +kernel) (by decide +kernel)
theorem kw161 : Cond.fieldLink RX4 93 RX4 "faultSegment" "I" ∈ gG := inG 190 (by decide +kernel) (by decide +kernel)
theorem kw162 : Cond.fieldLink RX4 96 RX4 "faultWord" "I" ∈ gG := inG 191 (by decide +kernel) (by decide +kernel)
theorem kw163 : Cond.fieldLink RX4 99 RX4 "hasSaved" "Z" ∈ gG := inG 186 (by decide +kernel) (by decide +kernel)
end
section
def fnX4_followWord (x : TR) (a0 : Int64) : Int32 × TR :=
  let p1 := fnX4_field a0 (33 : Int32) (3 : Int32)
  if p1 = (0 : Int32) then
   let p3 := fnX4_field a0 (0 : Int32) (12 : Int32)
   ((1 : Int32), (x.1, x.2.1, x.2.2.1, x.2.2.2.1, x.2.2.2.2.1, (x.2.2.2.2.2.1.1, p3, x.2.2.2.2.2.1.2.2), x.2.2.2.2.2.2.1, x.2.2.2.2.2.2.2))
  else
   if p1 = (1 : Int32) then
    let p5 := fnX2_takeFrom x.2.2.2.2.2.1 a0
    ((1 : Int32), (x.1, x.2.1, x.2.2.1, x.2.2.2.1, x.2.2.2.2.1, (p5.1, p5.2.1, (if x.2.2.2.2.2.1.2.2 < p5.2.2 then p5.2.2 else x.2.2.2.2.2.1.2.2)), x.2.2.2.2.2.2.1, x.2.2.2.2.2.2.2))
   else
    if p1 = (2 : Int32) then
     let p7 := fnX4_field a0 (18 : Int32) (2 : Int32)
     if p7 = (0 : Int32) then
      let p9 := fnX2_become x.2.2.2.2.2.1 x.2.2.2.1.1
      let p10 := fnX4_field a0 (0 : Int32) (12 : Int32)
      let p11 := fnX4_sum p9.2.1 p10
      ((1 : Int32), (x.1, x.2.1, x.2.2.1, x.2.2.2.1, x.2.2.2.2.1, (p9.1, p11, (if x.2.2.2.2.2.1.2.2 < p9.2.2 then p9.2.2 else x.2.2.2.2.2.1.2.2)), x.2.2.2.2.2.2.1, x.2.2.2.2.2.2.2))
     else
      if p7 = (1 : Int32) then
       let p13 := fnX2_become x.2.2.2.2.2.1 x.2.2.2.1.2.1
       let p14 := fnX4_field a0 (0 : Int32) (12 : Int32)
       let p15 := fnX4_sum p13.2.1 p14
       ((1 : Int32), (x.1, x.2.1, x.2.2.1, x.2.2.2.1, x.2.2.2.2.1, (p13.1, p15, (if x.2.2.2.2.2.1.2.2 < p13.2.2 then p13.2.2 else x.2.2.2.2.2.1.2.2)), x.2.2.2.2.2.2.1, x.2.2.2.2.2.2.2))
      else
       if p7 = (2 : Int32) then
        let p17 := fnX2_become x.2.2.2.2.2.1 x.2.2.2.1.2.2.1
        let p18 := fnX4_field a0 (0 : Int32) (12 : Int32)
        let p19 := fnX4_sum p17.2.1 p18
        ((1 : Int32), (x.1, x.2.1, x.2.2.1, x.2.2.2.1, x.2.2.2.2.1, (p17.1, p19, (if x.2.2.2.2.2.1.2.2 < p17.2.2 then p17.2.2 else x.2.2.2.2.2.1.2.2)), x.2.2.2.2.2.2.1, x.2.2.2.2.2.2.2))
       else
        let p21 := fnX2_become x.2.2.2.2.2.1 x.2.2.2.1.2.2.2
        let p22 := fnX4_field a0 (0 : Int32) (12 : Int32)
        let p23 := fnX4_sum p21.2.1 p22
        ((1 : Int32), (x.1, x.2.1, x.2.2.1, x.2.2.2.1, x.2.2.2.2.1, (p21.1, p23, (if x.2.2.2.2.2.1.2.2 < p21.2.2 then p21.2.2 else x.2.2.2.2.2.1.2.2)), x.2.2.2.2.2.2.1, x.2.2.2.2.2.2.2))
    else
     ((0 : Int32), x)
abbrev ivX4_followWordP (z : Int32 × TR) : Prop := iR z.2
set_option maxRecDepth 100000 in
set_option maxHeartbeats 4000000 in
theorem ivX4_followWord (x : TR) (a0 : Int64) (hI : iR x) : ivX4_followWordP (fnX4_followWord x a0) := by
  unfold fnX4_followWord
  try dsimp only
  have j1 : i3 (fnX4_field a0 (33 : Int32) (3 : Int32)) := (f3X a0 (33 : Int32))
  generalize fnX4_field a0 (33 : Int32) (3 : Int32) = p1 at j1 ⊢
  refine iteI (fun h2 => ?_) (fun h2 => ?_)
  · have j3 : i12 (fnX4_field a0 (0 : Int32) (12 : Int32)) := (f12X a0 (0 : Int32))
    generalize fnX4_field a0 (0 : Int32) (12 : Int32) = p3 at j3 ⊢
    exact ⟨hI.1, hI.2.1, hI.2.2.1, hI.2.2.2.1, hI.2.2.2.2.1, ⟨hI.2.2.2.2.2.1.1, j3, hI.2.2.2.2.2.1.2.2⟩, hI.2.2.2.2.2.2.1, hI.2.2.2.2.2.2.2⟩
  · refine iteI (fun h4 => ?_) (fun h4 => ?_)
    · have j5 : ivX2_takeFromP (fnX2_takeFrom x.2.2.2.2.2.1 a0) := ivX2_takeFrom x.2.2.2.2.2.1 a0 hI.2.2.2.2.2.1
      generalize fnX2_takeFrom x.2.2.2.2.2.1 a0 = p5 at j5 ⊢
      exact ⟨hI.1, hI.2.1, hI.2.2.1, hI.2.2.2.1, hI.2.2.2.2.1, ⟨j5.1, j5.2.1, (mx3 hI.2.2.2.2.2.1.2.2 j5.2.2)⟩, hI.2.2.2.2.2.2.1, hI.2.2.2.2.2.2.2⟩
    · refine iteI (fun h6 => ?_) (fun h6 => ?_)
      · have j7 : i2 (fnX4_field a0 (18 : Int32) (2 : Int32)) := (f2X a0 (18 : Int32))
        generalize fnX4_field a0 (18 : Int32) (2 : Int32) = p7 at j7 ⊢
        refine iteI (fun h8 => ?_) (fun h8 => ?_)
        · have j9 : ivX2_becomeP (fnX2_become x.2.2.2.2.2.1 x.2.2.2.1.1) := ivX2_become x.2.2.2.2.2.1 x.2.2.2.1.1 hI.2.2.2.2.2.1 hI.2.2.2.1.1
          generalize fnX2_become x.2.2.2.2.2.1 x.2.2.2.1.1 = p9 at j9 ⊢
          have j10 : i12 (fnX4_field a0 (0 : Int32) (12 : Int32)) := (f12X a0 (0 : Int32))
          generalize fnX4_field a0 (0 : Int32) (12 : Int32) = p10 at j10 ⊢
          have j11 : i12 (fnX4_sum p9.2.1 p10) := (sumX p9.2.1 p10)
          generalize fnX4_sum p9.2.1 p10 = p11 at j11 ⊢
          exact ⟨hI.1, hI.2.1, hI.2.2.1, hI.2.2.2.1, hI.2.2.2.2.1, ⟨j9.1, j11, (mx3 hI.2.2.2.2.2.1.2.2 j9.2.2)⟩, hI.2.2.2.2.2.2.1, hI.2.2.2.2.2.2.2⟩
        · refine iteI (fun h12 => ?_) (fun h12 => ?_)
          · have j13 : ivX2_becomeP (fnX2_become x.2.2.2.2.2.1 x.2.2.2.1.2.1) := ivX2_become x.2.2.2.2.2.1 x.2.2.2.1.2.1 hI.2.2.2.2.2.1 hI.2.2.2.1.2.1
            generalize fnX2_become x.2.2.2.2.2.1 x.2.2.2.1.2.1 = p13 at j13 ⊢
            have j14 : i12 (fnX4_field a0 (0 : Int32) (12 : Int32)) := (f12X a0 (0 : Int32))
            generalize fnX4_field a0 (0 : Int32) (12 : Int32) = p14 at j14 ⊢
            have j15 : i12 (fnX4_sum p13.2.1 p14) := (sumX p13.2.1 p14)
            generalize fnX4_sum p13.2.1 p14 = p15 at j15 ⊢
            exact ⟨hI.1, hI.2.1, hI.2.2.1, hI.2.2.2.1, hI.2.2.2.2.1, ⟨j13.1, j15, (mx3 hI.2.2.2.2.2.1.2.2 j13.2.2)⟩, hI.2.2.2.2.2.2.1, hI.2.2.2.2.2.2.2⟩
          · refine iteI (fun h16 => ?_) (fun h16 => ?_)
            · have j17 : ivX2_becomeP (fnX2_become x.2.2.2.2.2.1 x.2.2.2.1.2.2.1) := ivX2_become x.2.2.2.2.2.1 x.2.2.2.1.2.2.1 hI.2.2.2.2.2.1 hI.2.2.2.1.2.2.1
              generalize fnX2_become x.2.2.2.2.2.1 x.2.2.2.1.2.2.1 = p17 at j17 ⊢
              have j18 : i12 (fnX4_field a0 (0 : Int32) (12 : Int32)) := (f12X a0 (0 : Int32))
              generalize fnX4_field a0 (0 : Int32) (12 : Int32) = p18 at j18 ⊢
              have j19 : i12 (fnX4_sum p17.2.1 p18) := (sumX p17.2.1 p18)
              generalize fnX4_sum p17.2.1 p18 = p19 at j19 ⊢
              exact ⟨hI.1, hI.2.1, hI.2.2.1, hI.2.2.2.1, hI.2.2.2.2.1, ⟨j17.1, j19, (mx3 hI.2.2.2.2.2.1.2.2 j17.2.2)⟩, hI.2.2.2.2.2.2.1, hI.2.2.2.2.2.2.2⟩
            · have j21 : ivX2_becomeP (fnX2_become x.2.2.2.2.2.1 x.2.2.2.1.2.2.2) := ivX2_become x.2.2.2.2.2.1 x.2.2.2.1.2.2.2 hI.2.2.2.2.2.1 hI.2.2.2.1.2.2.2
              generalize fnX2_become x.2.2.2.2.2.1 x.2.2.2.1.2.2.2 = p21 at j21 ⊢
              have j22 : i12 (fnX4_field a0 (0 : Int32) (12 : Int32)) := (f12X a0 (0 : Int32))
              generalize fnX4_field a0 (0 : Int32) (12 : Int32) = p22 at j22 ⊢
              have j23 : i12 (fnX4_sum p21.2.1 p22) := (sumX p21.2.1 p22)
              generalize fnX4_sum p21.2.1 p22 = p23 at j23 ⊢
              exact ⟨hI.1, hI.2.1, hI.2.2.1, hI.2.2.2.1, hI.2.2.2.2.1, ⟨j21.1, j23, (mx3 hI.2.2.2.2.2.1.2.2 j21.2.2)⟩, hI.2.2.2.2.2.2.1, hI.2.2.2.2.2.2.2⟩
      · exact hI
set_option maxRecDepth 100000 in
set_option maxHeartbeats 4000000 in
theorem okX4_followWord (l : Launch) (D : va_G) (cI cJ cP : ClassId) (ad : Nat → Nat) (sz : Nat) (x : TR) (a0 : Int64) (hI : iR x) : Met l yX4_followWord (Cond.code yX4_followWord cX4_followWord 4 (some .boolean) :: gG) { frames := 2, cells := 0, slots := 0, locals := 45 } (va_Pc [.ref (ad 0), .long a0] (PRE D (tz cI cJ cP) sz (wR cI cJ cP ad x))) (va_Qi (fun (r : Int32) (u : TR) => (r, u) = fnX4_followWord x a0) (AT D (tz cI cJ cP) (va_A (wR cI cJ cP ad x) sz) (fun (u : TR) => (wR cI cJ cP ad u))) (va_A (wR cI cJ cP ad x) sz)) 0 0 (va_A (wR cI cJ cP ad x) sz) := by
  refine mo (QA := fun A => va_Qi (fun (r : Int32) (u : TR) => (r, u) = fnX4_followWord x a0) (AT D (tz cI cJ cP) A (fun (u : TR) => (wR cI cJ cP ad u))) A) (by decide) (Nat.le_of_ble_eq_true rfl) ?_
  intro p e s m below meth c A ls H hx hb hr hml hown hG hlocks hnm hA hS hP hK hD hl hN
  have hown : s.vm.findClass RX4 = some m.cls := hown
  have hl : lv_has ls 4 [(0, .ref (ad 0)), (1, .long a0)] := hl
  refine lv_aload_n hx hb dX4_followWord_0 rfl (lv_at hl 0 rfl) ?_
  refine va_get (D := D) (ci := 4) (v := .ref (ad 12)) hx hb hG inX4 hown hK hP 0 rfl rfl 6 (by decide) (hG _ kw124) (fun _ h9 => h9) rfl dX4_followWord_1 ?_
  refine va_get (D := D) (ci := 2) (v := .int (x.2.2.2.2.2.1.2.2)) hx hb hG inX2 hown hK hP 12 rfl rfl 2 (by decide) (hG _ kw119) (fun _ h9 => h9) rfl dX4_followWord_4 ?_
  refine lv_istore_n (lv' := [(3, .int (x.2.2.2.2.2.1.2.2)), (0, .ref (ad 0)), (1, .long (a0))]) hx hb dX4_followWord_7 rfl hl (by decide) rfl (fun ls hl => ?_)
  refine lv_lload_n hx hb dX4_followWord_8 rfl (lv_at hl 2 rfl) ?_
  refine lv_bipush (v := 33) hx hb dX4_followWord_9 (by decide) ?_
  refine lv_iconst (v := 3) hx hb dX4_followWord_11 (by decide) ?_
  refine k0Si (As := [.long (a0), .int ((33 : Int32)), .int ((3 : Int32))]) (rest := []) hx hb hml hown hG hl (okX4_field l D cI cJ cP  H.size a0 (33 : Int32) (3 : Int32) ) (cS 3 hG kw4 kw135 kw6 kw5 hdX4_field ⟨by decide, by decide⟩) hK hP hD hS hA hN rfl rfl (Nat.le_of_ble_eq_true rfl) dX4_followWord_12 ⟨Nat.zero_le _, Nat.zero_le _⟩ (fun r1 q1 H locs hP hD hS => ?_)
  have j1 : i3 r1 := by rw [q1]; exact (f3X a0 (33 : Int32))
  by_cases h2 : r1 = (0 : Int32)
  · refine lv_tableIn (off := 25) (tgt := 40) hx hb dX4_followWord_15 (by rw [h2]; decide) (by rw [h2]; decide) (by rw [h2]; decide) (by decide) ?_
    refine lv_aload_n hx hb dX4_followWord_40 rfl (lv_at hl 1 rfl) ?_
    refine va_get (D := D) (ci := 4) (v := .ref (ad 12)) hx hb hG inX4 hown hK hP 0 rfl rfl 6 (by decide) (hG _ kw124) (fun _ h9 => h9) rfl dX4_followWord_41 ?_
    refine lv_lload_n hx hb dX4_followWord_44 rfl (lv_at hl 2 rfl) ?_
    refine lv_iconst (v := 0) hx hb dX4_followWord_45 (by decide) ?_
    refine lv_bipush (v := 12) hx hb dX4_followWord_46 (by decide) ?_
    refine k0Si (As := [.long (a0), .int ((0 : Int32)), .int ((12 : Int32))]) (rest := [.ref (ad 12)]) hx hb hml hown hG hl (okX4_field l D cI cJ cP  H.size a0 (0 : Int32) (12 : Int32) ) (cS 3 hG kw4 kw135 kw6 kw5 hdX4_field ⟨by decide, by decide⟩) hK hP hD hS hA hN rfl rfl (Nat.le_of_ble_eq_true rfl) dX4_followWord_48 ⟨Nat.zero_le _, Nat.zero_le _⟩ (fun r3 q3 H locs hP hD hS => ?_)
    have j3 : i12 r3 := by rw [q3]; exact (f12X a0 (0 : Int32))
    refine pu (D := D) (ci := 2) (v := .int (r3)) (ty := .int) (W' := (wR cI cJ cP ad (x.1, x.2.1, x.2.2.1, x.2.2.2.1, x.2.2.2.2.1, (x.2.2.2.2.2.1.1, r3, x.2.2.2.2.2.1.2.2), x.2.2.2.2.2.2.1, x.2.2.2.2.2.2.2))) hx hb hG inX2 tyX2 tyokX2 nmX2 hown hK hP hD hS 12 rfl rfl 1 (by decide) (hG _ kw88) (fun _ h9 => h9) rfl (by decide +kernel) rfl rfl (Nat.le_of_ble_eq_true rfl) dX4_followWord_51 rfl (fun H locs hP hD hS => ?_)
    refine lv_iconst (v := 1) hx hb dX4_followWord_54 (by decide) ?_
    exact retz (u := (x.1, x.2.1, x.2.2.1, x.2.2.2.1, x.2.2.2.2.1, (x.2.2.2.2.2.1.1, r3, x.2.2.2.2.2.1.2.2), x.2.2.2.2.2.2.1, x.2.2.2.2.2.2.2)) hx hb hr hlocks (by decide) hK hP hD hS dX4_followWord_55 (by unfold fnX4_followWord; rw [← q1]; (try dsimp only); rw [if_pos h2]; rw [← q3]; (try dsimp only); (try exact rfl))
  by_cases h4 : r1 = (1 : Int32)
  · refine lv_tableIn (off := 41) (tgt := 56) hx hb dX4_followWord_15 (by rw [h4]; decide) (by rw [h4]; decide) (by rw [h4]; decide) (by decide) ?_
    refine lv_aload_n hx hb dX4_followWord_56 rfl (lv_at hl 1 rfl) ?_
    refine va_get (D := D) (ci := 4) (v := .ref (ad 12)) hx hb hG inX4 hown hK hP 0 rfl rfl 6 (by decide) (hG _ kw124) (fun _ h9 => h9) rfl dX4_followWord_57 ?_
    refine lv_lload_n hx hb dX4_followWord_60 rfl (lv_at hl 2 rfl) ?_
    refine kVv (As := [.long (a0)]) (rest := []) (W' := (fun u5 => (wR cI cJ cP ad (x.1, x.2.1, x.2.2.1, x.2.2.2.1, x.2.2.2.2.1, u5, x.2.2.2.2.2.2.1, x.2.2.2.2.2.2.2)))) hx hb hml hown hG hl (okX2_takeFrom l D cI cJ cP (ad 12) H.size x.2.2.2.2.2.1 a0 hI.2.2.2.2.2.1) (cV 1 hG kw154 kw155 kw156 kw157 kw99 hdX2_takeFrom ⟨by decide, by decide⟩) 12 2 rfl rfl hK hP hD hS hA hN [12] rfl rfl rfl (fun _ => rfl) (fun _ => rfl) rfl rfl (Nat.le_of_ble_eq_true rfl) dX4_followWord_61 ⟨Nat.zero_le _, Nat.zero_le _⟩ (fun u5 q5 H locs hP hD hS => ?_)
    have j5 : ivX2_takeFromP u5 := by rw [q5]; exact ivX2_takeFrom x.2.2.2.2.2.1 a0 hI.2.2.2.2.2.1
    refine lv_goto (tgt := 115) hx hb dX4_followWord_64 (by decide) ?_
    refine lv_aload_n hx hb dX4_followWord_115 rfl (lv_at hl 1 rfl) ?_
    refine va_get (D := D) (ci := 4) (v := .ref (ad 12)) hx hb hG inX4 hown hK hP 0 rfl rfl 6 (by decide) (hG _ kw124) (fun _ h9 => h9) rfl dX4_followWord_116 ?_
    refine lv_iload_n hx hb dX4_followWord_119 rfl (lv_at hl 0 rfl) ?_
    refine lv_aload_n hx hb dX4_followWord_120 rfl (lv_at hl 1 rfl) ?_
    refine va_get (D := D) (ci := 4) (v := .ref (ad 12)) hx hb hG inX4 hown hK hP 0 rfl rfl 6 (by decide) (hG _ kw124) (fun _ h9 => h9) rfl dX4_followWord_121 ?_
    refine va_get (D := D) (ci := 2) (v := .int (u5.2.2)) hx hb hG inX2 hown hK hP 12 rfl rfl 2 (by decide) (hG _ kw119) (fun _ h9 => h9) rfl dX4_followWord_124 ?_
    refine va_mmax hx hb (hml.trans hl.1.symm) hown (hG _ kw150) (hG _ kw151) (hG _ kw152) (hG _ kw153) (by decide) (Nat.le_of_ble_eq_true rfl) (Nat.zero_le _) (Nat.zero_le _) dX4_followWord_127 ?_
    refine pu (D := D) (ci := 2) (v := .int ((if x.2.2.2.2.2.1.2.2 < u5.2.2 then u5.2.2 else x.2.2.2.2.2.1.2.2))) (ty := .int) (W' := (wR cI cJ cP ad (x.1, x.2.1, x.2.2.1, x.2.2.2.1, x.2.2.2.2.1, (u5.1, u5.2.1, (if x.2.2.2.2.2.1.2.2 < u5.2.2 then u5.2.2 else x.2.2.2.2.2.1.2.2)), x.2.2.2.2.2.2.1, x.2.2.2.2.2.2.2))) hx hb hG inX2 tyX2 tyokX2 nmX2 hown hK hP hD hS 12 rfl rfl 2 (by decide) (hG _ kw119) (fun _ h9 => h9) rfl (by decide +kernel) rfl rfl (Nat.le_of_ble_eq_true rfl) dX4_followWord_130 rfl (fun H locs hP hD hS => ?_)
    refine lv_iconst (v := 1) hx hb dX4_followWord_133 (by decide) ?_
    exact retz (u := (x.1, x.2.1, x.2.2.1, x.2.2.2.1, x.2.2.2.2.1, (u5.1, u5.2.1, (if x.2.2.2.2.2.1.2.2 < u5.2.2 then u5.2.2 else x.2.2.2.2.2.1.2.2)), x.2.2.2.2.2.2.1, x.2.2.2.2.2.2.2)) hx hb hr hlocks (by decide) hK hP hD hS dX4_followWord_134 (by unfold fnX4_followWord; rw [← q1]; (try dsimp only); rw [if_neg h2]; rw [if_pos h4]; rw [← q5]; (try dsimp only); (try exact rfl))
  by_cases h6 : r1 = (2 : Int32)
  · refine lv_tableIn (off := 52) (tgt := 67) hx hb dX4_followWord_15 (by rw [h6]; decide) (by rw [h6]; decide) (by rw [h6]; decide) (by decide) ?_
    refine lv_aload_n hx hb dX4_followWord_67 rfl (lv_at hl 1 rfl) ?_
    refine va_get (D := D) (ci := 4) (v := .ref (ad 12)) hx hb hG inX4 hown hK hP 0 rfl rfl 6 (by decide) (hG _ kw124) (fun _ h9 => h9) rfl dX4_followWord_68 ?_
    refine lv_aload_n hx hb dX4_followWord_71 rfl (lv_at hl 1 rfl) ?_
    refine va_get (D := D) (ci := 4) (v := .ref (ad 14)) hx hb hG inX4 hown hK hP 0 rfl rfl 4 (by decide) (hG _ kw149) (fun _ h9 => h9) rfl dX4_followWord_72 ?_
    refine lv_lload_n hx hb dX4_followWord_75 rfl (lv_at hl 2 rfl) ?_
    refine lv_bipush (v := 18) hx hb dX4_followWord_76 (by decide) ?_
    refine lv_iconst (v := 2) hx hb dX4_followWord_78 (by decide) ?_
    refine k0Si (As := [.long (a0), .int ((18 : Int32)), .int ((2 : Int32))]) (rest := [.ref (ad 14), .ref (ad 12)]) hx hb hml hown hG hl (okX4_field l D cI cJ cP  H.size a0 (18 : Int32) (2 : Int32) ) (cS 3 hG kw4 kw135 kw6 kw5 hdX4_field ⟨by decide, by decide⟩) hK hP hD hS hA hN rfl rfl (Nat.le_of_ble_eq_true rfl) dX4_followWord_79 ⟨Nat.zero_le _, Nat.zero_le _⟩ (fun r7 q7 H locs hP hD hS => ?_)
    have j7 : i2 r7 := by rw [q7]; exact (f2X a0 (18 : Int32))
    by_cases h8 : r7 = (0 : Int32)
    · refine gq (D := D) (j := 0) (x := ad 15) hx hb hK hP 14 2 rfl rfl (by rw [h8]; exact inL (by decide)) (by rw [h8]; decide) rfl dX4_followWord_82 ?_
      refine kVv (As := [.ref (ad 15)]) (rest := []) (W' := (fun u9 => (wR cI cJ cP ad (x.1, x.2.1, x.2.2.1, x.2.2.2.1, x.2.2.2.2.1, u9, x.2.2.2.2.2.2.1, x.2.2.2.2.2.2.2)))) hx hb hml hown hG hl (okX2_become l D cI cJ cP (ad 12) (ad 15) H.size x.2.2.2.2.2.1 x.2.2.2.1.1 hI.2.2.2.2.2.1 hI.2.2.2.1.1) (cV 1 hG kw98 kw100 kw101 kw102 kw99 hdX2_become ⟨by decide, by decide⟩) 12 2 rfl rfl hK hP hD hS hA hN [12, 15] rfl rfl rfl (fun _ => rfl) (fun _ => rfl) rfl rfl (Nat.le_of_ble_eq_true rfl) dX4_followWord_83 ⟨Nat.zero_le _, Nat.zero_le _⟩ (fun u9 q9 H locs hP hD hS => ?_)
      have j9 : ivX2_becomeP u9 := by rw [q9]; exact ivX2_become x.2.2.2.2.2.1 x.2.2.2.1.1 hI.2.2.2.2.2.1 hI.2.2.2.1.1
      refine lv_aload_n hx hb dX4_followWord_86 rfl (lv_at hl 1 rfl) ?_
      refine va_get (D := D) (ci := 4) (v := .ref (ad 12)) hx hb hG inX4 hown hK hP 0 rfl rfl 6 (by decide) (hG _ kw124) (fun _ h9 => h9) rfl dX4_followWord_87 ?_
      refine lv_aload_n hx hb dX4_followWord_90 rfl (lv_at hl 1 rfl) ?_
      refine va_get (D := D) (ci := 4) (v := .ref (ad 12)) hx hb hG inX4 hown hK hP 0 rfl rfl 6 (by decide) (hG _ kw124) (fun _ h9 => h9) rfl dX4_followWord_91 ?_
      refine va_get (D := D) (ci := 2) (v := .int (u9.2.1)) hx hb hG inX2 hown hK hP 12 rfl rfl 1 (by decide) (hG _ kw88) (fun _ h9 => h9) rfl dX4_followWord_94 ?_
      refine lv_lload_n hx hb dX4_followWord_97 rfl (lv_at hl 2 rfl) ?_
      refine lv_iconst (v := 0) hx hb dX4_followWord_98 (by decide) ?_
      refine lv_bipush (v := 12) hx hb dX4_followWord_99 (by decide) ?_
      refine k0Si (As := [.long (a0), .int ((0 : Int32)), .int ((12 : Int32))]) (rest := [.int (u9.2.1), .ref (ad 12)]) hx hb hml hown hG hl (okX4_field l D cI cJ cP  H.size a0 (0 : Int32) (12 : Int32) ) (cS 3 hG kw4 kw135 kw6 kw5 hdX4_field ⟨by decide, by decide⟩) hK hP hD hS hA hN rfl rfl (Nat.le_of_ble_eq_true rfl) dX4_followWord_101 ⟨Nat.zero_le _, Nat.zero_le _⟩ (fun r10 q10 H locs hP hD hS => ?_)
      have j10 : i12 r10 := by rw [q10]; exact (f12X a0 (0 : Int32))
      refine k0Si (As := [.int (u9.2.1), .int (r10)]) (rest := [.ref (ad 12)]) hx hb hml hown hG hl (okX4_sum l D cI cJ cP  H.size u9.2.1 r10 ) (cS 2 hG kw34 kw89 kw35 kw5 hdX4_sum ⟨by decide, by decide⟩) hK hP hD hS hA hN rfl rfl (Nat.le_of_ble_eq_true rfl) dX4_followWord_104 ⟨Nat.zero_le _, Nat.zero_le _⟩ (fun r11 q11 H locs hP hD hS => ?_)
      have j11 : i12 r11 := by rw [q11]; exact (sumX u9.2.1 r10)
      refine pu (D := D) (ci := 2) (v := .int (r11)) (ty := .int) (W' := (wR cI cJ cP ad (x.1, x.2.1, x.2.2.1, x.2.2.2.1, x.2.2.2.2.1, (u9.1, r11, u9.2.2), x.2.2.2.2.2.2.1, x.2.2.2.2.2.2.2))) hx hb hG inX2 tyX2 tyokX2 nmX2 hown hK hP hD hS 12 rfl rfl 1 (by decide) (hG _ kw88) (fun _ h9 => h9) rfl (by decide +kernel) rfl rfl (Nat.le_of_ble_eq_true rfl) dX4_followWord_107 rfl (fun H locs hP hD hS => ?_)
      refine lv_goto (tgt := 115) hx hb dX4_followWord_110 (by decide) ?_
      refine lv_aload_n hx hb dX4_followWord_115 rfl (lv_at hl 1 rfl) ?_
      refine va_get (D := D) (ci := 4) (v := .ref (ad 12)) hx hb hG inX4 hown hK hP 0 rfl rfl 6 (by decide) (hG _ kw124) (fun _ h9 => h9) rfl dX4_followWord_116 ?_
      refine lv_iload_n hx hb dX4_followWord_119 rfl (lv_at hl 0 rfl) ?_
      refine lv_aload_n hx hb dX4_followWord_120 rfl (lv_at hl 1 rfl) ?_
      refine va_get (D := D) (ci := 4) (v := .ref (ad 12)) hx hb hG inX4 hown hK hP 0 rfl rfl 6 (by decide) (hG _ kw124) (fun _ h9 => h9) rfl dX4_followWord_121 ?_
      refine va_get (D := D) (ci := 2) (v := .int (u9.2.2)) hx hb hG inX2 hown hK hP 12 rfl rfl 2 (by decide) (hG _ kw119) (fun _ h9 => h9) rfl dX4_followWord_124 ?_
      refine va_mmax hx hb (hml.trans hl.1.symm) hown (hG _ kw150) (hG _ kw151) (hG _ kw152) (hG _ kw153) (by decide) (Nat.le_of_ble_eq_true rfl) (Nat.zero_le _) (Nat.zero_le _) dX4_followWord_127 ?_
      refine pu (D := D) (ci := 2) (v := .int ((if x.2.2.2.2.2.1.2.2 < u9.2.2 then u9.2.2 else x.2.2.2.2.2.1.2.2))) (ty := .int) (W' := (wR cI cJ cP ad (x.1, x.2.1, x.2.2.1, x.2.2.2.1, x.2.2.2.2.1, (u9.1, r11, (if x.2.2.2.2.2.1.2.2 < u9.2.2 then u9.2.2 else x.2.2.2.2.2.1.2.2)), x.2.2.2.2.2.2.1, x.2.2.2.2.2.2.2))) hx hb hG inX2 tyX2 tyokX2 nmX2 hown hK hP hD hS 12 rfl rfl 2 (by decide) (hG _ kw119) (fun _ h9 => h9) rfl (by decide +kernel) rfl rfl (Nat.le_of_ble_eq_true rfl) dX4_followWord_130 rfl (fun H locs hP hD hS => ?_)
      refine lv_iconst (v := 1) hx hb dX4_followWord_133 (by decide) ?_
      exact retz (u := (x.1, x.2.1, x.2.2.1, x.2.2.2.1, x.2.2.2.2.1, (u9.1, r11, (if x.2.2.2.2.2.1.2.2 < u9.2.2 then u9.2.2 else x.2.2.2.2.2.1.2.2)), x.2.2.2.2.2.2.1, x.2.2.2.2.2.2.2)) hx hb hr hlocks (by decide) hK hP hD hS dX4_followWord_134 (by unfold fnX4_followWord; rw [← q1]; (try dsimp only); rw [if_neg h2]; rw [if_neg h4]; rw [if_pos h6]; rw [← q7]; (try dsimp only); rw [if_pos h8]; rw [← q9]; (try dsimp only); rw [← q10]; (try dsimp only); rw [← q11]; (try dsimp only); (try exact rfl))
    by_cases h12 : r7 = (1 : Int32)
    · refine gq (D := D) (j := 1) (x := ad 16) hx hb hK hP 14 2 rfl rfl (by rw [h12]; exact inL (by decide)) (by rw [h12]; decide) rfl dX4_followWord_82 ?_
      refine kVv (As := [.ref (ad 16)]) (rest := []) (W' := (fun u13 => (wR cI cJ cP ad (x.1, x.2.1, x.2.2.1, x.2.2.2.1, x.2.2.2.2.1, u13, x.2.2.2.2.2.2.1, x.2.2.2.2.2.2.2)))) hx hb hml hown hG hl (okX2_become l D cI cJ cP (ad 12) (ad 16) H.size x.2.2.2.2.2.1 x.2.2.2.1.2.1 hI.2.2.2.2.2.1 hI.2.2.2.1.2.1) (cV 1 hG kw98 kw100 kw101 kw102 kw99 hdX2_become ⟨by decide, by decide⟩) 12 2 rfl rfl hK hP hD hS hA hN [12, 16] rfl rfl rfl (fun _ => rfl) (fun _ => rfl) rfl rfl (Nat.le_of_ble_eq_true rfl) dX4_followWord_83 ⟨Nat.zero_le _, Nat.zero_le _⟩ (fun u13 q13 H locs hP hD hS => ?_)
      have j13 : ivX2_becomeP u13 := by rw [q13]; exact ivX2_become x.2.2.2.2.2.1 x.2.2.2.1.2.1 hI.2.2.2.2.2.1 hI.2.2.2.1.2.1
      refine lv_aload_n hx hb dX4_followWord_86 rfl (lv_at hl 1 rfl) ?_
      refine va_get (D := D) (ci := 4) (v := .ref (ad 12)) hx hb hG inX4 hown hK hP 0 rfl rfl 6 (by decide) (hG _ kw124) (fun _ h9 => h9) rfl dX4_followWord_87 ?_
      refine lv_aload_n hx hb dX4_followWord_90 rfl (lv_at hl 1 rfl) ?_
      refine va_get (D := D) (ci := 4) (v := .ref (ad 12)) hx hb hG inX4 hown hK hP 0 rfl rfl 6 (by decide) (hG _ kw124) (fun _ h9 => h9) rfl dX4_followWord_91 ?_
      refine va_get (D := D) (ci := 2) (v := .int (u13.2.1)) hx hb hG inX2 hown hK hP 12 rfl rfl 1 (by decide) (hG _ kw88) (fun _ h9 => h9) rfl dX4_followWord_94 ?_
      refine lv_lload_n hx hb dX4_followWord_97 rfl (lv_at hl 2 rfl) ?_
      refine lv_iconst (v := 0) hx hb dX4_followWord_98 (by decide) ?_
      refine lv_bipush (v := 12) hx hb dX4_followWord_99 (by decide) ?_
      refine k0Si (As := [.long (a0), .int ((0 : Int32)), .int ((12 : Int32))]) (rest := [.int (u13.2.1), .ref (ad 12)]) hx hb hml hown hG hl (okX4_field l D cI cJ cP  H.size a0 (0 : Int32) (12 : Int32) ) (cS 3 hG kw4 kw135 kw6 kw5 hdX4_field ⟨by decide, by decide⟩) hK hP hD hS hA hN rfl rfl (Nat.le_of_ble_eq_true rfl) dX4_followWord_101 ⟨Nat.zero_le _, Nat.zero_le _⟩ (fun r14 q14 H locs hP hD hS => ?_)
      have j14 : i12 r14 := by rw [q14]; exact (f12X a0 (0 : Int32))
      refine k0Si (As := [.int (u13.2.1), .int (r14)]) (rest := [.ref (ad 12)]) hx hb hml hown hG hl (okX4_sum l D cI cJ cP  H.size u13.2.1 r14 ) (cS 2 hG kw34 kw89 kw35 kw5 hdX4_sum ⟨by decide, by decide⟩) hK hP hD hS hA hN rfl rfl (Nat.le_of_ble_eq_true rfl) dX4_followWord_104 ⟨Nat.zero_le _, Nat.zero_le _⟩ (fun r15 q15 H locs hP hD hS => ?_)
      have j15 : i12 r15 := by rw [q15]; exact (sumX u13.2.1 r14)
      refine pu (D := D) (ci := 2) (v := .int (r15)) (ty := .int) (W' := (wR cI cJ cP ad (x.1, x.2.1, x.2.2.1, x.2.2.2.1, x.2.2.2.2.1, (u13.1, r15, u13.2.2), x.2.2.2.2.2.2.1, x.2.2.2.2.2.2.2))) hx hb hG inX2 tyX2 tyokX2 nmX2 hown hK hP hD hS 12 rfl rfl 1 (by decide) (hG _ kw88) (fun _ h9 => h9) rfl (by decide +kernel) rfl rfl (Nat.le_of_ble_eq_true rfl) dX4_followWord_107 rfl (fun H locs hP hD hS => ?_)
      refine lv_goto (tgt := 115) hx hb dX4_followWord_110 (by decide) ?_
      refine lv_aload_n hx hb dX4_followWord_115 rfl (lv_at hl 1 rfl) ?_
      refine va_get (D := D) (ci := 4) (v := .ref (ad 12)) hx hb hG inX4 hown hK hP 0 rfl rfl 6 (by decide) (hG _ kw124) (fun _ h9 => h9) rfl dX4_followWord_116 ?_
      refine lv_iload_n hx hb dX4_followWord_119 rfl (lv_at hl 0 rfl) ?_
      refine lv_aload_n hx hb dX4_followWord_120 rfl (lv_at hl 1 rfl) ?_
      refine va_get (D := D) (ci := 4) (v := .ref (ad 12)) hx hb hG inX4 hown hK hP 0 rfl rfl 6 (by decide) (hG _ kw124) (fun _ h9 => h9) rfl dX4_followWord_121 ?_
      refine va_get (D := D) (ci := 2) (v := .int (u13.2.2)) hx hb hG inX2 hown hK hP 12 rfl rfl 2 (by decide) (hG _ kw119) (fun _ h9 => h9) rfl dX4_followWord_124 ?_
      refine va_mmax hx hb (hml.trans hl.1.symm) hown (hG _ kw150) (hG _ kw151) (hG _ kw152) (hG _ kw153) (by decide) (Nat.le_of_ble_eq_true rfl) (Nat.zero_le _) (Nat.zero_le _) dX4_followWord_127 ?_
      refine pu (D := D) (ci := 2) (v := .int ((if x.2.2.2.2.2.1.2.2 < u13.2.2 then u13.2.2 else x.2.2.2.2.2.1.2.2))) (ty := .int) (W' := (wR cI cJ cP ad (x.1, x.2.1, x.2.2.1, x.2.2.2.1, x.2.2.2.2.1, (u13.1, r15, (if x.2.2.2.2.2.1.2.2 < u13.2.2 then u13.2.2 else x.2.2.2.2.2.1.2.2)), x.2.2.2.2.2.2.1, x.2.2.2.2.2.2.2))) hx hb hG inX2 tyX2 tyokX2 nmX2 hown hK hP hD hS 12 rfl rfl 2 (by decide) (hG _ kw119) (fun _ h9 => h9) rfl (by decide +kernel) rfl rfl (Nat.le_of_ble_eq_true rfl) dX4_followWord_130 rfl (fun H locs hP hD hS => ?_)
      refine lv_iconst (v := 1) hx hb dX4_followWord_133 (by decide) ?_
      exact retz (u := (x.1, x.2.1, x.2.2.1, x.2.2.2.1, x.2.2.2.2.1, (u13.1, r15, (if x.2.2.2.2.2.1.2.2 < u13.2.2 then u13.2.2 else x.2.2.2.2.2.1.2.2)), x.2.2.2.2.2.2.1, x.2.2.2.2.2.2.2)) hx hb hr hlocks (by decide) hK hP hD hS dX4_followWord_134 (by unfold fnX4_followWord; rw [← q1]; (try dsimp only); rw [if_neg h2]; rw [if_neg h4]; rw [if_pos h6]; rw [← q7]; (try dsimp only); rw [if_neg h8]; rw [if_pos h12]; rw [← q13]; (try dsimp only); rw [← q14]; (try dsimp only); rw [← q15]; (try dsimp only); (try exact rfl))
    by_cases h16 : r7 = (2 : Int32)
    · refine gq (D := D) (j := 2) (x := ad 17) hx hb hK hP 14 2 rfl rfl (by rw [h16]; exact inL (by decide)) (by rw [h16]; decide) rfl dX4_followWord_82 ?_
      refine kVv (As := [.ref (ad 17)]) (rest := []) (W' := (fun u17 => (wR cI cJ cP ad (x.1, x.2.1, x.2.2.1, x.2.2.2.1, x.2.2.2.2.1, u17, x.2.2.2.2.2.2.1, x.2.2.2.2.2.2.2)))) hx hb hml hown hG hl (okX2_become l D cI cJ cP (ad 12) (ad 17) H.size x.2.2.2.2.2.1 x.2.2.2.1.2.2.1 hI.2.2.2.2.2.1 hI.2.2.2.1.2.2.1) (cV 1 hG kw98 kw100 kw101 kw102 kw99 hdX2_become ⟨by decide, by decide⟩) 12 2 rfl rfl hK hP hD hS hA hN [12, 17] rfl rfl rfl (fun _ => rfl) (fun _ => rfl) rfl rfl (Nat.le_of_ble_eq_true rfl) dX4_followWord_83 ⟨Nat.zero_le _, Nat.zero_le _⟩ (fun u17 q17 H locs hP hD hS => ?_)
      have j17 : ivX2_becomeP u17 := by rw [q17]; exact ivX2_become x.2.2.2.2.2.1 x.2.2.2.1.2.2.1 hI.2.2.2.2.2.1 hI.2.2.2.1.2.2.1
      refine lv_aload_n hx hb dX4_followWord_86 rfl (lv_at hl 1 rfl) ?_
      refine va_get (D := D) (ci := 4) (v := .ref (ad 12)) hx hb hG inX4 hown hK hP 0 rfl rfl 6 (by decide) (hG _ kw124) (fun _ h9 => h9) rfl dX4_followWord_87 ?_
      refine lv_aload_n hx hb dX4_followWord_90 rfl (lv_at hl 1 rfl) ?_
      refine va_get (D := D) (ci := 4) (v := .ref (ad 12)) hx hb hG inX4 hown hK hP 0 rfl rfl 6 (by decide) (hG _ kw124) (fun _ h9 => h9) rfl dX4_followWord_91 ?_
      refine va_get (D := D) (ci := 2) (v := .int (u17.2.1)) hx hb hG inX2 hown hK hP 12 rfl rfl 1 (by decide) (hG _ kw88) (fun _ h9 => h9) rfl dX4_followWord_94 ?_
      refine lv_lload_n hx hb dX4_followWord_97 rfl (lv_at hl 2 rfl) ?_
      refine lv_iconst (v := 0) hx hb dX4_followWord_98 (by decide) ?_
      refine lv_bipush (v := 12) hx hb dX4_followWord_99 (by decide) ?_
      refine k0Si (As := [.long (a0), .int ((0 : Int32)), .int ((12 : Int32))]) (rest := [.int (u17.2.1), .ref (ad 12)]) hx hb hml hown hG hl (okX4_field l D cI cJ cP  H.size a0 (0 : Int32) (12 : Int32) ) (cS 3 hG kw4 kw135 kw6 kw5 hdX4_field ⟨by decide, by decide⟩) hK hP hD hS hA hN rfl rfl (Nat.le_of_ble_eq_true rfl) dX4_followWord_101 ⟨Nat.zero_le _, Nat.zero_le _⟩ (fun r18 q18 H locs hP hD hS => ?_)
      have j18 : i12 r18 := by rw [q18]; exact (f12X a0 (0 : Int32))
      refine k0Si (As := [.int (u17.2.1), .int (r18)]) (rest := [.ref (ad 12)]) hx hb hml hown hG hl (okX4_sum l D cI cJ cP  H.size u17.2.1 r18 ) (cS 2 hG kw34 kw89 kw35 kw5 hdX4_sum ⟨by decide, by decide⟩) hK hP hD hS hA hN rfl rfl (Nat.le_of_ble_eq_true rfl) dX4_followWord_104 ⟨Nat.zero_le _, Nat.zero_le _⟩ (fun r19 q19 H locs hP hD hS => ?_)
      have j19 : i12 r19 := by rw [q19]; exact (sumX u17.2.1 r18)
      refine pu (D := D) (ci := 2) (v := .int (r19)) (ty := .int) (W' := (wR cI cJ cP ad (x.1, x.2.1, x.2.2.1, x.2.2.2.1, x.2.2.2.2.1, (u17.1, r19, u17.2.2), x.2.2.2.2.2.2.1, x.2.2.2.2.2.2.2))) hx hb hG inX2 tyX2 tyokX2 nmX2 hown hK hP hD hS 12 rfl rfl 1 (by decide) (hG _ kw88) (fun _ h9 => h9) rfl (by decide +kernel) rfl rfl (Nat.le_of_ble_eq_true rfl) dX4_followWord_107 rfl (fun H locs hP hD hS => ?_)
      refine lv_goto (tgt := 115) hx hb dX4_followWord_110 (by decide) ?_
      refine lv_aload_n hx hb dX4_followWord_115 rfl (lv_at hl 1 rfl) ?_
      refine va_get (D := D) (ci := 4) (v := .ref (ad 12)) hx hb hG inX4 hown hK hP 0 rfl rfl 6 (by decide) (hG _ kw124) (fun _ h9 => h9) rfl dX4_followWord_116 ?_
      refine lv_iload_n hx hb dX4_followWord_119 rfl (lv_at hl 0 rfl) ?_
      refine lv_aload_n hx hb dX4_followWord_120 rfl (lv_at hl 1 rfl) ?_
      refine va_get (D := D) (ci := 4) (v := .ref (ad 12)) hx hb hG inX4 hown hK hP 0 rfl rfl 6 (by decide) (hG _ kw124) (fun _ h9 => h9) rfl dX4_followWord_121 ?_
      refine va_get (D := D) (ci := 2) (v := .int (u17.2.2)) hx hb hG inX2 hown hK hP 12 rfl rfl 2 (by decide) (hG _ kw119) (fun _ h9 => h9) rfl dX4_followWord_124 ?_
      refine va_mmax hx hb (hml.trans hl.1.symm) hown (hG _ kw150) (hG _ kw151) (hG _ kw152) (hG _ kw153) (by decide) (Nat.le_of_ble_eq_true rfl) (Nat.zero_le _) (Nat.zero_le _) dX4_followWord_127 ?_
      refine pu (D := D) (ci := 2) (v := .int ((if x.2.2.2.2.2.1.2.2 < u17.2.2 then u17.2.2 else x.2.2.2.2.2.1.2.2))) (ty := .int) (W' := (wR cI cJ cP ad (x.1, x.2.1, x.2.2.1, x.2.2.2.1, x.2.2.2.2.1, (u17.1, r19, (if x.2.2.2.2.2.1.2.2 < u17.2.2 then u17.2.2 else x.2.2.2.2.2.1.2.2)), x.2.2.2.2.2.2.1, x.2.2.2.2.2.2.2))) hx hb hG inX2 tyX2 tyokX2 nmX2 hown hK hP hD hS 12 rfl rfl 2 (by decide) (hG _ kw119) (fun _ h9 => h9) rfl (by decide +kernel) rfl rfl (Nat.le_of_ble_eq_true rfl) dX4_followWord_130 rfl (fun H locs hP hD hS => ?_)
      refine lv_iconst (v := 1) hx hb dX4_followWord_133 (by decide) ?_
      exact retz (u := (x.1, x.2.1, x.2.2.1, x.2.2.2.1, x.2.2.2.2.1, (u17.1, r19, (if x.2.2.2.2.2.1.2.2 < u17.2.2 then u17.2.2 else x.2.2.2.2.2.1.2.2)), x.2.2.2.2.2.2.1, x.2.2.2.2.2.2.2)) hx hb hr hlocks (by decide) hK hP hD hS dX4_followWord_134 (by unfold fnX4_followWord; rw [← q1]; (try dsimp only); rw [if_neg h2]; rw [if_neg h4]; rw [if_pos h6]; rw [← q7]; (try dsimp only); rw [if_neg h8]; rw [if_neg h12]; rw [if_pos h16]; rw [← q17]; (try dsimp only); rw [← q18]; (try dsimp only); rw [← q19]; (try dsimp only); (try exact rfl))
    have h20 : r7 = (3 : Int32) := c4l j7 h8 h12 h16
    refine gq (D := D) (j := 3) (x := ad 18) hx hb hK hP 14 2 rfl rfl (by rw [h20]; exact inL (by decide)) (by rw [h20]; decide) rfl dX4_followWord_82 ?_
    refine kVv (As := [.ref (ad 18)]) (rest := []) (W' := (fun u21 => (wR cI cJ cP ad (x.1, x.2.1, x.2.2.1, x.2.2.2.1, x.2.2.2.2.1, u21, x.2.2.2.2.2.2.1, x.2.2.2.2.2.2.2)))) hx hb hml hown hG hl (okX2_become l D cI cJ cP (ad 12) (ad 18) H.size x.2.2.2.2.2.1 x.2.2.2.1.2.2.2 hI.2.2.2.2.2.1 hI.2.2.2.1.2.2.2) (cV 1 hG kw98 kw100 kw101 kw102 kw99 hdX2_become ⟨by decide, by decide⟩) 12 2 rfl rfl hK hP hD hS hA hN [12, 18] rfl rfl rfl (fun _ => rfl) (fun _ => rfl) rfl rfl (Nat.le_of_ble_eq_true rfl) dX4_followWord_83 ⟨Nat.zero_le _, Nat.zero_le _⟩ (fun u21 q21 H locs hP hD hS => ?_)
    have j21 : ivX2_becomeP u21 := by rw [q21]; exact ivX2_become x.2.2.2.2.2.1 x.2.2.2.1.2.2.2 hI.2.2.2.2.2.1 hI.2.2.2.1.2.2.2
    refine lv_aload_n hx hb dX4_followWord_86 rfl (lv_at hl 1 rfl) ?_
    refine va_get (D := D) (ci := 4) (v := .ref (ad 12)) hx hb hG inX4 hown hK hP 0 rfl rfl 6 (by decide) (hG _ kw124) (fun _ h9 => h9) rfl dX4_followWord_87 ?_
    refine lv_aload_n hx hb dX4_followWord_90 rfl (lv_at hl 1 rfl) ?_
    refine va_get (D := D) (ci := 4) (v := .ref (ad 12)) hx hb hG inX4 hown hK hP 0 rfl rfl 6 (by decide) (hG _ kw124) (fun _ h9 => h9) rfl dX4_followWord_91 ?_
    refine va_get (D := D) (ci := 2) (v := .int (u21.2.1)) hx hb hG inX2 hown hK hP 12 rfl rfl 1 (by decide) (hG _ kw88) (fun _ h9 => h9) rfl dX4_followWord_94 ?_
    refine lv_lload_n hx hb dX4_followWord_97 rfl (lv_at hl 2 rfl) ?_
    refine lv_iconst (v := 0) hx hb dX4_followWord_98 (by decide) ?_
    refine lv_bipush (v := 12) hx hb dX4_followWord_99 (by decide) ?_
    refine k0Si (As := [.long (a0), .int ((0 : Int32)), .int ((12 : Int32))]) (rest := [.int (u21.2.1), .ref (ad 12)]) hx hb hml hown hG hl (okX4_field l D cI cJ cP  H.size a0 (0 : Int32) (12 : Int32) ) (cS 3 hG kw4 kw135 kw6 kw5 hdX4_field ⟨by decide, by decide⟩) hK hP hD hS hA hN rfl rfl (Nat.le_of_ble_eq_true rfl) dX4_followWord_101 ⟨Nat.zero_le _, Nat.zero_le _⟩ (fun r22 q22 H locs hP hD hS => ?_)
    have j22 : i12 r22 := by rw [q22]; exact (f12X a0 (0 : Int32))
    refine k0Si (As := [.int (u21.2.1), .int (r22)]) (rest := [.ref (ad 12)]) hx hb hml hown hG hl (okX4_sum l D cI cJ cP  H.size u21.2.1 r22 ) (cS 2 hG kw34 kw89 kw35 kw5 hdX4_sum ⟨by decide, by decide⟩) hK hP hD hS hA hN rfl rfl (Nat.le_of_ble_eq_true rfl) dX4_followWord_104 ⟨Nat.zero_le _, Nat.zero_le _⟩ (fun r23 q23 H locs hP hD hS => ?_)
    have j23 : i12 r23 := by rw [q23]; exact (sumX u21.2.1 r22)
    refine pu (D := D) (ci := 2) (v := .int (r23)) (ty := .int) (W' := (wR cI cJ cP ad (x.1, x.2.1, x.2.2.1, x.2.2.2.1, x.2.2.2.2.1, (u21.1, r23, u21.2.2), x.2.2.2.2.2.2.1, x.2.2.2.2.2.2.2))) hx hb hG inX2 tyX2 tyokX2 nmX2 hown hK hP hD hS 12 rfl rfl 1 (by decide) (hG _ kw88) (fun _ h9 => h9) rfl (by decide +kernel) rfl rfl (Nat.le_of_ble_eq_true rfl) dX4_followWord_107 rfl (fun H locs hP hD hS => ?_)
    refine lv_goto (tgt := 115) hx hb dX4_followWord_110 (by decide) ?_
    refine lv_aload_n hx hb dX4_followWord_115 rfl (lv_at hl 1 rfl) ?_
    refine va_get (D := D) (ci := 4) (v := .ref (ad 12)) hx hb hG inX4 hown hK hP 0 rfl rfl 6 (by decide) (hG _ kw124) (fun _ h9 => h9) rfl dX4_followWord_116 ?_
    refine lv_iload_n hx hb dX4_followWord_119 rfl (lv_at hl 0 rfl) ?_
    refine lv_aload_n hx hb dX4_followWord_120 rfl (lv_at hl 1 rfl) ?_
    refine va_get (D := D) (ci := 4) (v := .ref (ad 12)) hx hb hG inX4 hown hK hP 0 rfl rfl 6 (by decide) (hG _ kw124) (fun _ h9 => h9) rfl dX4_followWord_121 ?_
    refine va_get (D := D) (ci := 2) (v := .int (u21.2.2)) hx hb hG inX2 hown hK hP 12 rfl rfl 2 (by decide) (hG _ kw119) (fun _ h9 => h9) rfl dX4_followWord_124 ?_
    refine va_mmax hx hb (hml.trans hl.1.symm) hown (hG _ kw150) (hG _ kw151) (hG _ kw152) (hG _ kw153) (by decide) (Nat.le_of_ble_eq_true rfl) (Nat.zero_le _) (Nat.zero_le _) dX4_followWord_127 ?_
    refine pu (D := D) (ci := 2) (v := .int ((if x.2.2.2.2.2.1.2.2 < u21.2.2 then u21.2.2 else x.2.2.2.2.2.1.2.2))) (ty := .int) (W' := (wR cI cJ cP ad (x.1, x.2.1, x.2.2.1, x.2.2.2.1, x.2.2.2.2.1, (u21.1, r23, (if x.2.2.2.2.2.1.2.2 < u21.2.2 then u21.2.2 else x.2.2.2.2.2.1.2.2)), x.2.2.2.2.2.2.1, x.2.2.2.2.2.2.2))) hx hb hG inX2 tyX2 tyokX2 nmX2 hown hK hP hD hS 12 rfl rfl 2 (by decide) (hG _ kw119) (fun _ h9 => h9) rfl (by decide +kernel) rfl rfl (Nat.le_of_ble_eq_true rfl) dX4_followWord_130 rfl (fun H locs hP hD hS => ?_)
    refine lv_iconst (v := 1) hx hb dX4_followWord_133 (by decide) ?_
    exact retz (u := (x.1, x.2.1, x.2.2.1, x.2.2.2.1, x.2.2.2.2.1, (u21.1, r23, (if x.2.2.2.2.2.1.2.2 < u21.2.2 then u21.2.2 else x.2.2.2.2.2.1.2.2)), x.2.2.2.2.2.2.1, x.2.2.2.2.2.2.2)) hx hb hr hlocks (by decide) hK hP hD hS dX4_followWord_134 (by unfold fnX4_followWord; rw [← q1]; (try dsimp only); rw [if_neg h2]; rw [if_neg h4]; rw [if_pos h6]; rw [← q7]; (try dsimp only); rw [if_neg h8]; rw [if_neg h12]; rw [if_neg h16]; rw [← q21]; (try dsimp only); rw [← q22]; (try dsimp only); rw [← q23]; (try dsimp only); (try exact rfl))
  refine lv_tableOut (tgt := 113) hx hb dX4_followWord_15 (by have a0 := neI (n := 0) h2 (by decide); have a1 := neI (n := 1) h4 (by decide); have a2 := neI (n := 2) h6 (by decide); omega) (by decide) ?_
  refine lv_iconst (v := 0) hx hb dX4_followWord_113 (by decide) ?_
  exact retz (u := x) hx hb hr hlocks (by decide) hK hP hD hS dX4_followWord_114 (by unfold fnX4_followWord; rw [← q1]; (try dsimp only); rw [if_neg h2]; rw [if_neg h4]; rw [if_neg h6]; (try exact rfl))
def fnX4_startAddress (x : TR) (a0 : Int64) : TR :=
  let p1 := fnX4_field a0 (0 : Int32) (12 : Int32)
  if (a0 &&& (536870912 : Int64)) = (0 : Int64) then
   let p3 := fnX4_field a0 (24 : Int32) (2 : Int32)
   if p3 = (0 : Int32) then
    (x.1, x.2.1, x.2.2.1, x.2.2.2.1, x.2.2.2.2.1, (x.2.2.2.2.1.1, p1, x.2.2.2.2.1.2.2), x.2.2.2.2.2.2.1, x.2.2.2.2.2.2.2)
   else
    let p5 := fnX4_sum p1 (x.2.2.1 (p3).toNatClampNeg)
    (x.1, x.2.1, x.2.2.1, x.2.2.2.1, x.2.2.2.2.1, (x.2.2.2.2.1.1, p5, x.2.2.2.2.1.2.2), x.2.2.2.2.2.2.1, x.2.2.2.2.2.2.2)
  else
   let p6 := fnX4_field a0 (27 : Int32) (2 : Int32)
   if p6 = (0 : Int32) then
    let p8 := fnX4_sum x.2.2.2.1.1.2.1 p1
    let p9 := fnX4_field a0 (24 : Int32) (2 : Int32)
    if p9 = (0 : Int32) then
     (x.1, x.2.1, x.2.2.1, x.2.2.2.1, x.2.2.2.2.1, (x.2.2.2.1.1.1, p8, (if x.2.2.2.2.1.2.2 < x.2.2.2.1.1.2.2 then x.2.2.2.1.1.2.2 else x.2.2.2.2.1.2.2)), x.2.2.2.2.2.2.1, x.2.2.2.2.2.2.2)
    else
     let p11 := fnX4_sum p8 (x.2.2.1 (p9).toNatClampNeg)
     (x.1, x.2.1, x.2.2.1, x.2.2.2.1, x.2.2.2.2.1, (x.2.2.2.1.1.1, p11, (if x.2.2.2.2.1.2.2 < x.2.2.2.1.1.2.2 then x.2.2.2.1.1.2.2 else x.2.2.2.2.1.2.2)), x.2.2.2.2.2.2.1, x.2.2.2.2.2.2.2)
   else
    if p6 = (1 : Int32) then
     let p13 := fnX4_sum x.2.2.2.1.2.1.2.1 p1
     let p14 := fnX4_field a0 (24 : Int32) (2 : Int32)
     if p14 = (0 : Int32) then
      (x.1, x.2.1, x.2.2.1, x.2.2.2.1, x.2.2.2.2.1, (x.2.2.2.1.2.1.1, p13, (if x.2.2.2.2.1.2.2 < x.2.2.2.1.2.1.2.2 then x.2.2.2.1.2.1.2.2 else x.2.2.2.2.1.2.2)), x.2.2.2.2.2.2.1, x.2.2.2.2.2.2.2)
     else
      let p16 := fnX4_sum p13 (x.2.2.1 (p14).toNatClampNeg)
      (x.1, x.2.1, x.2.2.1, x.2.2.2.1, x.2.2.2.2.1, (x.2.2.2.1.2.1.1, p16, (if x.2.2.2.2.1.2.2 < x.2.2.2.1.2.1.2.2 then x.2.2.2.1.2.1.2.2 else x.2.2.2.2.1.2.2)), x.2.2.2.2.2.2.1, x.2.2.2.2.2.2.2)
    else
     if p6 = (2 : Int32) then
      let p18 := fnX4_sum x.2.2.2.1.2.2.1.2.1 p1
      let p19 := fnX4_field a0 (24 : Int32) (2 : Int32)
      if p19 = (0 : Int32) then
       (x.1, x.2.1, x.2.2.1, x.2.2.2.1, x.2.2.2.2.1, (x.2.2.2.1.2.2.1.1, p18, (if x.2.2.2.2.1.2.2 < x.2.2.2.1.2.2.1.2.2 then x.2.2.2.1.2.2.1.2.2 else x.2.2.2.2.1.2.2)), x.2.2.2.2.2.2.1, x.2.2.2.2.2.2.2)
      else
       let p21 := fnX4_sum p18 (x.2.2.1 (p19).toNatClampNeg)
       (x.1, x.2.1, x.2.2.1, x.2.2.2.1, x.2.2.2.2.1, (x.2.2.2.1.2.2.1.1, p21, (if x.2.2.2.2.1.2.2 < x.2.2.2.1.2.2.1.2.2 then x.2.2.2.1.2.2.1.2.2 else x.2.2.2.2.1.2.2)), x.2.2.2.2.2.2.1, x.2.2.2.2.2.2.2)
     else
      let p23 := fnX4_sum x.2.2.2.1.2.2.2.2.1 p1
      let p24 := fnX4_field a0 (24 : Int32) (2 : Int32)
      if p24 = (0 : Int32) then
       (x.1, x.2.1, x.2.2.1, x.2.2.2.1, x.2.2.2.2.1, (x.2.2.2.1.2.2.2.1, p23, (if x.2.2.2.2.1.2.2 < x.2.2.2.1.2.2.2.2.2 then x.2.2.2.1.2.2.2.2.2 else x.2.2.2.2.1.2.2)), x.2.2.2.2.2.2.1, x.2.2.2.2.2.2.2)
      else
       let p26 := fnX4_sum p23 (x.2.2.1 (p24).toNatClampNeg)
       (x.1, x.2.1, x.2.2.1, x.2.2.2.1, x.2.2.2.2.1, (x.2.2.2.1.2.2.2.1, p26, (if x.2.2.2.2.1.2.2 < x.2.2.2.1.2.2.2.2.2 then x.2.2.2.1.2.2.2.2.2 else x.2.2.2.2.1.2.2)), x.2.2.2.2.2.2.1, x.2.2.2.2.2.2.2)
abbrev ivX4_startAddressP (z : TR) : Prop := iR z
set_option maxRecDepth 100000 in
set_option maxHeartbeats 4000000 in
theorem ivX4_startAddress (x : TR) (a0 : Int64) (hI : iR x) : ivX4_startAddressP (fnX4_startAddress x a0) := by
  unfold fnX4_startAddress
  try dsimp only
  have j1 : i12 (fnX4_field a0 (0 : Int32) (12 : Int32)) := (f12X a0 (0 : Int32))
  generalize fnX4_field a0 (0 : Int32) (12 : Int32) = p1 at j1 ⊢
  refine iteI (fun h2 => ?_) (fun h2 => ?_)
  · have j3 : i2 (fnX4_field a0 (24 : Int32) (2 : Int32)) := (f2X a0 (24 : Int32))
    generalize fnX4_field a0 (24 : Int32) (2 : Int32) = p3 at j3 ⊢
    refine iteI (fun h4 => ?_) (fun h4 => ?_)
    · exact ⟨hI.1, hI.2.1, hI.2.2.1, hI.2.2.2.1, hI.2.2.2.2.1, ⟨hI.2.2.2.2.1.1, j1, hI.2.2.2.2.1.2.2⟩, hI.2.2.2.2.2.2.1, hI.2.2.2.2.2.2.2⟩
    · have j5 : i12 (fnX4_sum p1 (x.2.2.1 (p3).toNatClampNeg)) := (sumX p1 (x.2.2.1 (p3).toNatClampNeg))
      generalize fnX4_sum p1 (x.2.2.1 (p3).toNatClampNeg) = p5 at j5 ⊢
      exact ⟨hI.1, hI.2.1, hI.2.2.1, hI.2.2.2.1, hI.2.2.2.2.1, ⟨hI.2.2.2.2.1.1, j5, hI.2.2.2.2.1.2.2⟩, hI.2.2.2.2.2.2.1, hI.2.2.2.2.2.2.2⟩
  · have j6 : i2 (fnX4_field a0 (27 : Int32) (2 : Int32)) := (f2X a0 (27 : Int32))
    generalize fnX4_field a0 (27 : Int32) (2 : Int32) = p6 at j6 ⊢
    refine iteI (fun h7 => ?_) (fun h7 => ?_)
    · have j8 : i12 (fnX4_sum x.2.2.2.1.1.2.1 p1) := (sumX x.2.2.2.1.1.2.1 p1)
      generalize fnX4_sum x.2.2.2.1.1.2.1 p1 = p8 at j8 ⊢
      have j9 : i2 (fnX4_field a0 (24 : Int32) (2 : Int32)) := (f2X a0 (24 : Int32))
      generalize fnX4_field a0 (24 : Int32) (2 : Int32) = p9 at j9 ⊢
      refine iteI (fun h10 => ?_) (fun h10 => ?_)
      · exact ⟨hI.1, hI.2.1, hI.2.2.1, hI.2.2.2.1, hI.2.2.2.2.1, ⟨hI.2.2.2.1.1.1, j8, (mx3 hI.2.2.2.2.1.2.2 hI.2.2.2.1.1.2.2)⟩, hI.2.2.2.2.2.2.1, hI.2.2.2.2.2.2.2⟩
      · have j11 : i12 (fnX4_sum p8 (x.2.2.1 (p9).toNatClampNeg)) := (sumX p8 (x.2.2.1 (p9).toNatClampNeg))
        generalize fnX4_sum p8 (x.2.2.1 (p9).toNatClampNeg) = p11 at j11 ⊢
        exact ⟨hI.1, hI.2.1, hI.2.2.1, hI.2.2.2.1, hI.2.2.2.2.1, ⟨hI.2.2.2.1.1.1, j11, (mx3 hI.2.2.2.2.1.2.2 hI.2.2.2.1.1.2.2)⟩, hI.2.2.2.2.2.2.1, hI.2.2.2.2.2.2.2⟩
    · refine iteI (fun h12 => ?_) (fun h12 => ?_)
      · have j13 : i12 (fnX4_sum x.2.2.2.1.2.1.2.1 p1) := (sumX x.2.2.2.1.2.1.2.1 p1)
        generalize fnX4_sum x.2.2.2.1.2.1.2.1 p1 = p13 at j13 ⊢
        have j14 : i2 (fnX4_field a0 (24 : Int32) (2 : Int32)) := (f2X a0 (24 : Int32))
        generalize fnX4_field a0 (24 : Int32) (2 : Int32) = p14 at j14 ⊢
        refine iteI (fun h15 => ?_) (fun h15 => ?_)
        · exact ⟨hI.1, hI.2.1, hI.2.2.1, hI.2.2.2.1, hI.2.2.2.2.1, ⟨hI.2.2.2.1.2.1.1, j13, (mx3 hI.2.2.2.2.1.2.2 hI.2.2.2.1.2.1.2.2)⟩, hI.2.2.2.2.2.2.1, hI.2.2.2.2.2.2.2⟩
        · have j16 : i12 (fnX4_sum p13 (x.2.2.1 (p14).toNatClampNeg)) := (sumX p13 (x.2.2.1 (p14).toNatClampNeg))
          generalize fnX4_sum p13 (x.2.2.1 (p14).toNatClampNeg) = p16 at j16 ⊢
          exact ⟨hI.1, hI.2.1, hI.2.2.1, hI.2.2.2.1, hI.2.2.2.2.1, ⟨hI.2.2.2.1.2.1.1, j16, (mx3 hI.2.2.2.2.1.2.2 hI.2.2.2.1.2.1.2.2)⟩, hI.2.2.2.2.2.2.1, hI.2.2.2.2.2.2.2⟩
      · refine iteI (fun h17 => ?_) (fun h17 => ?_)
        · have j18 : i12 (fnX4_sum x.2.2.2.1.2.2.1.2.1 p1) := (sumX x.2.2.2.1.2.2.1.2.1 p1)
          generalize fnX4_sum x.2.2.2.1.2.2.1.2.1 p1 = p18 at j18 ⊢
          have j19 : i2 (fnX4_field a0 (24 : Int32) (2 : Int32)) := (f2X a0 (24 : Int32))
          generalize fnX4_field a0 (24 : Int32) (2 : Int32) = p19 at j19 ⊢
          refine iteI (fun h20 => ?_) (fun h20 => ?_)
          · exact ⟨hI.1, hI.2.1, hI.2.2.1, hI.2.2.2.1, hI.2.2.2.2.1, ⟨hI.2.2.2.1.2.2.1.1, j18, (mx3 hI.2.2.2.2.1.2.2 hI.2.2.2.1.2.2.1.2.2)⟩, hI.2.2.2.2.2.2.1, hI.2.2.2.2.2.2.2⟩
          · have j21 : i12 (fnX4_sum p18 (x.2.2.1 (p19).toNatClampNeg)) := (sumX p18 (x.2.2.1 (p19).toNatClampNeg))
            generalize fnX4_sum p18 (x.2.2.1 (p19).toNatClampNeg) = p21 at j21 ⊢
            exact ⟨hI.1, hI.2.1, hI.2.2.1, hI.2.2.2.1, hI.2.2.2.2.1, ⟨hI.2.2.2.1.2.2.1.1, j21, (mx3 hI.2.2.2.2.1.2.2 hI.2.2.2.1.2.2.1.2.2)⟩, hI.2.2.2.2.2.2.1, hI.2.2.2.2.2.2.2⟩
        · have j23 : i12 (fnX4_sum x.2.2.2.1.2.2.2.2.1 p1) := (sumX x.2.2.2.1.2.2.2.2.1 p1)
          generalize fnX4_sum x.2.2.2.1.2.2.2.2.1 p1 = p23 at j23 ⊢
          have j24 : i2 (fnX4_field a0 (24 : Int32) (2 : Int32)) := (f2X a0 (24 : Int32))
          generalize fnX4_field a0 (24 : Int32) (2 : Int32) = p24 at j24 ⊢
          refine iteI (fun h25 => ?_) (fun h25 => ?_)
          · exact ⟨hI.1, hI.2.1, hI.2.2.1, hI.2.2.2.1, hI.2.2.2.2.1, ⟨hI.2.2.2.1.2.2.2.1, j23, (mx3 hI.2.2.2.2.1.2.2 hI.2.2.2.1.2.2.2.2.2)⟩, hI.2.2.2.2.2.2.1, hI.2.2.2.2.2.2.2⟩
          · have j26 : i12 (fnX4_sum p23 (x.2.2.1 (p24).toNatClampNeg)) := (sumX p23 (x.2.2.1 (p24).toNatClampNeg))
            generalize fnX4_sum p23 (x.2.2.1 (p24).toNatClampNeg) = p26 at j26 ⊢
            exact ⟨hI.1, hI.2.1, hI.2.2.1, hI.2.2.2.1, hI.2.2.2.2.1, ⟨hI.2.2.2.1.2.2.2.1, j26, (mx3 hI.2.2.2.2.1.2.2 hI.2.2.2.1.2.2.2.2.2)⟩, hI.2.2.2.2.2.2.1, hI.2.2.2.2.2.2.2⟩
set_option maxRecDepth 100000 in
set_option maxHeartbeats 4000000 in
theorem okX4_startAddress (l : Launch) (D : va_G) (cI cJ cP : ClassId) (ad : Nat → Nat) (sz : Nat) (x : TR) (a0 : Int64) (hI : iR x) : Met l yX4_startAddress (Cond.code yX4_startAddress cX4_startAddress 5 none :: gG) { frames := 1, cells := 0, slots := 0, locals := 23 } (va_Pc [.ref (ad 0), .long a0] (PRE D (tz cI cJ cP) sz (wR cI cJ cP ad x))) (va_Qv (fun (u : TR) => u = fnX4_startAddress x a0) (AT D (tz cI cJ cP) (va_A (wR cI cJ cP ad x) sz) (fun (u : TR) => (wR cI cJ cP ad u))) (va_A (wR cI cJ cP ad x) sz)) 0 0 (va_A (wR cI cJ cP ad x) sz) := by
  refine mo (QA := fun A => va_Qv (fun (u : TR) => u = fnX4_startAddress x a0) (AT D (tz cI cJ cP) A (fun (u : TR) => (wR cI cJ cP ad u))) A) (by decide) (Nat.le_of_ble_eq_true rfl) ?_
  intro p e s m below meth c A ls H hx hb hr hml hown hG hlocks hnm hA hS hP hK hD hl hN
  have hown : s.vm.findClass RX4 = some m.cls := hown
  have hl : lv_has ls 5 [(0, .ref (ad 0)), (1, .long a0)] := hl
  refine lv_lload_n hx hb dX4_startAddress_0 rfl (lv_at hl 1 rfl) ?_
  refine lv_iconst (v := 0) hx hb dX4_startAddress_1 (by decide) ?_
  refine lv_bipush (v := 12) hx hb dX4_startAddress_2 (by decide) ?_
  refine k0Si (As := [.long (a0), .int ((0 : Int32)), .int ((12 : Int32))]) (rest := []) hx hb hml hown hG hl (okX4_field l D cI cJ cP  H.size a0 (0 : Int32) (12 : Int32) ) (cS 3 hG kw4 kw135 kw6 kw5 hdX4_field ⟨by decide, by decide⟩) hK hP hD hS hA hN rfl rfl (Nat.le_of_ble_eq_true rfl) dX4_startAddress_4 ⟨Nat.zero_le _, Nat.zero_le _⟩ (fun r1 q1 H locs hP hD hS => ?_)
  have j1 : i12 r1 := by rw [q1]; exact (f12X a0 (0 : Int32))
  refine lv_istore_n (lv' := [(3, .int (r1)), (0, .ref (ad 0)), (1, .long (a0))]) hx hb dX4_startAddress_7 rfl hl (by decide) rfl (fun ls hl => ?_)
  refine lv_lload_n hx hb dX4_startAddress_8 rfl (lv_at hl 2 rfl) ?_
  refine lv_ldc2 (v := 536870912) hx hb hown (hG _ kw158) dX4_startAddress_9 ?_
  refine lv_land hx hb dX4_startAddress_12 ?_
  refine lv_lconst (v := 0) hx hb dX4_startAddress_13 (by decide) ?_
  refine lq_eq (tgt := 85) hx hb dX4_startAddress_14 dX4_startAddress_15 (by decide) (fun h2 => ?_) (fun h2 => ?_)
  · refine lv_aload_n hx hb dX4_startAddress_85 rfl (lv_at hl 1 rfl) ?_
    refine va_get (D := D) (ci := 4) (v := .ref (ad 12)) hx hb hG inX4 hown hK hP 0 rfl rfl 6 (by decide) (hG _ kw124) (fun _ h9 => h9) rfl dX4_startAddress_86 ?_
    refine lv_aload_n hx hb dX4_startAddress_89 rfl (lv_at hl 1 rfl) ?_
    refine va_get (D := D) (ci := 4) (v := .ref (ad 19)) hx hb hG inX4 hown hK hP 0 rfl rfl 5 (by decide) (hG _ kw87) (fun _ h9 => h9) rfl dX4_startAddress_90 ?_
    refine va_get (D := D) (ci := 2) (v := .int (x.2.2.2.2.1.1)) hx hb hG inX2 hown hK hP 19 rfl rfl 0 (by decide) (hG _ kw141) (fun _ h9 => h9) rfl dX4_startAddress_93 ?_
    refine pu (D := D) (ci := 2) (v := .int (x.2.2.2.2.1.1)) (ty := .int) (W' := (wR cI cJ cP ad (x.1, x.2.1, x.2.2.1, x.2.2.2.1, x.2.2.2.2.1, (x.2.2.2.2.1.1, x.2.2.2.2.2.1.2.1, x.2.2.2.2.2.1.2.2), x.2.2.2.2.2.2.1, x.2.2.2.2.2.2.2))) hx hb hG inX2 tyX2 tyokX2 nmX2 hown hK hP hD hS 12 rfl rfl 0 (by decide) (hG _ kw141) (fun _ h9 => h9) rfl (by decide +kernel) rfl rfl (Nat.le_of_ble_eq_true rfl) dX4_startAddress_96 rfl (fun H locs hP hD hS => ?_)
    refine lv_aload_n hx hb dX4_startAddress_99 rfl (lv_at hl 1 rfl) ?_
    refine va_get (D := D) (ci := 4) (v := .ref (ad 12)) hx hb hG inX4 hown hK hP 0 rfl rfl 6 (by decide) (hG _ kw124) (fun _ h9 => h9) rfl dX4_startAddress_100 ?_
    refine lv_iload_n hx hb dX4_startAddress_103 rfl (lv_at hl 0 rfl) ?_
    refine pu (D := D) (ci := 2) (v := .int (r1)) (ty := .int) (W' := (wR cI cJ cP ad (x.1, x.2.1, x.2.2.1, x.2.2.2.1, x.2.2.2.2.1, (x.2.2.2.2.1.1, r1, x.2.2.2.2.2.1.2.2), x.2.2.2.2.2.2.1, x.2.2.2.2.2.2.2))) hx hb hG inX2 tyX2 tyokX2 nmX2 hown hK hP hD hS 12 rfl rfl 1 (by decide) (hG _ kw88) (fun _ h9 => h9) rfl (by decide +kernel) rfl rfl (Nat.le_of_ble_eq_true rfl) dX4_startAddress_104 rfl (fun H locs hP hD hS => ?_)
    refine lv_aload_n hx hb dX4_startAddress_107 rfl (lv_at hl 1 rfl) ?_
    refine va_get (D := D) (ci := 4) (v := .ref (ad 12)) hx hb hG inX4 hown hK hP 0 rfl rfl 6 (by decide) (hG _ kw124) (fun _ h9 => h9) rfl dX4_startAddress_108 ?_
    refine lv_aload_n hx hb dX4_startAddress_111 rfl (lv_at hl 1 rfl) ?_
    refine va_get (D := D) (ci := 4) (v := .ref (ad 19)) hx hb hG inX4 hown hK hP 0 rfl rfl 5 (by decide) (hG _ kw87) (fun _ h9 => h9) rfl dX4_startAddress_112 ?_
    refine va_get (D := D) (ci := 2) (v := .int (x.2.2.2.2.1.2.2)) hx hb hG inX2 hown hK hP 19 rfl rfl 2 (by decide) (hG _ kw119) (fun _ h9 => h9) rfl dX4_startAddress_115 ?_
    refine pu (D := D) (ci := 2) (v := .int (x.2.2.2.2.1.2.2)) (ty := .int) (W' := (wR cI cJ cP ad (x.1, x.2.1, x.2.2.1, x.2.2.2.1, x.2.2.2.2.1, (x.2.2.2.2.1.1, r1, x.2.2.2.2.1.2.2), x.2.2.2.2.2.2.1, x.2.2.2.2.2.2.2))) hx hb hG inX2 tyX2 tyokX2 nmX2 hown hK hP hD hS 12 rfl rfl 2 (by decide) (hG _ kw119) (fun _ h9 => h9) rfl (by decide +kernel) rfl rfl (Nat.le_of_ble_eq_true rfl) dX4_startAddress_118 rfl (fun H locs hP hD hS => ?_)
    refine lv_lload_n hx hb dX4_startAddress_121 rfl (lv_at hl 2 rfl) ?_
    refine lv_bipush (v := 24) hx hb dX4_startAddress_122 (by decide) ?_
    refine lv_iconst (v := 2) hx hb dX4_startAddress_124 (by decide) ?_
    refine k0Si (As := [.long (a0), .int ((24 : Int32)), .int ((2 : Int32))]) (rest := []) hx hb hml hown hG hl (okX4_field l D cI cJ cP  H.size a0 (24 : Int32) (2 : Int32) ) (cS 3 hG kw4 kw135 kw6 kw5 hdX4_field ⟨by decide, by decide⟩) hK hP hD hS hA hN rfl rfl (Nat.le_of_ble_eq_true rfl) dX4_startAddress_125 ⟨Nat.zero_le _, Nat.zero_le _⟩ (fun r3 q3 H locs hP hD hS => ?_)
    have j3 : i2 r3 := by rw [q3]; exact (f2X a0 (24 : Int32))
    refine lv_istore (lv' := [(4, .int (r3)), (3, .int (r1)), (0, .ref (ad 0)), (1, .long (a0))]) hx hb dX4_startAddress_128 hl (by decide) rfl (fun ls hl => ?_)
    refine lv_iload hx hb dX4_startAddress_130 (lv_at hl 0 rfl) ?_
    refine lv_if_eq (tgt := 159) hx hb dX4_startAddress_132 (by decide) (fun h4 => ?_) (fun h4 => ?_)
    · exact retv (u := (x.1, x.2.1, x.2.2.1, x.2.2.2.1, x.2.2.2.2.1, (x.2.2.2.2.1.1, r1, x.2.2.2.2.1.2.2), x.2.2.2.2.2.2.1, x.2.2.2.2.2.2.2)) hx hb hr hlocks hK hP hD hS dX4_startAddress_159 (by unfold fnX4_startAddress; rw [← q1]; (try dsimp only); rw [if_pos h2]; rw [← q3]; (try dsimp only); rw [if_pos h4]; (try exact rfl))
    · refine lv_aload_n hx hb dX4_startAddress_135 rfl (lv_at hl 2 rfl) ?_
      refine va_get (D := D) (ci := 4) (v := .ref (ad 12)) hx hb hG inX4 hown hK hP 0 rfl rfl 6 (by decide) (hG _ kw124) (fun _ h9 => h9) rfl dX4_startAddress_136 ?_
      refine lv_aload_n hx hb dX4_startAddress_139 rfl (lv_at hl 2 rfl) ?_
      refine va_get (D := D) (ci := 4) (v := .ref (ad 12)) hx hb hG inX4 hown hK hP 0 rfl rfl 6 (by decide) (hG _ kw124) (fun _ h9 => h9) rfl dX4_startAddress_140 ?_
      refine va_get (D := D) (ci := 2) (v := .int (r1)) hx hb hG inX2 hown hK hP 12 rfl rfl 1 (by decide) (hG _ kw88) (fun _ h9 => h9) rfl dX4_startAddress_143 ?_
      refine lv_aload_n hx hb dX4_startAddress_146 rfl (lv_at hl 2 rfl) ?_
      refine va_get (D := D) (ci := 4) (v := .ref (ad 13)) hx hb hG inX4 hown hK hP 0 rfl rfl 3 (by decide) (hG _ kw134) (fun _ h9 => h9) rfl dX4_startAddress_147 ?_
      refine lv_iload hx hb dX4_startAddress_150 (lv_at hl 0 rfl) ?_
      refine gi (D := D) (j := (r3).toNatClampNeg) (f := x.2.2.1) hx hb hK hP 13 0 rfl rfl (in2 j3) rfl dX4_startAddress_152 ?_
      refine k0Si (As := [.int (r1), .int ((x.2.2.1 (r3).toNatClampNeg))]) (rest := [.ref (ad 12)]) hx hb hml hown hG hl (okX4_sum l D cI cJ cP  H.size r1 (x.2.2.1 (r3).toNatClampNeg) ) (cS 2 hG kw34 kw89 kw35 kw5 hdX4_sum ⟨by decide, by decide⟩) hK hP hD hS hA hN rfl rfl (Nat.le_of_ble_eq_true rfl) dX4_startAddress_153 ⟨Nat.zero_le _, Nat.zero_le _⟩ (fun r5 q5 H locs hP hD hS => ?_)
      have j5 : i12 r5 := by rw [q5]; exact (sumX r1 (x.2.2.1 (r3).toNatClampNeg))
      refine pu (D := D) (ci := 2) (v := .int (r5)) (ty := .int) (W' := (wR cI cJ cP ad (x.1, x.2.1, x.2.2.1, x.2.2.2.1, x.2.2.2.2.1, (x.2.2.2.2.1.1, r5, x.2.2.2.2.1.2.2), x.2.2.2.2.2.2.1, x.2.2.2.2.2.2.2))) hx hb hG inX2 tyX2 tyokX2 nmX2 hown hK hP hD hS 12 rfl rfl 1 (by decide) (hG _ kw88) (fun _ h9 => h9) rfl (by decide +kernel) rfl rfl (Nat.le_of_ble_eq_true rfl) dX4_startAddress_156 rfl (fun H locs hP hD hS => ?_)
      exact retv (u := (x.1, x.2.1, x.2.2.1, x.2.2.2.1, x.2.2.2.2.1, (x.2.2.2.2.1.1, r5, x.2.2.2.2.1.2.2), x.2.2.2.2.2.2.1, x.2.2.2.2.2.2.2)) hx hb hr hlocks hK hP hD hS dX4_startAddress_159 (by unfold fnX4_startAddress; rw [← q1]; (try dsimp only); rw [if_pos h2]; rw [← q3]; (try dsimp only); rw [if_neg h4]; rw [← q5]; (try dsimp only); (try exact rfl))
  · refine lv_aload_n hx hb dX4_startAddress_18 rfl (lv_at hl 1 rfl) ?_
    refine va_get (D := D) (ci := 4) (v := .ref (ad 14)) hx hb hG inX4 hown hK hP 0 rfl rfl 4 (by decide) (hG _ kw149) (fun _ h9 => h9) rfl dX4_startAddress_19 ?_
    refine lv_lload_n hx hb dX4_startAddress_22 rfl (lv_at hl 2 rfl) ?_
    refine lv_bipush (v := 27) hx hb dX4_startAddress_23 (by decide) ?_
    refine lv_iconst (v := 2) hx hb dX4_startAddress_25 (by decide) ?_
    refine k0Si (As := [.long (a0), .int ((27 : Int32)), .int ((2 : Int32))]) (rest := [.ref (ad 14)]) hx hb hml hown hG hl (okX4_field l D cI cJ cP  H.size a0 (27 : Int32) (2 : Int32) ) (cS 3 hG kw4 kw135 kw6 kw5 hdX4_field ⟨by decide, by decide⟩) hK hP hD hS hA hN rfl rfl (Nat.le_of_ble_eq_true rfl) dX4_startAddress_26 ⟨Nat.zero_le _, Nat.zero_le _⟩ (fun r6 q6 H locs hP hD hS => ?_)
    have j6 : i2 r6 := by rw [q6]; exact (f2X a0 (27 : Int32))
    by_cases h7 : r6 = (0 : Int32)
    · refine gq (D := D) (j := 0) (x := ad 15) hx hb hK hP 14 2 rfl rfl (by rw [h7]; exact inL (by decide)) (by rw [h7]; decide) rfl dX4_startAddress_29 ?_
      refine lv_astore (lv' := [(4, .ref (ad 15)), (3, .int (r1)), (0, .ref (ad 0)), (1, .long (a0))]) hx hb dX4_startAddress_30 hl (by decide) rfl (fun ls hl => ?_)
      refine lv_aload_n hx hb dX4_startAddress_32 rfl (lv_at hl 2 rfl) ?_
      refine va_get (D := D) (ci := 4) (v := .ref (ad 12)) hx hb hG inX4 hown hK hP 0 rfl rfl 6 (by decide) (hG _ kw124) (fun _ h9 => h9) rfl dX4_startAddress_33 ?_
      refine lv_aload hx hb dX4_startAddress_36 (lv_at hl 0 rfl) ?_
      refine va_get (D := D) (ci := 2) (v := .int (x.2.2.2.1.1.1)) hx hb hG inX2 hown hK hP 15 rfl rfl 0 (by decide) (hG _ kw141) (fun _ h9 => h9) rfl dX4_startAddress_38 ?_
      refine pu (D := D) (ci := 2) (v := .int (x.2.2.2.1.1.1)) (ty := .int) (W' := (wR cI cJ cP ad (x.1, x.2.1, x.2.2.1, x.2.2.2.1, x.2.2.2.2.1, (x.2.2.2.1.1.1, x.2.2.2.2.2.1.2.1, x.2.2.2.2.2.1.2.2), x.2.2.2.2.2.2.1, x.2.2.2.2.2.2.2))) hx hb hG inX2 tyX2 tyokX2 nmX2 hown hK hP hD hS 12 rfl rfl 0 (by decide) (hG _ kw141) (fun _ h9 => h9) rfl (by decide +kernel) rfl rfl (Nat.le_of_ble_eq_true rfl) dX4_startAddress_41 rfl (fun H locs hP hD hS => ?_)
      refine lv_aload_n hx hb dX4_startAddress_44 rfl (lv_at hl 2 rfl) ?_
      refine va_get (D := D) (ci := 4) (v := .ref (ad 12)) hx hb hG inX4 hown hK hP 0 rfl rfl 6 (by decide) (hG _ kw124) (fun _ h9 => h9) rfl dX4_startAddress_45 ?_
      refine lv_aload hx hb dX4_startAddress_48 (lv_at hl 0 rfl) ?_
      refine va_get (D := D) (ci := 2) (v := .int (x.2.2.2.1.1.2.1)) hx hb hG inX2 hown hK hP 15 rfl rfl 1 (by decide) (hG _ kw88) (fun _ h9 => h9) rfl dX4_startAddress_50 ?_
      refine lv_iload_n hx hb dX4_startAddress_53 rfl (lv_at hl 1 rfl) ?_
      refine k0Si (As := [.int (x.2.2.2.1.1.2.1), .int (r1)]) (rest := [.ref (ad 12)]) hx hb hml hown hG hl (okX4_sum l D cI cJ cP  H.size x.2.2.2.1.1.2.1 r1 ) (cS 2 hG kw34 kw89 kw35 kw5 hdX4_sum ⟨by decide, by decide⟩) hK hP hD hS hA hN rfl rfl (Nat.le_of_ble_eq_true rfl) dX4_startAddress_54 ⟨Nat.zero_le _, Nat.zero_le _⟩ (fun r8 q8 H locs hP hD hS => ?_)
      have j8 : i12 r8 := by rw [q8]; exact (sumX x.2.2.2.1.1.2.1 r1)
      refine pu (D := D) (ci := 2) (v := .int (r8)) (ty := .int) (W' := (wR cI cJ cP ad (x.1, x.2.1, x.2.2.1, x.2.2.2.1, x.2.2.2.2.1, (x.2.2.2.1.1.1, r8, x.2.2.2.2.2.1.2.2), x.2.2.2.2.2.2.1, x.2.2.2.2.2.2.2))) hx hb hG inX2 tyX2 tyokX2 nmX2 hown hK hP hD hS 12 rfl rfl 1 (by decide) (hG _ kw88) (fun _ h9 => h9) rfl (by decide +kernel) rfl rfl (Nat.le_of_ble_eq_true rfl) dX4_startAddress_57 rfl (fun H locs hP hD hS => ?_)
      refine lv_aload_n hx hb dX4_startAddress_60 rfl (lv_at hl 2 rfl) ?_
      refine va_get (D := D) (ci := 4) (v := .ref (ad 12)) hx hb hG inX4 hown hK hP 0 rfl rfl 6 (by decide) (hG _ kw124) (fun _ h9 => h9) rfl dX4_startAddress_61 ?_
      refine lv_aload_n hx hb dX4_startAddress_64 rfl (lv_at hl 2 rfl) ?_
      refine va_get (D := D) (ci := 4) (v := .ref (ad 19)) hx hb hG inX4 hown hK hP 0 rfl rfl 5 (by decide) (hG _ kw87) (fun _ h9 => h9) rfl dX4_startAddress_65 ?_
      refine va_get (D := D) (ci := 2) (v := .int (x.2.2.2.2.1.2.2)) hx hb hG inX2 hown hK hP 19 rfl rfl 2 (by decide) (hG _ kw119) (fun _ h9 => h9) rfl dX4_startAddress_68 ?_
      refine lv_aload hx hb dX4_startAddress_71 (lv_at hl 0 rfl) ?_
      refine va_get (D := D) (ci := 2) (v := .int (x.2.2.2.1.1.2.2)) hx hb hG inX2 hown hK hP 15 rfl rfl 2 (by decide) (hG _ kw119) (fun _ h9 => h9) rfl dX4_startAddress_73 ?_
      refine va_mmax hx hb (hml.trans hl.1.symm) hown (hG _ kw150) (hG _ kw151) (hG _ kw152) (hG _ kw153) (by decide) (Nat.le_of_ble_eq_true rfl) (Nat.zero_le _) (Nat.zero_le _) dX4_startAddress_76 ?_
      refine pu (D := D) (ci := 2) (v := .int ((if x.2.2.2.2.1.2.2 < x.2.2.2.1.1.2.2 then x.2.2.2.1.1.2.2 else x.2.2.2.2.1.2.2))) (ty := .int) (W' := (wR cI cJ cP ad (x.1, x.2.1, x.2.2.1, x.2.2.2.1, x.2.2.2.2.1, (x.2.2.2.1.1.1, r8, (if x.2.2.2.2.1.2.2 < x.2.2.2.1.1.2.2 then x.2.2.2.1.1.2.2 else x.2.2.2.2.1.2.2)), x.2.2.2.2.2.2.1, x.2.2.2.2.2.2.2))) hx hb hG inX2 tyX2 tyokX2 nmX2 hown hK hP hD hS 12 rfl rfl 2 (by decide) (hG _ kw119) (fun _ h9 => h9) rfl (by decide +kernel) rfl rfl (Nat.le_of_ble_eq_true rfl) dX4_startAddress_79 rfl (fun H locs hP hD hS => ?_)
      refine lv_goto (tgt := 121) hx hb dX4_startAddress_82 (by decide) ?_
      refine lv_lload_n hx hb dX4_startAddress_121 rfl (lv_at hl 3 rfl) ?_
      refine lv_bipush (v := 24) hx hb dX4_startAddress_122 (by decide) ?_
      refine lv_iconst (v := 2) hx hb dX4_startAddress_124 (by decide) ?_
      refine k0Si (As := [.long (a0), .int ((24 : Int32)), .int ((2 : Int32))]) (rest := []) hx hb hml hown hG hl (okX4_field l D cI cJ cP  H.size a0 (24 : Int32) (2 : Int32) ) (cS 3 hG kw4 kw135 kw6 kw5 hdX4_field ⟨by decide, by decide⟩) hK hP hD hS hA hN rfl rfl (Nat.le_of_ble_eq_true rfl) dX4_startAddress_125 ⟨Nat.zero_le _, Nat.zero_le _⟩ (fun r9 q9 H locs hP hD hS => ?_)
      have j9 : i2 r9 := by rw [q9]; exact (f2X a0 (24 : Int32))
      refine lv_istore (lv' := [(4, .int (r9)), (3, .int (r1)), (0, .ref (ad 0)), (1, .long (a0))]) hx hb dX4_startAddress_128 hl (by decide) rfl (fun ls hl => ?_)
      refine lv_iload hx hb dX4_startAddress_130 (lv_at hl 0 rfl) ?_
      refine lv_if_eq (tgt := 159) hx hb dX4_startAddress_132 (by decide) (fun h10 => ?_) (fun h10 => ?_)
      · exact retv (u := (x.1, x.2.1, x.2.2.1, x.2.2.2.1, x.2.2.2.2.1, (x.2.2.2.1.1.1, r8, (if x.2.2.2.2.1.2.2 < x.2.2.2.1.1.2.2 then x.2.2.2.1.1.2.2 else x.2.2.2.2.1.2.2)), x.2.2.2.2.2.2.1, x.2.2.2.2.2.2.2)) hx hb hr hlocks hK hP hD hS dX4_startAddress_159 (by unfold fnX4_startAddress; rw [← q1]; (try dsimp only); rw [if_neg h2]; rw [← q6]; (try dsimp only); rw [if_pos h7]; rw [← q8]; (try dsimp only); rw [← q9]; (try dsimp only); rw [if_pos h10]; (try exact rfl))
      · refine lv_aload_n hx hb dX4_startAddress_135 rfl (lv_at hl 2 rfl) ?_
        refine va_get (D := D) (ci := 4) (v := .ref (ad 12)) hx hb hG inX4 hown hK hP 0 rfl rfl 6 (by decide) (hG _ kw124) (fun _ h9 => h9) rfl dX4_startAddress_136 ?_
        refine lv_aload_n hx hb dX4_startAddress_139 rfl (lv_at hl 2 rfl) ?_
        refine va_get (D := D) (ci := 4) (v := .ref (ad 12)) hx hb hG inX4 hown hK hP 0 rfl rfl 6 (by decide) (hG _ kw124) (fun _ h9 => h9) rfl dX4_startAddress_140 ?_
        refine va_get (D := D) (ci := 2) (v := .int (r8)) hx hb hG inX2 hown hK hP 12 rfl rfl 1 (by decide) (hG _ kw88) (fun _ h9 => h9) rfl dX4_startAddress_143 ?_
        refine lv_aload_n hx hb dX4_startAddress_146 rfl (lv_at hl 2 rfl) ?_
        refine va_get (D := D) (ci := 4) (v := .ref (ad 13)) hx hb hG inX4 hown hK hP 0 rfl rfl 3 (by decide) (hG _ kw134) (fun _ h9 => h9) rfl dX4_startAddress_147 ?_
        refine lv_iload hx hb dX4_startAddress_150 (lv_at hl 0 rfl) ?_
        refine gi (D := D) (j := (r9).toNatClampNeg) (f := x.2.2.1) hx hb hK hP 13 0 rfl rfl (in2 j9) rfl dX4_startAddress_152 ?_
        refine k0Si (As := [.int (r8), .int ((x.2.2.1 (r9).toNatClampNeg))]) (rest := [.ref (ad 12)]) hx hb hml hown hG hl (okX4_sum l D cI cJ cP  H.size r8 (x.2.2.1 (r9).toNatClampNeg) ) (cS 2 hG kw34 kw89 kw35 kw5 hdX4_sum ⟨by decide, by decide⟩) hK hP hD hS hA hN rfl rfl (Nat.le_of_ble_eq_true rfl) dX4_startAddress_153 ⟨Nat.zero_le _, Nat.zero_le _⟩ (fun r11 q11 H locs hP hD hS => ?_)
        have j11 : i12 r11 := by rw [q11]; exact (sumX r8 (x.2.2.1 (r9).toNatClampNeg))
        refine pu (D := D) (ci := 2) (v := .int (r11)) (ty := .int) (W' := (wR cI cJ cP ad (x.1, x.2.1, x.2.2.1, x.2.2.2.1, x.2.2.2.2.1, (x.2.2.2.1.1.1, r11, (if x.2.2.2.2.1.2.2 < x.2.2.2.1.1.2.2 then x.2.2.2.1.1.2.2 else x.2.2.2.2.1.2.2)), x.2.2.2.2.2.2.1, x.2.2.2.2.2.2.2))) hx hb hG inX2 tyX2 tyokX2 nmX2 hown hK hP hD hS 12 rfl rfl 1 (by decide) (hG _ kw88) (fun _ h9 => h9) rfl (by decide +kernel) rfl rfl (Nat.le_of_ble_eq_true rfl) dX4_startAddress_156 rfl (fun H locs hP hD hS => ?_)
        exact retv (u := (x.1, x.2.1, x.2.2.1, x.2.2.2.1, x.2.2.2.2.1, (x.2.2.2.1.1.1, r11, (if x.2.2.2.2.1.2.2 < x.2.2.2.1.1.2.2 then x.2.2.2.1.1.2.2 else x.2.2.2.2.1.2.2)), x.2.2.2.2.2.2.1, x.2.2.2.2.2.2.2)) hx hb hr hlocks hK hP hD hS dX4_startAddress_159 (by unfold fnX4_startAddress; rw [← q1]; (try dsimp only); rw [if_neg h2]; rw [← q6]; (try dsimp only); rw [if_pos h7]; rw [← q8]; (try dsimp only); rw [← q9]; (try dsimp only); rw [if_neg h10]; rw [← q11]; (try dsimp only); (try exact rfl))
    by_cases h12 : r6 = (1 : Int32)
    · refine gq (D := D) (j := 1) (x := ad 16) hx hb hK hP 14 2 rfl rfl (by rw [h12]; exact inL (by decide)) (by rw [h12]; decide) rfl dX4_startAddress_29 ?_
      refine lv_astore (lv' := [(4, .ref (ad 16)), (3, .int (r1)), (0, .ref (ad 0)), (1, .long (a0))]) hx hb dX4_startAddress_30 hl (by decide) rfl (fun ls hl => ?_)
      refine lv_aload_n hx hb dX4_startAddress_32 rfl (lv_at hl 2 rfl) ?_
      refine va_get (D := D) (ci := 4) (v := .ref (ad 12)) hx hb hG inX4 hown hK hP 0 rfl rfl 6 (by decide) (hG _ kw124) (fun _ h9 => h9) rfl dX4_startAddress_33 ?_
      refine lv_aload hx hb dX4_startAddress_36 (lv_at hl 0 rfl) ?_
      refine va_get (D := D) (ci := 2) (v := .int (x.2.2.2.1.2.1.1)) hx hb hG inX2 hown hK hP 16 rfl rfl 0 (by decide) (hG _ kw141) (fun _ h9 => h9) rfl dX4_startAddress_38 ?_
      refine pu (D := D) (ci := 2) (v := .int (x.2.2.2.1.2.1.1)) (ty := .int) (W' := (wR cI cJ cP ad (x.1, x.2.1, x.2.2.1, x.2.2.2.1, x.2.2.2.2.1, (x.2.2.2.1.2.1.1, x.2.2.2.2.2.1.2.1, x.2.2.2.2.2.1.2.2), x.2.2.2.2.2.2.1, x.2.2.2.2.2.2.2))) hx hb hG inX2 tyX2 tyokX2 nmX2 hown hK hP hD hS 12 rfl rfl 0 (by decide) (hG _ kw141) (fun _ h9 => h9) rfl (by decide +kernel) rfl rfl (Nat.le_of_ble_eq_true rfl) dX4_startAddress_41 rfl (fun H locs hP hD hS => ?_)
      refine lv_aload_n hx hb dX4_startAddress_44 rfl (lv_at hl 2 rfl) ?_
      refine va_get (D := D) (ci := 4) (v := .ref (ad 12)) hx hb hG inX4 hown hK hP 0 rfl rfl 6 (by decide) (hG _ kw124) (fun _ h9 => h9) rfl dX4_startAddress_45 ?_
      refine lv_aload hx hb dX4_startAddress_48 (lv_at hl 0 rfl) ?_
      refine va_get (D := D) (ci := 2) (v := .int (x.2.2.2.1.2.1.2.1)) hx hb hG inX2 hown hK hP 16 rfl rfl 1 (by decide) (hG _ kw88) (fun _ h9 => h9) rfl dX4_startAddress_50 ?_
      refine lv_iload_n hx hb dX4_startAddress_53 rfl (lv_at hl 1 rfl) ?_
      refine k0Si (As := [.int (x.2.2.2.1.2.1.2.1), .int (r1)]) (rest := [.ref (ad 12)]) hx hb hml hown hG hl (okX4_sum l D cI cJ cP  H.size x.2.2.2.1.2.1.2.1 r1 ) (cS 2 hG kw34 kw89 kw35 kw5 hdX4_sum ⟨by decide, by decide⟩) hK hP hD hS hA hN rfl rfl (Nat.le_of_ble_eq_true rfl) dX4_startAddress_54 ⟨Nat.zero_le _, Nat.zero_le _⟩ (fun r13 q13 H locs hP hD hS => ?_)
      have j13 : i12 r13 := by rw [q13]; exact (sumX x.2.2.2.1.2.1.2.1 r1)
      refine pu (D := D) (ci := 2) (v := .int (r13)) (ty := .int) (W' := (wR cI cJ cP ad (x.1, x.2.1, x.2.2.1, x.2.2.2.1, x.2.2.2.2.1, (x.2.2.2.1.2.1.1, r13, x.2.2.2.2.2.1.2.2), x.2.2.2.2.2.2.1, x.2.2.2.2.2.2.2))) hx hb hG inX2 tyX2 tyokX2 nmX2 hown hK hP hD hS 12 rfl rfl 1 (by decide) (hG _ kw88) (fun _ h9 => h9) rfl (by decide +kernel) rfl rfl (Nat.le_of_ble_eq_true rfl) dX4_startAddress_57 rfl (fun H locs hP hD hS => ?_)
      refine lv_aload_n hx hb dX4_startAddress_60 rfl (lv_at hl 2 rfl) ?_
      refine va_get (D := D) (ci := 4) (v := .ref (ad 12)) hx hb hG inX4 hown hK hP 0 rfl rfl 6 (by decide) (hG _ kw124) (fun _ h9 => h9) rfl dX4_startAddress_61 ?_
      refine lv_aload_n hx hb dX4_startAddress_64 rfl (lv_at hl 2 rfl) ?_
      refine va_get (D := D) (ci := 4) (v := .ref (ad 19)) hx hb hG inX4 hown hK hP 0 rfl rfl 5 (by decide) (hG _ kw87) (fun _ h9 => h9) rfl dX4_startAddress_65 ?_
      refine va_get (D := D) (ci := 2) (v := .int (x.2.2.2.2.1.2.2)) hx hb hG inX2 hown hK hP 19 rfl rfl 2 (by decide) (hG _ kw119) (fun _ h9 => h9) rfl dX4_startAddress_68 ?_
      refine lv_aload hx hb dX4_startAddress_71 (lv_at hl 0 rfl) ?_
      refine va_get (D := D) (ci := 2) (v := .int (x.2.2.2.1.2.1.2.2)) hx hb hG inX2 hown hK hP 16 rfl rfl 2 (by decide) (hG _ kw119) (fun _ h9 => h9) rfl dX4_startAddress_73 ?_
      refine va_mmax hx hb (hml.trans hl.1.symm) hown (hG _ kw150) (hG _ kw151) (hG _ kw152) (hG _ kw153) (by decide) (Nat.le_of_ble_eq_true rfl) (Nat.zero_le _) (Nat.zero_le _) dX4_startAddress_76 ?_
      refine pu (D := D) (ci := 2) (v := .int ((if x.2.2.2.2.1.2.2 < x.2.2.2.1.2.1.2.2 then x.2.2.2.1.2.1.2.2 else x.2.2.2.2.1.2.2))) (ty := .int) (W' := (wR cI cJ cP ad (x.1, x.2.1, x.2.2.1, x.2.2.2.1, x.2.2.2.2.1, (x.2.2.2.1.2.1.1, r13, (if x.2.2.2.2.1.2.2 < x.2.2.2.1.2.1.2.2 then x.2.2.2.1.2.1.2.2 else x.2.2.2.2.1.2.2)), x.2.2.2.2.2.2.1, x.2.2.2.2.2.2.2))) hx hb hG inX2 tyX2 tyokX2 nmX2 hown hK hP hD hS 12 rfl rfl 2 (by decide) (hG _ kw119) (fun _ h9 => h9) rfl (by decide +kernel) rfl rfl (Nat.le_of_ble_eq_true rfl) dX4_startAddress_79 rfl (fun H locs hP hD hS => ?_)
      refine lv_goto (tgt := 121) hx hb dX4_startAddress_82 (by decide) ?_
      refine lv_lload_n hx hb dX4_startAddress_121 rfl (lv_at hl 3 rfl) ?_
      refine lv_bipush (v := 24) hx hb dX4_startAddress_122 (by decide) ?_
      refine lv_iconst (v := 2) hx hb dX4_startAddress_124 (by decide) ?_
      refine k0Si (As := [.long (a0), .int ((24 : Int32)), .int ((2 : Int32))]) (rest := []) hx hb hml hown hG hl (okX4_field l D cI cJ cP  H.size a0 (24 : Int32) (2 : Int32) ) (cS 3 hG kw4 kw135 kw6 kw5 hdX4_field ⟨by decide, by decide⟩) hK hP hD hS hA hN rfl rfl (Nat.le_of_ble_eq_true rfl) dX4_startAddress_125 ⟨Nat.zero_le _, Nat.zero_le _⟩ (fun r14 q14 H locs hP hD hS => ?_)
      have j14 : i2 r14 := by rw [q14]; exact (f2X a0 (24 : Int32))
      refine lv_istore (lv' := [(4, .int (r14)), (3, .int (r1)), (0, .ref (ad 0)), (1, .long (a0))]) hx hb dX4_startAddress_128 hl (by decide) rfl (fun ls hl => ?_)
      refine lv_iload hx hb dX4_startAddress_130 (lv_at hl 0 rfl) ?_
      refine lv_if_eq (tgt := 159) hx hb dX4_startAddress_132 (by decide) (fun h15 => ?_) (fun h15 => ?_)
      · exact retv (u := (x.1, x.2.1, x.2.2.1, x.2.2.2.1, x.2.2.2.2.1, (x.2.2.2.1.2.1.1, r13, (if x.2.2.2.2.1.2.2 < x.2.2.2.1.2.1.2.2 then x.2.2.2.1.2.1.2.2 else x.2.2.2.2.1.2.2)), x.2.2.2.2.2.2.1, x.2.2.2.2.2.2.2)) hx hb hr hlocks hK hP hD hS dX4_startAddress_159 (by unfold fnX4_startAddress; rw [← q1]; (try dsimp only); rw [if_neg h2]; rw [← q6]; (try dsimp only); rw [if_neg h7]; rw [if_pos h12]; rw [← q13]; (try dsimp only); rw [← q14]; (try dsimp only); rw [if_pos h15]; (try exact rfl))
      · refine lv_aload_n hx hb dX4_startAddress_135 rfl (lv_at hl 2 rfl) ?_
        refine va_get (D := D) (ci := 4) (v := .ref (ad 12)) hx hb hG inX4 hown hK hP 0 rfl rfl 6 (by decide) (hG _ kw124) (fun _ h9 => h9) rfl dX4_startAddress_136 ?_
        refine lv_aload_n hx hb dX4_startAddress_139 rfl (lv_at hl 2 rfl) ?_
        refine va_get (D := D) (ci := 4) (v := .ref (ad 12)) hx hb hG inX4 hown hK hP 0 rfl rfl 6 (by decide) (hG _ kw124) (fun _ h9 => h9) rfl dX4_startAddress_140 ?_
        refine va_get (D := D) (ci := 2) (v := .int (r13)) hx hb hG inX2 hown hK hP 12 rfl rfl 1 (by decide) (hG _ kw88) (fun _ h9 => h9) rfl dX4_startAddress_143 ?_
        refine lv_aload_n hx hb dX4_startAddress_146 rfl (lv_at hl 2 rfl) ?_
        refine va_get (D := D) (ci := 4) (v := .ref (ad 13)) hx hb hG inX4 hown hK hP 0 rfl rfl 3 (by decide) (hG _ kw134) (fun _ h9 => h9) rfl dX4_startAddress_147 ?_
        refine lv_iload hx hb dX4_startAddress_150 (lv_at hl 0 rfl) ?_
        refine gi (D := D) (j := (r14).toNatClampNeg) (f := x.2.2.1) hx hb hK hP 13 0 rfl rfl (in2 j14) rfl dX4_startAddress_152 ?_
        refine k0Si (As := [.int (r13), .int ((x.2.2.1 (r14).toNatClampNeg))]) (rest := [.ref (ad 12)]) hx hb hml hown hG hl (okX4_sum l D cI cJ cP  H.size r13 (x.2.2.1 (r14).toNatClampNeg) ) (cS 2 hG kw34 kw89 kw35 kw5 hdX4_sum ⟨by decide, by decide⟩) hK hP hD hS hA hN rfl rfl (Nat.le_of_ble_eq_true rfl) dX4_startAddress_153 ⟨Nat.zero_le _, Nat.zero_le _⟩ (fun r16 q16 H locs hP hD hS => ?_)
        have j16 : i12 r16 := by rw [q16]; exact (sumX r13 (x.2.2.1 (r14).toNatClampNeg))
        refine pu (D := D) (ci := 2) (v := .int (r16)) (ty := .int) (W' := (wR cI cJ cP ad (x.1, x.2.1, x.2.2.1, x.2.2.2.1, x.2.2.2.2.1, (x.2.2.2.1.2.1.1, r16, (if x.2.2.2.2.1.2.2 < x.2.2.2.1.2.1.2.2 then x.2.2.2.1.2.1.2.2 else x.2.2.2.2.1.2.2)), x.2.2.2.2.2.2.1, x.2.2.2.2.2.2.2))) hx hb hG inX2 tyX2 tyokX2 nmX2 hown hK hP hD hS 12 rfl rfl 1 (by decide) (hG _ kw88) (fun _ h9 => h9) rfl (by decide +kernel) rfl rfl (Nat.le_of_ble_eq_true rfl) dX4_startAddress_156 rfl (fun H locs hP hD hS => ?_)
        exact retv (u := (x.1, x.2.1, x.2.2.1, x.2.2.2.1, x.2.2.2.2.1, (x.2.2.2.1.2.1.1, r16, (if x.2.2.2.2.1.2.2 < x.2.2.2.1.2.1.2.2 then x.2.2.2.1.2.1.2.2 else x.2.2.2.2.1.2.2)), x.2.2.2.2.2.2.1, x.2.2.2.2.2.2.2)) hx hb hr hlocks hK hP hD hS dX4_startAddress_159 (by unfold fnX4_startAddress; rw [← q1]; (try dsimp only); rw [if_neg h2]; rw [← q6]; (try dsimp only); rw [if_neg h7]; rw [if_pos h12]; rw [← q13]; (try dsimp only); rw [← q14]; (try dsimp only); rw [if_neg h15]; rw [← q16]; (try dsimp only); (try exact rfl))
    by_cases h17 : r6 = (2 : Int32)
    · refine gq (D := D) (j := 2) (x := ad 17) hx hb hK hP 14 2 rfl rfl (by rw [h17]; exact inL (by decide)) (by rw [h17]; decide) rfl dX4_startAddress_29 ?_
      refine lv_astore (lv' := [(4, .ref (ad 17)), (3, .int (r1)), (0, .ref (ad 0)), (1, .long (a0))]) hx hb dX4_startAddress_30 hl (by decide) rfl (fun ls hl => ?_)
      refine lv_aload_n hx hb dX4_startAddress_32 rfl (lv_at hl 2 rfl) ?_
      refine va_get (D := D) (ci := 4) (v := .ref (ad 12)) hx hb hG inX4 hown hK hP 0 rfl rfl 6 (by decide) (hG _ kw124) (fun _ h9 => h9) rfl dX4_startAddress_33 ?_
      refine lv_aload hx hb dX4_startAddress_36 (lv_at hl 0 rfl) ?_
      refine va_get (D := D) (ci := 2) (v := .int (x.2.2.2.1.2.2.1.1)) hx hb hG inX2 hown hK hP 17 rfl rfl 0 (by decide) (hG _ kw141) (fun _ h9 => h9) rfl dX4_startAddress_38 ?_
      refine pu (D := D) (ci := 2) (v := .int (x.2.2.2.1.2.2.1.1)) (ty := .int) (W' := (wR cI cJ cP ad (x.1, x.2.1, x.2.2.1, x.2.2.2.1, x.2.2.2.2.1, (x.2.2.2.1.2.2.1.1, x.2.2.2.2.2.1.2.1, x.2.2.2.2.2.1.2.2), x.2.2.2.2.2.2.1, x.2.2.2.2.2.2.2))) hx hb hG inX2 tyX2 tyokX2 nmX2 hown hK hP hD hS 12 rfl rfl 0 (by decide) (hG _ kw141) (fun _ h9 => h9) rfl (by decide +kernel) rfl rfl (Nat.le_of_ble_eq_true rfl) dX4_startAddress_41 rfl (fun H locs hP hD hS => ?_)
      refine lv_aload_n hx hb dX4_startAddress_44 rfl (lv_at hl 2 rfl) ?_
      refine va_get (D := D) (ci := 4) (v := .ref (ad 12)) hx hb hG inX4 hown hK hP 0 rfl rfl 6 (by decide) (hG _ kw124) (fun _ h9 => h9) rfl dX4_startAddress_45 ?_
      refine lv_aload hx hb dX4_startAddress_48 (lv_at hl 0 rfl) ?_
      refine va_get (D := D) (ci := 2) (v := .int (x.2.2.2.1.2.2.1.2.1)) hx hb hG inX2 hown hK hP 17 rfl rfl 1 (by decide) (hG _ kw88) (fun _ h9 => h9) rfl dX4_startAddress_50 ?_
      refine lv_iload_n hx hb dX4_startAddress_53 rfl (lv_at hl 1 rfl) ?_
      refine k0Si (As := [.int (x.2.2.2.1.2.2.1.2.1), .int (r1)]) (rest := [.ref (ad 12)]) hx hb hml hown hG hl (okX4_sum l D cI cJ cP  H.size x.2.2.2.1.2.2.1.2.1 r1 ) (cS 2 hG kw34 kw89 kw35 kw5 hdX4_sum ⟨by decide, by decide⟩) hK hP hD hS hA hN rfl rfl (Nat.le_of_ble_eq_true rfl) dX4_startAddress_54 ⟨Nat.zero_le _, Nat.zero_le _⟩ (fun r18 q18 H locs hP hD hS => ?_)
      have j18 : i12 r18 := by rw [q18]; exact (sumX x.2.2.2.1.2.2.1.2.1 r1)
      refine pu (D := D) (ci := 2) (v := .int (r18)) (ty := .int) (W' := (wR cI cJ cP ad (x.1, x.2.1, x.2.2.1, x.2.2.2.1, x.2.2.2.2.1, (x.2.2.2.1.2.2.1.1, r18, x.2.2.2.2.2.1.2.2), x.2.2.2.2.2.2.1, x.2.2.2.2.2.2.2))) hx hb hG inX2 tyX2 tyokX2 nmX2 hown hK hP hD hS 12 rfl rfl 1 (by decide) (hG _ kw88) (fun _ h9 => h9) rfl (by decide +kernel) rfl rfl (Nat.le_of_ble_eq_true rfl) dX4_startAddress_57 rfl (fun H locs hP hD hS => ?_)
      refine lv_aload_n hx hb dX4_startAddress_60 rfl (lv_at hl 2 rfl) ?_
      refine va_get (D := D) (ci := 4) (v := .ref (ad 12)) hx hb hG inX4 hown hK hP 0 rfl rfl 6 (by decide) (hG _ kw124) (fun _ h9 => h9) rfl dX4_startAddress_61 ?_
      refine lv_aload_n hx hb dX4_startAddress_64 rfl (lv_at hl 2 rfl) ?_
      refine va_get (D := D) (ci := 4) (v := .ref (ad 19)) hx hb hG inX4 hown hK hP 0 rfl rfl 5 (by decide) (hG _ kw87) (fun _ h9 => h9) rfl dX4_startAddress_65 ?_
      refine va_get (D := D) (ci := 2) (v := .int (x.2.2.2.2.1.2.2)) hx hb hG inX2 hown hK hP 19 rfl rfl 2 (by decide) (hG _ kw119) (fun _ h9 => h9) rfl dX4_startAddress_68 ?_
      refine lv_aload hx hb dX4_startAddress_71 (lv_at hl 0 rfl) ?_
      refine va_get (D := D) (ci := 2) (v := .int (x.2.2.2.1.2.2.1.2.2)) hx hb hG inX2 hown hK hP 17 rfl rfl 2 (by decide) (hG _ kw119) (fun _ h9 => h9) rfl dX4_startAddress_73 ?_
      refine va_mmax hx hb (hml.trans hl.1.symm) hown (hG _ kw150) (hG _ kw151) (hG _ kw152) (hG _ kw153) (by decide) (Nat.le_of_ble_eq_true rfl) (Nat.zero_le _) (Nat.zero_le _) dX4_startAddress_76 ?_
      refine pu (D := D) (ci := 2) (v := .int ((if x.2.2.2.2.1.2.2 < x.2.2.2.1.2.2.1.2.2 then x.2.2.2.1.2.2.1.2.2 else x.2.2.2.2.1.2.2))) (ty := .int) (W' := (wR cI cJ cP ad (x.1, x.2.1, x.2.2.1, x.2.2.2.1, x.2.2.2.2.1, (x.2.2.2.1.2.2.1.1, r18, (if x.2.2.2.2.1.2.2 < x.2.2.2.1.2.2.1.2.2 then x.2.2.2.1.2.2.1.2.2 else x.2.2.2.2.1.2.2)), x.2.2.2.2.2.2.1, x.2.2.2.2.2.2.2))) hx hb hG inX2 tyX2 tyokX2 nmX2 hown hK hP hD hS 12 rfl rfl 2 (by decide) (hG _ kw119) (fun _ h9 => h9) rfl (by decide +kernel) rfl rfl (Nat.le_of_ble_eq_true rfl) dX4_startAddress_79 rfl (fun H locs hP hD hS => ?_)
      refine lv_goto (tgt := 121) hx hb dX4_startAddress_82 (by decide) ?_
      refine lv_lload_n hx hb dX4_startAddress_121 rfl (lv_at hl 3 rfl) ?_
      refine lv_bipush (v := 24) hx hb dX4_startAddress_122 (by decide) ?_
      refine lv_iconst (v := 2) hx hb dX4_startAddress_124 (by decide) ?_
      refine k0Si (As := [.long (a0), .int ((24 : Int32)), .int ((2 : Int32))]) (rest := []) hx hb hml hown hG hl (okX4_field l D cI cJ cP  H.size a0 (24 : Int32) (2 : Int32) ) (cS 3 hG kw4 kw135 kw6 kw5 hdX4_field ⟨by decide, by decide⟩) hK hP hD hS hA hN rfl rfl (Nat.le_of_ble_eq_true rfl) dX4_startAddress_125 ⟨Nat.zero_le _, Nat.zero_le _⟩ (fun r19 q19 H locs hP hD hS => ?_)
      have j19 : i2 r19 := by rw [q19]; exact (f2X a0 (24 : Int32))
      refine lv_istore (lv' := [(4, .int (r19)), (3, .int (r1)), (0, .ref (ad 0)), (1, .long (a0))]) hx hb dX4_startAddress_128 hl (by decide) rfl (fun ls hl => ?_)
      refine lv_iload hx hb dX4_startAddress_130 (lv_at hl 0 rfl) ?_
      refine lv_if_eq (tgt := 159) hx hb dX4_startAddress_132 (by decide) (fun h20 => ?_) (fun h20 => ?_)
      · exact retv (u := (x.1, x.2.1, x.2.2.1, x.2.2.2.1, x.2.2.2.2.1, (x.2.2.2.1.2.2.1.1, r18, (if x.2.2.2.2.1.2.2 < x.2.2.2.1.2.2.1.2.2 then x.2.2.2.1.2.2.1.2.2 else x.2.2.2.2.1.2.2)), x.2.2.2.2.2.2.1, x.2.2.2.2.2.2.2)) hx hb hr hlocks hK hP hD hS dX4_startAddress_159 (by unfold fnX4_startAddress; rw [← q1]; (try dsimp only); rw [if_neg h2]; rw [← q6]; (try dsimp only); rw [if_neg h7]; rw [if_neg h12]; rw [if_pos h17]; rw [← q18]; (try dsimp only); rw [← q19]; (try dsimp only); rw [if_pos h20]; (try exact rfl))
      · refine lv_aload_n hx hb dX4_startAddress_135 rfl (lv_at hl 2 rfl) ?_
        refine va_get (D := D) (ci := 4) (v := .ref (ad 12)) hx hb hG inX4 hown hK hP 0 rfl rfl 6 (by decide) (hG _ kw124) (fun _ h9 => h9) rfl dX4_startAddress_136 ?_
        refine lv_aload_n hx hb dX4_startAddress_139 rfl (lv_at hl 2 rfl) ?_
        refine va_get (D := D) (ci := 4) (v := .ref (ad 12)) hx hb hG inX4 hown hK hP 0 rfl rfl 6 (by decide) (hG _ kw124) (fun _ h9 => h9) rfl dX4_startAddress_140 ?_
        refine va_get (D := D) (ci := 2) (v := .int (r18)) hx hb hG inX2 hown hK hP 12 rfl rfl 1 (by decide) (hG _ kw88) (fun _ h9 => h9) rfl dX4_startAddress_143 ?_
        refine lv_aload_n hx hb dX4_startAddress_146 rfl (lv_at hl 2 rfl) ?_
        refine va_get (D := D) (ci := 4) (v := .ref (ad 13)) hx hb hG inX4 hown hK hP 0 rfl rfl 3 (by decide) (hG _ kw134) (fun _ h9 => h9) rfl dX4_startAddress_147 ?_
        refine lv_iload hx hb dX4_startAddress_150 (lv_at hl 0 rfl) ?_
        refine gi (D := D) (j := (r19).toNatClampNeg) (f := x.2.2.1) hx hb hK hP 13 0 rfl rfl (in2 j19) rfl dX4_startAddress_152 ?_
        refine k0Si (As := [.int (r18), .int ((x.2.2.1 (r19).toNatClampNeg))]) (rest := [.ref (ad 12)]) hx hb hml hown hG hl (okX4_sum l D cI cJ cP  H.size r18 (x.2.2.1 (r19).toNatClampNeg) ) (cS 2 hG kw34 kw89 kw35 kw5 hdX4_sum ⟨by decide, by decide⟩) hK hP hD hS hA hN rfl rfl (Nat.le_of_ble_eq_true rfl) dX4_startAddress_153 ⟨Nat.zero_le _, Nat.zero_le _⟩ (fun r21 q21 H locs hP hD hS => ?_)
        have j21 : i12 r21 := by rw [q21]; exact (sumX r18 (x.2.2.1 (r19).toNatClampNeg))
        refine pu (D := D) (ci := 2) (v := .int (r21)) (ty := .int) (W' := (wR cI cJ cP ad (x.1, x.2.1, x.2.2.1, x.2.2.2.1, x.2.2.2.2.1, (x.2.2.2.1.2.2.1.1, r21, (if x.2.2.2.2.1.2.2 < x.2.2.2.1.2.2.1.2.2 then x.2.2.2.1.2.2.1.2.2 else x.2.2.2.2.1.2.2)), x.2.2.2.2.2.2.1, x.2.2.2.2.2.2.2))) hx hb hG inX2 tyX2 tyokX2 nmX2 hown hK hP hD hS 12 rfl rfl 1 (by decide) (hG _ kw88) (fun _ h9 => h9) rfl (by decide +kernel) rfl rfl (Nat.le_of_ble_eq_true rfl) dX4_startAddress_156 rfl (fun H locs hP hD hS => ?_)
        exact retv (u := (x.1, x.2.1, x.2.2.1, x.2.2.2.1, x.2.2.2.2.1, (x.2.2.2.1.2.2.1.1, r21, (if x.2.2.2.2.1.2.2 < x.2.2.2.1.2.2.1.2.2 then x.2.2.2.1.2.2.1.2.2 else x.2.2.2.2.1.2.2)), x.2.2.2.2.2.2.1, x.2.2.2.2.2.2.2)) hx hb hr hlocks hK hP hD hS dX4_startAddress_159 (by unfold fnX4_startAddress; rw [← q1]; (try dsimp only); rw [if_neg h2]; rw [← q6]; (try dsimp only); rw [if_neg h7]; rw [if_neg h12]; rw [if_pos h17]; rw [← q18]; (try dsimp only); rw [← q19]; (try dsimp only); rw [if_neg h20]; rw [← q21]; (try dsimp only); (try exact rfl))
    have h22 : r6 = (3 : Int32) := c4l j6 h7 h12 h17
    refine gq (D := D) (j := 3) (x := ad 18) hx hb hK hP 14 2 rfl rfl (by rw [h22]; exact inL (by decide)) (by rw [h22]; decide) rfl dX4_startAddress_29 ?_
    refine lv_astore (lv' := [(4, .ref (ad 18)), (3, .int (r1)), (0, .ref (ad 0)), (1, .long (a0))]) hx hb dX4_startAddress_30 hl (by decide) rfl (fun ls hl => ?_)
    refine lv_aload_n hx hb dX4_startAddress_32 rfl (lv_at hl 2 rfl) ?_
    refine va_get (D := D) (ci := 4) (v := .ref (ad 12)) hx hb hG inX4 hown hK hP 0 rfl rfl 6 (by decide) (hG _ kw124) (fun _ h9 => h9) rfl dX4_startAddress_33 ?_
    refine lv_aload hx hb dX4_startAddress_36 (lv_at hl 0 rfl) ?_
    refine va_get (D := D) (ci := 2) (v := .int (x.2.2.2.1.2.2.2.1)) hx hb hG inX2 hown hK hP 18 rfl rfl 0 (by decide) (hG _ kw141) (fun _ h9 => h9) rfl dX4_startAddress_38 ?_
    refine pu (D := D) (ci := 2) (v := .int (x.2.2.2.1.2.2.2.1)) (ty := .int) (W' := (wR cI cJ cP ad (x.1, x.2.1, x.2.2.1, x.2.2.2.1, x.2.2.2.2.1, (x.2.2.2.1.2.2.2.1, x.2.2.2.2.2.1.2.1, x.2.2.2.2.2.1.2.2), x.2.2.2.2.2.2.1, x.2.2.2.2.2.2.2))) hx hb hG inX2 tyX2 tyokX2 nmX2 hown hK hP hD hS 12 rfl rfl 0 (by decide) (hG _ kw141) (fun _ h9 => h9) rfl (by decide +kernel) rfl rfl (Nat.le_of_ble_eq_true rfl) dX4_startAddress_41 rfl (fun H locs hP hD hS => ?_)
    refine lv_aload_n hx hb dX4_startAddress_44 rfl (lv_at hl 2 rfl) ?_
    refine va_get (D := D) (ci := 4) (v := .ref (ad 12)) hx hb hG inX4 hown hK hP 0 rfl rfl 6 (by decide) (hG _ kw124) (fun _ h9 => h9) rfl dX4_startAddress_45 ?_
    refine lv_aload hx hb dX4_startAddress_48 (lv_at hl 0 rfl) ?_
    refine va_get (D := D) (ci := 2) (v := .int (x.2.2.2.1.2.2.2.2.1)) hx hb hG inX2 hown hK hP 18 rfl rfl 1 (by decide) (hG _ kw88) (fun _ h9 => h9) rfl dX4_startAddress_50 ?_
    refine lv_iload_n hx hb dX4_startAddress_53 rfl (lv_at hl 1 rfl) ?_
    refine k0Si (As := [.int (x.2.2.2.1.2.2.2.2.1), .int (r1)]) (rest := [.ref (ad 12)]) hx hb hml hown hG hl (okX4_sum l D cI cJ cP  H.size x.2.2.2.1.2.2.2.2.1 r1 ) (cS 2 hG kw34 kw89 kw35 kw5 hdX4_sum ⟨by decide, by decide⟩) hK hP hD hS hA hN rfl rfl (Nat.le_of_ble_eq_true rfl) dX4_startAddress_54 ⟨Nat.zero_le _, Nat.zero_le _⟩ (fun r23 q23 H locs hP hD hS => ?_)
    have j23 : i12 r23 := by rw [q23]; exact (sumX x.2.2.2.1.2.2.2.2.1 r1)
    refine pu (D := D) (ci := 2) (v := .int (r23)) (ty := .int) (W' := (wR cI cJ cP ad (x.1, x.2.1, x.2.2.1, x.2.2.2.1, x.2.2.2.2.1, (x.2.2.2.1.2.2.2.1, r23, x.2.2.2.2.2.1.2.2), x.2.2.2.2.2.2.1, x.2.2.2.2.2.2.2))) hx hb hG inX2 tyX2 tyokX2 nmX2 hown hK hP hD hS 12 rfl rfl 1 (by decide) (hG _ kw88) (fun _ h9 => h9) rfl (by decide +kernel) rfl rfl (Nat.le_of_ble_eq_true rfl) dX4_startAddress_57 rfl (fun H locs hP hD hS => ?_)
    refine lv_aload_n hx hb dX4_startAddress_60 rfl (lv_at hl 2 rfl) ?_
    refine va_get (D := D) (ci := 4) (v := .ref (ad 12)) hx hb hG inX4 hown hK hP 0 rfl rfl 6 (by decide) (hG _ kw124) (fun _ h9 => h9) rfl dX4_startAddress_61 ?_
    refine lv_aload_n hx hb dX4_startAddress_64 rfl (lv_at hl 2 rfl) ?_
    refine va_get (D := D) (ci := 4) (v := .ref (ad 19)) hx hb hG inX4 hown hK hP 0 rfl rfl 5 (by decide) (hG _ kw87) (fun _ h9 => h9) rfl dX4_startAddress_65 ?_
    refine va_get (D := D) (ci := 2) (v := .int (x.2.2.2.2.1.2.2)) hx hb hG inX2 hown hK hP 19 rfl rfl 2 (by decide) (hG _ kw119) (fun _ h9 => h9) rfl dX4_startAddress_68 ?_
    refine lv_aload hx hb dX4_startAddress_71 (lv_at hl 0 rfl) ?_
    refine va_get (D := D) (ci := 2) (v := .int (x.2.2.2.1.2.2.2.2.2)) hx hb hG inX2 hown hK hP 18 rfl rfl 2 (by decide) (hG _ kw119) (fun _ h9 => h9) rfl dX4_startAddress_73 ?_
    refine va_mmax hx hb (hml.trans hl.1.symm) hown (hG _ kw150) (hG _ kw151) (hG _ kw152) (hG _ kw153) (by decide) (Nat.le_of_ble_eq_true rfl) (Nat.zero_le _) (Nat.zero_le _) dX4_startAddress_76 ?_
    refine pu (D := D) (ci := 2) (v := .int ((if x.2.2.2.2.1.2.2 < x.2.2.2.1.2.2.2.2.2 then x.2.2.2.1.2.2.2.2.2 else x.2.2.2.2.1.2.2))) (ty := .int) (W' := (wR cI cJ cP ad (x.1, x.2.1, x.2.2.1, x.2.2.2.1, x.2.2.2.2.1, (x.2.2.2.1.2.2.2.1, r23, (if x.2.2.2.2.1.2.2 < x.2.2.2.1.2.2.2.2.2 then x.2.2.2.1.2.2.2.2.2 else x.2.2.2.2.1.2.2)), x.2.2.2.2.2.2.1, x.2.2.2.2.2.2.2))) hx hb hG inX2 tyX2 tyokX2 nmX2 hown hK hP hD hS 12 rfl rfl 2 (by decide) (hG _ kw119) (fun _ h9 => h9) rfl (by decide +kernel) rfl rfl (Nat.le_of_ble_eq_true rfl) dX4_startAddress_79 rfl (fun H locs hP hD hS => ?_)
    refine lv_goto (tgt := 121) hx hb dX4_startAddress_82 (by decide) ?_
    refine lv_lload_n hx hb dX4_startAddress_121 rfl (lv_at hl 3 rfl) ?_
    refine lv_bipush (v := 24) hx hb dX4_startAddress_122 (by decide) ?_
    refine lv_iconst (v := 2) hx hb dX4_startAddress_124 (by decide) ?_
    refine k0Si (As := [.long (a0), .int ((24 : Int32)), .int ((2 : Int32))]) (rest := []) hx hb hml hown hG hl (okX4_field l D cI cJ cP  H.size a0 (24 : Int32) (2 : Int32) ) (cS 3 hG kw4 kw135 kw6 kw5 hdX4_field ⟨by decide, by decide⟩) hK hP hD hS hA hN rfl rfl (Nat.le_of_ble_eq_true rfl) dX4_startAddress_125 ⟨Nat.zero_le _, Nat.zero_le _⟩ (fun r24 q24 H locs hP hD hS => ?_)
    have j24 : i2 r24 := by rw [q24]; exact (f2X a0 (24 : Int32))
    refine lv_istore (lv' := [(4, .int (r24)), (3, .int (r1)), (0, .ref (ad 0)), (1, .long (a0))]) hx hb dX4_startAddress_128 hl (by decide) rfl (fun ls hl => ?_)
    refine lv_iload hx hb dX4_startAddress_130 (lv_at hl 0 rfl) ?_
    refine lv_if_eq (tgt := 159) hx hb dX4_startAddress_132 (by decide) (fun h25 => ?_) (fun h25 => ?_)
    · exact retv (u := (x.1, x.2.1, x.2.2.1, x.2.2.2.1, x.2.2.2.2.1, (x.2.2.2.1.2.2.2.1, r23, (if x.2.2.2.2.1.2.2 < x.2.2.2.1.2.2.2.2.2 then x.2.2.2.1.2.2.2.2.2 else x.2.2.2.2.1.2.2)), x.2.2.2.2.2.2.1, x.2.2.2.2.2.2.2)) hx hb hr hlocks hK hP hD hS dX4_startAddress_159 (by unfold fnX4_startAddress; rw [← q1]; (try dsimp only); rw [if_neg h2]; rw [← q6]; (try dsimp only); rw [if_neg h7]; rw [if_neg h12]; rw [if_neg h17]; rw [← q23]; (try dsimp only); rw [← q24]; (try dsimp only); rw [if_pos h25]; (try exact rfl))
    · refine lv_aload_n hx hb dX4_startAddress_135 rfl (lv_at hl 2 rfl) ?_
      refine va_get (D := D) (ci := 4) (v := .ref (ad 12)) hx hb hG inX4 hown hK hP 0 rfl rfl 6 (by decide) (hG _ kw124) (fun _ h9 => h9) rfl dX4_startAddress_136 ?_
      refine lv_aload_n hx hb dX4_startAddress_139 rfl (lv_at hl 2 rfl) ?_
      refine va_get (D := D) (ci := 4) (v := .ref (ad 12)) hx hb hG inX4 hown hK hP 0 rfl rfl 6 (by decide) (hG _ kw124) (fun _ h9 => h9) rfl dX4_startAddress_140 ?_
      refine va_get (D := D) (ci := 2) (v := .int (r23)) hx hb hG inX2 hown hK hP 12 rfl rfl 1 (by decide) (hG _ kw88) (fun _ h9 => h9) rfl dX4_startAddress_143 ?_
      refine lv_aload_n hx hb dX4_startAddress_146 rfl (lv_at hl 2 rfl) ?_
      refine va_get (D := D) (ci := 4) (v := .ref (ad 13)) hx hb hG inX4 hown hK hP 0 rfl rfl 3 (by decide) (hG _ kw134) (fun _ h9 => h9) rfl dX4_startAddress_147 ?_
      refine lv_iload hx hb dX4_startAddress_150 (lv_at hl 0 rfl) ?_
      refine gi (D := D) (j := (r24).toNatClampNeg) (f := x.2.2.1) hx hb hK hP 13 0 rfl rfl (in2 j24) rfl dX4_startAddress_152 ?_
      refine k0Si (As := [.int (r23), .int ((x.2.2.1 (r24).toNatClampNeg))]) (rest := [.ref (ad 12)]) hx hb hml hown hG hl (okX4_sum l D cI cJ cP  H.size r23 (x.2.2.1 (r24).toNatClampNeg) ) (cS 2 hG kw34 kw89 kw35 kw5 hdX4_sum ⟨by decide, by decide⟩) hK hP hD hS hA hN rfl rfl (Nat.le_of_ble_eq_true rfl) dX4_startAddress_153 ⟨Nat.zero_le _, Nat.zero_le _⟩ (fun r26 q26 H locs hP hD hS => ?_)
      have j26 : i12 r26 := by rw [q26]; exact (sumX r23 (x.2.2.1 (r24).toNatClampNeg))
      refine pu (D := D) (ci := 2) (v := .int (r26)) (ty := .int) (W' := (wR cI cJ cP ad (x.1, x.2.1, x.2.2.1, x.2.2.2.1, x.2.2.2.2.1, (x.2.2.2.1.2.2.2.1, r26, (if x.2.2.2.2.1.2.2 < x.2.2.2.1.2.2.2.2.2 then x.2.2.2.1.2.2.2.2.2 else x.2.2.2.2.1.2.2)), x.2.2.2.2.2.2.1, x.2.2.2.2.2.2.2))) hx hb hG inX2 tyX2 tyokX2 nmX2 hown hK hP hD hS 12 rfl rfl 1 (by decide) (hG _ kw88) (fun _ h9 => h9) rfl (by decide +kernel) rfl rfl (Nat.le_of_ble_eq_true rfl) dX4_startAddress_156 rfl (fun H locs hP hD hS => ?_)
      exact retv (u := (x.1, x.2.1, x.2.2.1, x.2.2.2.1, x.2.2.2.2.1, (x.2.2.2.1.2.2.2.1, r26, (if x.2.2.2.2.1.2.2 < x.2.2.2.1.2.2.2.2.2 then x.2.2.2.1.2.2.2.2.2 else x.2.2.2.2.1.2.2)), x.2.2.2.2.2.2.1, x.2.2.2.2.2.2.2)) hx hb hr hlocks hK hP hD hS dX4_startAddress_159 (by unfold fnX4_startAddress; rw [← q1]; (try dsimp only); rw [if_neg h2]; rw [← q6]; (try dsimp only); rw [if_neg h7]; rw [if_neg h12]; rw [if_neg h17]; rw [← q23]; (try dsimp only); rw [← q24]; (try dsimp only); rw [if_neg h25]; rw [← q26]; (try dsimp only); (try exact rfl))
def fnX4_takeInterrupt (x : TR)  : Int32 × TR :=
  if x.2.1.2.1 = (0 : Int32) then
   if x.2.1.2.2.2.2.2.2 = (0 : Int32) then
    ((0 : Int32), x)
   else
    if (x.2.1.2.2.2.2.2.2 &&& (1 : Int32)) = (0 : Int32) then
     if (x.2.1.2.2.2.2.2.2 &&& (2 : Int32)) = (0 : Int32) then
      if (x.2.1.2.2.2.2.2.2 &&& (4 : Int32)) = (0 : Int32) then
       ((11 : Int32), (x.1, (x.2.1.1, x.2.1.2.1, x.2.1.2.2.1, x.2.1.2.2.2.1, x.2.1.2.2.2.2.1, x.2.1.2.2.2.2.2.1, (x.2.1.2.2.2.2.2.2 &&& (-9 : Int32))), x.2.2.1, x.2.2.2.1, x.2.2.2.2.1, x.2.2.2.2.2.1, x.2.2.2.2.2.2.1, x.2.2.2.2.2.2.2))
      else
       ((10 : Int32), (x.1, (x.2.1.1, x.2.1.2.1, x.2.1.2.2.1, x.2.1.2.2.2.1, x.2.1.2.2.2.2.1, x.2.1.2.2.2.2.2.1, (x.2.1.2.2.2.2.2.2 &&& (-5 : Int32))), x.2.2.1, x.2.2.2.1, x.2.2.2.2.1, x.2.2.2.2.2.1, x.2.2.2.2.2.2.1, x.2.2.2.2.2.2.2))
     else
      ((9 : Int32), (x.1, (x.2.1.1, x.2.1.2.1, x.2.1.2.2.1, x.2.1.2.2.2.1, x.2.1.2.2.2.2.1, x.2.1.2.2.2.2.2.1, (x.2.1.2.2.2.2.2.2 &&& (-3 : Int32))), x.2.2.1, x.2.2.2.1, x.2.2.2.2.1, x.2.2.2.2.2.1, x.2.2.2.2.2.2.1, x.2.2.2.2.2.2.2))
    else
     ((8 : Int32), (x.1, (x.2.1.1, x.2.1.2.1, x.2.1.2.2.1, x.2.1.2.2.2.1, x.2.1.2.2.2.2.1, x.2.1.2.2.2.2.2.1, (x.2.1.2.2.2.2.2.2 &&& (-2 : Int32))), x.2.2.1, x.2.2.2.1, x.2.2.2.2.1, x.2.2.2.2.2.1, x.2.2.2.2.2.2.1, x.2.2.2.2.2.2.2))
  else
   ((0 : Int32), x)
abbrev ivX4_takeInterruptP (z : Int32 × TR) : Prop := i4 z.1 ∧ iR z.2
set_option maxRecDepth 100000 in
set_option maxHeartbeats 4000000 in
theorem ivX4_takeInterrupt (x : TR)  (hI : iR x) : ivX4_takeInterruptP (fnX4_takeInterrupt x) := by
  unfold fnX4_takeInterrupt
  try dsimp only
  refine iteI (fun h1 => ?_) (fun h1 => ?_)
  · refine iteI (fun h2 => ?_) (fun h2 => ?_)
    · exact ⟨(show i4 (0 : Int32) from by decide), hI⟩
    · refine iteI (fun h3 => ?_) (fun h3 => ?_)
      · refine iteI (fun h4 => ?_) (fun h4 => ?_)
        · refine iteI (fun h5 => ?_) (fun h5 => ?_)
          · exact ⟨(show i4 (11 : Int32) from by decide), ⟨hI.1, (askm (-9) (by decide) hI.2.1), hI.2.2.1, hI.2.2.2.1, hI.2.2.2.2.1, hI.2.2.2.2.2.1, hI.2.2.2.2.2.2.1, hI.2.2.2.2.2.2.2⟩⟩
          · exact ⟨(show i4 (10 : Int32) from by decide), ⟨hI.1, (askm (-5) (by decide) hI.2.1), hI.2.2.1, hI.2.2.2.1, hI.2.2.2.2.1, hI.2.2.2.2.2.1, hI.2.2.2.2.2.2.1, hI.2.2.2.2.2.2.2⟩⟩
        · exact ⟨(show i4 (9 : Int32) from by decide), ⟨hI.1, (askm (-3) (by decide) hI.2.1), hI.2.2.1, hI.2.2.2.1, hI.2.2.2.2.1, hI.2.2.2.2.2.1, hI.2.2.2.2.2.2.1, hI.2.2.2.2.2.2.2⟩⟩
      · exact ⟨(show i4 (8 : Int32) from by decide), ⟨hI.1, (askm (-2) (by decide) hI.2.1), hI.2.2.1, hI.2.2.2.1, hI.2.2.2.2.1, hI.2.2.2.2.2.1, hI.2.2.2.2.2.2.1, hI.2.2.2.2.2.2.2⟩⟩
  · exact ⟨(show i4 (0 : Int32) from by decide), hI⟩
set_option maxRecDepth 100000 in
set_option maxHeartbeats 4000000 in
theorem okX4_takeInterrupt (l : Launch) (D : va_G) (cI cJ cP : ClassId) (ad : Nat → Nat) (sz : Nat) (x : TR)  (hI : iR x) : Met l yX4_takeInterrupt (Cond.code yX4_takeInterrupt cX4_takeInterrupt 2 (some .int) :: gG) { frames := 0, cells := 0, slots := 0, locals := 0 } (va_Pc [.ref (ad 0)] (PRE D (tz cI cJ cP) sz (wR cI cJ cP ad x))) (va_Qi (fun (r : Int32) (u : TR) => (r, u) = fnX4_takeInterrupt x) (AT D (tz cI cJ cP) (va_A (wR cI cJ cP ad x) sz) (fun (u : TR) => (wR cI cJ cP ad u))) (va_A (wR cI cJ cP ad x) sz)) 0 0 (va_A (wR cI cJ cP ad x) sz) := by
  refine mo (QA := fun A => va_Qi (fun (r : Int32) (u : TR) => (r, u) = fnX4_takeInterrupt x) (AT D (tz cI cJ cP) A (fun (u : TR) => (wR cI cJ cP ad u))) A) (by decide) (Nat.le_of_ble_eq_true rfl) ?_
  intro p e s m below meth c A ls H hx hb hr hml hown hG hlocks hnm hA hS hP hK hD hl hN
  have hown : s.vm.findClass RX4 = some m.cls := hown
  have hl : lv_has ls 2 [(0, .ref (ad 0))] := hl
  refine lv_aload_n hx hb dX4_takeInterrupt_0 rfl (lv_at hl 0 rfl) ?_
  refine va_get (D := D) (ci := 4) (v := .int (x.2.1.2.1)) hx hb hG inX4 hown hK hP 0 rfl rfl 9 (by decide) (hG _ kw96) (fun _ h9 => h9) rfl dX4_takeInterrupt_1 ?_
  refine lv_if_ne (tgt := 14) hx hb dX4_takeInterrupt_4 (by decide) (fun h1 => ?_) (fun h1 => ?_)
  · refine lv_iconst (v := 0) hx hb dX4_takeInterrupt_14 (by decide) ?_
    exact reti (u := x) hx hb hr hlocks hK hP hD hS dX4_takeInterrupt_15 (by unfold fnX4_takeInterrupt; (try dsimp only); rw [if_neg h1]; (try exact rfl))
  · refine lv_aload_n hx hb dX4_takeInterrupt_7 rfl (lv_at hl 0 rfl) ?_
    refine va_get (D := D) (ci := 4) (v := .int (x.2.1.2.2.2.2.2.2)) hx hb hG inX4 hown hK hP 0 rfl rfl 14 (by decide) (hG _ kw159) (fun _ h9 => h9) rfl dX4_takeInterrupt_8 ?_
    refine lv_if_ne (tgt := 16) hx hb dX4_takeInterrupt_11 (by decide) (fun h2 => ?_) (fun h2 => ?_)
    · refine lv_iconst (v := 0) hx hb dX4_takeInterrupt_16 (by decide) ?_
      refine lv_istore_n (lv' := [(1, .int ((0 : Int32))), (0, .ref (ad 0))]) hx hb dX4_takeInterrupt_17 rfl hl (by decide) rfl (fun ls hl => ?_)
      refine lv_iload_n hx hb dX4_takeInterrupt_18 rfl (lv_at hl 0 rfl) ?_
      refine lv_iconst (v := 3) hx hb dX4_takeInterrupt_19 (by decide) ?_
      refine lv_icmp_ge (tgt := 40) hx hb dX4_takeInterrupt_20 (by decide) (fun h9 => absurd h9 (by decide)) (fun _ => ?_)
      refine lv_aload_n hx hb dX4_takeInterrupt_23 rfl (lv_at hl 1 rfl) ?_
      refine va_get (D := D) (ci := 4) (v := .int (x.2.1.2.2.2.2.2.2)) hx hb hG inX4 hown hK hP 0 rfl rfl 14 (by decide) (hG _ kw159) (fun _ h9 => h9) rfl dX4_takeInterrupt_24 ?_
      refine lv_iconst (v := 1) hx hb dX4_takeInterrupt_27 (by decide) ?_
      refine lv_iload_n hx hb dX4_takeInterrupt_28 rfl (lv_at hl 0 rfl) ?_
      refine lv_ishl hx hb dX4_takeInterrupt_29 ?_
      refine tI (y := 1) (by decide) ?_
      refine lv_iand hx hb dX4_takeInterrupt_30 ?_
      refine lv_if_ne (tgt := 40) hx hb dX4_takeInterrupt_31 (by decide) (fun h3 => ?_) (fun h3 => ?_)
      · refine lv_aload_n hx hb dX4_takeInterrupt_40 rfl (lv_at hl 1 rfl) ?_
        refine lv_dup hx hb dX4_takeInterrupt_41 rfl ?_
        refine va_get (D := D) (ci := 4) (v := .int (x.2.1.2.2.2.2.2.2)) hx hb hG inX4 hown hK hP 0 rfl rfl 14 (by decide) (hG _ kw159) (fun _ h9 => h9) rfl dX4_takeInterrupt_42 ?_
        refine lv_iconst (v := 1) hx hb dX4_takeInterrupt_45 (by decide) ?_
        refine lv_iload_n hx hb dX4_takeInterrupt_46 rfl (lv_at hl 0 rfl) ?_
        refine lv_ishl hx hb dX4_takeInterrupt_47 ?_
        refine tI (y := 1) (by decide) ?_
        refine lv_iconst (v := (-1)) hx hb dX4_takeInterrupt_48 (by decide) ?_
        refine lv_ixor hx hb dX4_takeInterrupt_49 ?_
        refine tI (y := (-2)) (by decide) ?_
        refine lv_iand hx hb dX4_takeInterrupt_50 ?_
        refine pu (D := D) (ci := 4) (v := .int ((x.2.1.2.2.2.2.2.2 &&& (-2 : Int32)))) (ty := .int) (W' := (wR cI cJ cP ad (x.1, (x.2.1.1, x.2.1.2.1, x.2.1.2.2.1, x.2.1.2.2.2.1, x.2.1.2.2.2.2.1, x.2.1.2.2.2.2.2.1, (x.2.1.2.2.2.2.2.2 &&& (-2 : Int32))), x.2.2.1, x.2.2.2.1, x.2.2.2.2.1, x.2.2.2.2.2.1, x.2.2.2.2.2.2.1, x.2.2.2.2.2.2.2))) hx hb hG inX4 tyX4 tyokX4 nmX4 hown hK hP hD hS 0 rfl rfl 14 (by decide) (hG _ kw159) (fun _ h9 => h9) rfl (by decide +kernel) rfl rfl (Nat.le_of_ble_eq_true rfl) dX4_takeInterrupt_51 rfl (fun H locs hP hD hS => ?_)
        refine lv_bipush (v := 8) hx hb dX4_takeInterrupt_54 (by decide) ?_
        refine lv_iload_n hx hb dX4_takeInterrupt_56 rfl (lv_at hl 0 rfl) ?_
        refine lv_iadd hx hb dX4_takeInterrupt_57 ?_
        refine tI (y := 8) (by decide) ?_
        exact reti (u := (x.1, (x.2.1.1, x.2.1.2.1, x.2.1.2.2.1, x.2.1.2.2.2.1, x.2.1.2.2.2.2.1, x.2.1.2.2.2.2.2.1, (x.2.1.2.2.2.2.2.2 &&& (-2 : Int32))), x.2.2.1, x.2.2.2.1, x.2.2.2.2.1, x.2.2.2.2.2.1, x.2.2.2.2.2.2.1, x.2.2.2.2.2.2.2)) hx hb hr hlocks hK hP hD hS dX4_takeInterrupt_58 (by unfold fnX4_takeInterrupt; (try dsimp only); rw [if_pos h1]; rw [if_neg h2]; rw [if_neg h3]; (try exact rfl))
      · refine lv_iinc (k := 0) (v := (1 : Int32)) (lv' := [(1, .int ((1 : Int32))), (0, .ref (ad 0))]) hx hb dX4_takeInterrupt_34 hl rfl (by decide) (by decide) rfl (fun ls hl => ?_)
        refine lv_goto (tgt := 18) hx hb dX4_takeInterrupt_37 (by decide) ?_
        refine lv_iload_n hx hb dX4_takeInterrupt_18 rfl (lv_at hl 0 rfl) ?_
        refine lv_iconst (v := 3) hx hb dX4_takeInterrupt_19 (by decide) ?_
        refine lv_icmp_ge (tgt := 40) hx hb dX4_takeInterrupt_20 (by decide) (fun h9 => absurd h9 (by decide)) (fun _ => ?_)
        refine lv_aload_n hx hb dX4_takeInterrupt_23 rfl (lv_at hl 1 rfl) ?_
        refine va_get (D := D) (ci := 4) (v := .int (x.2.1.2.2.2.2.2.2)) hx hb hG inX4 hown hK hP 0 rfl rfl 14 (by decide) (hG _ kw159) (fun _ h9 => h9) rfl dX4_takeInterrupt_24 ?_
        refine lv_iconst (v := 1) hx hb dX4_takeInterrupt_27 (by decide) ?_
        refine lv_iload_n hx hb dX4_takeInterrupt_28 rfl (lv_at hl 0 rfl) ?_
        refine lv_ishl hx hb dX4_takeInterrupt_29 ?_
        refine tI (y := 2) (by decide) ?_
        refine lv_iand hx hb dX4_takeInterrupt_30 ?_
        refine lv_if_ne (tgt := 40) hx hb dX4_takeInterrupt_31 (by decide) (fun h4 => ?_) (fun h4 => ?_)
        · refine lv_aload_n hx hb dX4_takeInterrupt_40 rfl (lv_at hl 1 rfl) ?_
          refine lv_dup hx hb dX4_takeInterrupt_41 rfl ?_
          refine va_get (D := D) (ci := 4) (v := .int (x.2.1.2.2.2.2.2.2)) hx hb hG inX4 hown hK hP 0 rfl rfl 14 (by decide) (hG _ kw159) (fun _ h9 => h9) rfl dX4_takeInterrupt_42 ?_
          refine lv_iconst (v := 1) hx hb dX4_takeInterrupt_45 (by decide) ?_
          refine lv_iload_n hx hb dX4_takeInterrupt_46 rfl (lv_at hl 0 rfl) ?_
          refine lv_ishl hx hb dX4_takeInterrupt_47 ?_
          refine tI (y := 2) (by decide) ?_
          refine lv_iconst (v := (-1)) hx hb dX4_takeInterrupt_48 (by decide) ?_
          refine lv_ixor hx hb dX4_takeInterrupt_49 ?_
          refine tI (y := (-3)) (by decide) ?_
          refine lv_iand hx hb dX4_takeInterrupt_50 ?_
          refine pu (D := D) (ci := 4) (v := .int ((x.2.1.2.2.2.2.2.2 &&& (-3 : Int32)))) (ty := .int) (W' := (wR cI cJ cP ad (x.1, (x.2.1.1, x.2.1.2.1, x.2.1.2.2.1, x.2.1.2.2.2.1, x.2.1.2.2.2.2.1, x.2.1.2.2.2.2.2.1, (x.2.1.2.2.2.2.2.2 &&& (-3 : Int32))), x.2.2.1, x.2.2.2.1, x.2.2.2.2.1, x.2.2.2.2.2.1, x.2.2.2.2.2.2.1, x.2.2.2.2.2.2.2))) hx hb hG inX4 tyX4 tyokX4 nmX4 hown hK hP hD hS 0 rfl rfl 14 (by decide) (hG _ kw159) (fun _ h9 => h9) rfl (by decide +kernel) rfl rfl (Nat.le_of_ble_eq_true rfl) dX4_takeInterrupt_51 rfl (fun H locs hP hD hS => ?_)
          refine lv_bipush (v := 8) hx hb dX4_takeInterrupt_54 (by decide) ?_
          refine lv_iload_n hx hb dX4_takeInterrupt_56 rfl (lv_at hl 0 rfl) ?_
          refine lv_iadd hx hb dX4_takeInterrupt_57 ?_
          refine tI (y := 9) (by decide) ?_
          exact reti (u := (x.1, (x.2.1.1, x.2.1.2.1, x.2.1.2.2.1, x.2.1.2.2.2.1, x.2.1.2.2.2.2.1, x.2.1.2.2.2.2.2.1, (x.2.1.2.2.2.2.2.2 &&& (-3 : Int32))), x.2.2.1, x.2.2.2.1, x.2.2.2.2.1, x.2.2.2.2.2.1, x.2.2.2.2.2.2.1, x.2.2.2.2.2.2.2)) hx hb hr hlocks hK hP hD hS dX4_takeInterrupt_58 (by unfold fnX4_takeInterrupt; (try dsimp only); rw [if_pos h1]; rw [if_neg h2]; rw [if_pos h3]; rw [if_neg h4]; (try exact rfl))
        · refine lv_iinc (k := 0) (v := (2 : Int32)) (lv' := [(1, .int ((2 : Int32))), (0, .ref (ad 0))]) hx hb dX4_takeInterrupt_34 hl rfl (by decide) (by decide) rfl (fun ls hl => ?_)
          refine lv_goto (tgt := 18) hx hb dX4_takeInterrupt_37 (by decide) ?_
          refine lv_iload_n hx hb dX4_takeInterrupt_18 rfl (lv_at hl 0 rfl) ?_
          refine lv_iconst (v := 3) hx hb dX4_takeInterrupt_19 (by decide) ?_
          refine lv_icmp_ge (tgt := 40) hx hb dX4_takeInterrupt_20 (by decide) (fun h9 => absurd h9 (by decide)) (fun _ => ?_)
          refine lv_aload_n hx hb dX4_takeInterrupt_23 rfl (lv_at hl 1 rfl) ?_
          refine va_get (D := D) (ci := 4) (v := .int (x.2.1.2.2.2.2.2.2)) hx hb hG inX4 hown hK hP 0 rfl rfl 14 (by decide) (hG _ kw159) (fun _ h9 => h9) rfl dX4_takeInterrupt_24 ?_
          refine lv_iconst (v := 1) hx hb dX4_takeInterrupt_27 (by decide) ?_
          refine lv_iload_n hx hb dX4_takeInterrupt_28 rfl (lv_at hl 0 rfl) ?_
          refine lv_ishl hx hb dX4_takeInterrupt_29 ?_
          refine tI (y := 4) (by decide) ?_
          refine lv_iand hx hb dX4_takeInterrupt_30 ?_
          refine lv_if_ne (tgt := 40) hx hb dX4_takeInterrupt_31 (by decide) (fun h5 => ?_) (fun h5 => ?_)
          · refine lv_aload_n hx hb dX4_takeInterrupt_40 rfl (lv_at hl 1 rfl) ?_
            refine lv_dup hx hb dX4_takeInterrupt_41 rfl ?_
            refine va_get (D := D) (ci := 4) (v := .int (x.2.1.2.2.2.2.2.2)) hx hb hG inX4 hown hK hP 0 rfl rfl 14 (by decide) (hG _ kw159) (fun _ h9 => h9) rfl dX4_takeInterrupt_42 ?_
            refine lv_iconst (v := 1) hx hb dX4_takeInterrupt_45 (by decide) ?_
            refine lv_iload_n hx hb dX4_takeInterrupt_46 rfl (lv_at hl 0 rfl) ?_
            refine lv_ishl hx hb dX4_takeInterrupt_47 ?_
            refine tI (y := 4) (by decide) ?_
            refine lv_iconst (v := (-1)) hx hb dX4_takeInterrupt_48 (by decide) ?_
            refine lv_ixor hx hb dX4_takeInterrupt_49 ?_
            refine tI (y := (-5)) (by decide) ?_
            refine lv_iand hx hb dX4_takeInterrupt_50 ?_
            refine pu (D := D) (ci := 4) (v := .int ((x.2.1.2.2.2.2.2.2 &&& (-5 : Int32)))) (ty := .int) (W' := (wR cI cJ cP ad (x.1, (x.2.1.1, x.2.1.2.1, x.2.1.2.2.1, x.2.1.2.2.2.1, x.2.1.2.2.2.2.1, x.2.1.2.2.2.2.2.1, (x.2.1.2.2.2.2.2.2 &&& (-5 : Int32))), x.2.2.1, x.2.2.2.1, x.2.2.2.2.1, x.2.2.2.2.2.1, x.2.2.2.2.2.2.1, x.2.2.2.2.2.2.2))) hx hb hG inX4 tyX4 tyokX4 nmX4 hown hK hP hD hS 0 rfl rfl 14 (by decide) (hG _ kw159) (fun _ h9 => h9) rfl (by decide +kernel) rfl rfl (Nat.le_of_ble_eq_true rfl) dX4_takeInterrupt_51 rfl (fun H locs hP hD hS => ?_)
            refine lv_bipush (v := 8) hx hb dX4_takeInterrupt_54 (by decide) ?_
            refine lv_iload_n hx hb dX4_takeInterrupt_56 rfl (lv_at hl 0 rfl) ?_
            refine lv_iadd hx hb dX4_takeInterrupt_57 ?_
            refine tI (y := 10) (by decide) ?_
            exact reti (u := (x.1, (x.2.1.1, x.2.1.2.1, x.2.1.2.2.1, x.2.1.2.2.2.1, x.2.1.2.2.2.2.1, x.2.1.2.2.2.2.2.1, (x.2.1.2.2.2.2.2.2 &&& (-5 : Int32))), x.2.2.1, x.2.2.2.1, x.2.2.2.2.1, x.2.2.2.2.2.1, x.2.2.2.2.2.2.1, x.2.2.2.2.2.2.2)) hx hb hr hlocks hK hP hD hS dX4_takeInterrupt_58 (by unfold fnX4_takeInterrupt; (try dsimp only); rw [if_pos h1]; rw [if_neg h2]; rw [if_pos h3]; rw [if_pos h4]; rw [if_neg h5]; (try exact rfl))
          · refine lv_iinc (k := 0) (v := (3 : Int32)) (lv' := [(1, .int ((3 : Int32))), (0, .ref (ad 0))]) hx hb dX4_takeInterrupt_34 hl rfl (by decide) (by decide) rfl (fun ls hl => ?_)
            refine lv_goto (tgt := 18) hx hb dX4_takeInterrupt_37 (by decide) ?_
            refine lv_iload_n hx hb dX4_takeInterrupt_18 rfl (lv_at hl 0 rfl) ?_
            refine lv_iconst (v := 3) hx hb dX4_takeInterrupt_19 (by decide) ?_
            refine lv_icmp_ge (tgt := 40) hx hb dX4_takeInterrupt_20 (by decide) (fun _ => ?_) (fun h9 => absurd (by decide) h9)
            refine lv_aload_n hx hb dX4_takeInterrupt_40 rfl (lv_at hl 1 rfl) ?_
            refine lv_dup hx hb dX4_takeInterrupt_41 rfl ?_
            refine va_get (D := D) (ci := 4) (v := .int (x.2.1.2.2.2.2.2.2)) hx hb hG inX4 hown hK hP 0 rfl rfl 14 (by decide) (hG _ kw159) (fun _ h9 => h9) rfl dX4_takeInterrupt_42 ?_
            refine lv_iconst (v := 1) hx hb dX4_takeInterrupt_45 (by decide) ?_
            refine lv_iload_n hx hb dX4_takeInterrupt_46 rfl (lv_at hl 0 rfl) ?_
            refine lv_ishl hx hb dX4_takeInterrupt_47 ?_
            refine tI (y := 8) (by decide) ?_
            refine lv_iconst (v := (-1)) hx hb dX4_takeInterrupt_48 (by decide) ?_
            refine lv_ixor hx hb dX4_takeInterrupt_49 ?_
            refine tI (y := (-9)) (by decide) ?_
            refine lv_iand hx hb dX4_takeInterrupt_50 ?_
            refine pu (D := D) (ci := 4) (v := .int ((x.2.1.2.2.2.2.2.2 &&& (-9 : Int32)))) (ty := .int) (W' := (wR cI cJ cP ad (x.1, (x.2.1.1, x.2.1.2.1, x.2.1.2.2.1, x.2.1.2.2.2.1, x.2.1.2.2.2.2.1, x.2.1.2.2.2.2.2.1, (x.2.1.2.2.2.2.2.2 &&& (-9 : Int32))), x.2.2.1, x.2.2.2.1, x.2.2.2.2.1, x.2.2.2.2.2.1, x.2.2.2.2.2.2.1, x.2.2.2.2.2.2.2))) hx hb hG inX4 tyX4 tyokX4 nmX4 hown hK hP hD hS 0 rfl rfl 14 (by decide) (hG _ kw159) (fun _ h9 => h9) rfl (by decide +kernel) rfl rfl (Nat.le_of_ble_eq_true rfl) dX4_takeInterrupt_51 rfl (fun H locs hP hD hS => ?_)
            refine lv_bipush (v := 8) hx hb dX4_takeInterrupt_54 (by decide) ?_
            refine lv_iload_n hx hb dX4_takeInterrupt_56 rfl (lv_at hl 0 rfl) ?_
            refine lv_iadd hx hb dX4_takeInterrupt_57 ?_
            refine tI (y := 11) (by decide) ?_
            exact reti (u := (x.1, (x.2.1.1, x.2.1.2.1, x.2.1.2.2.1, x.2.1.2.2.2.1, x.2.1.2.2.2.2.1, x.2.1.2.2.2.2.2.1, (x.2.1.2.2.2.2.2.2 &&& (-9 : Int32))), x.2.2.1, x.2.2.2.1, x.2.2.2.2.1, x.2.2.2.2.2.1, x.2.2.2.2.2.2.1, x.2.2.2.2.2.2.2)) hx hb hr hlocks hK hP hD hS dX4_takeInterrupt_58 (by unfold fnX4_takeInterrupt; (try dsimp only); rw [if_pos h1]; rw [if_neg h2]; rw [if_pos h3]; rw [if_pos h4]; rw [if_pos h5]; (try exact rfl))
    · refine lv_iconst (v := 0) hx hb dX4_takeInterrupt_14 (by decide) ?_
      exact reti (u := x) hx hb hr hlocks hK hP hD hS dX4_takeInterrupt_15 (by unfold fnX4_takeInterrupt; (try dsimp only); rw [if_pos h1]; rw [if_pos h2]; (try exact rfl))
def fnX4_enter (x : TR) (a0 : Int32) : TR :=
  if (4 : Int32) < a0 then
   if x.2.1.2.1 = (0 : Int32) then
    let p3 := fnX2_become x.2.2.2.2.2.2.1 x.2.2.2.2.1
    (x.1, ((1 : Int32), (1 : Int32), x.2.1.2.2.1, a0, x.2.2.2.2.1.1, x.2.2.2.2.1.2.1, x.2.1.2.2.2.2.2.2), x.2.2.1, x.2.2.2.1, ((0 : Int32), ((16 : Int32) + a0), (0 : Int32)), x.2.2.2.2.2.1, p3, x.2.2.2.2.2.2.2)
   else
    (x.1, (x.2.1.1, x.2.1.2.1, (1 : Int32), a0, x.2.2.2.2.1.1, x.2.2.2.2.1.2.1, x.2.1.2.2.2.2.2.2), x.2.2.1, x.2.2.2.1, x.2.2.2.2.1, x.2.2.2.2.2.1, x.2.2.2.2.2.2.1, x.2.2.2.2.2.2.2)
  else
   if x.2.1.2.1 = (0 : Int32) then
    let p5 := fnX2_become x.2.2.2.2.2.2.1 x.2.2.2.2.1
    (x.1, ((1 : Int32), (1 : Int32), x.2.1.2.2.1, a0, x.2.2.2.2.2.1.1, x.2.2.2.2.2.1.2.1, x.2.1.2.2.2.2.2.2), x.2.2.1, x.2.2.2.1, ((0 : Int32), ((16 : Int32) + a0), (0 : Int32)), x.2.2.2.2.2.1, p5, x.2.2.2.2.2.2.2)
   else
    (x.1, (x.2.1.1, x.2.1.2.1, (1 : Int32), a0, x.2.2.2.2.2.1.1, x.2.2.2.2.2.1.2.1, x.2.1.2.2.2.2.2.2), x.2.2.1, x.2.2.2.1, x.2.2.2.2.1, x.2.2.2.2.2.1, x.2.2.2.2.2.2.1, x.2.2.2.2.2.2.2)
abbrev ivX4_enterP (z : TR) : Prop := iR z
set_option maxRecDepth 100000 in
set_option maxHeartbeats 4000000 in
theorem ivX4_enter (x : TR) (a0 : Int32) (hI : iR x) (g0 : i4 a0) : ivX4_enterP (fnX4_enter x a0) := by
  unfold fnX4_enter
  try dsimp only
  refine iteI (fun h1 => ?_) (fun h1 => ?_)
  · refine iteI (fun h2 => ?_) (fun h2 => ?_)
    · have j3 : ivX2_becomeP (fnX2_become x.2.2.2.2.2.2.1 x.2.2.2.2.1) := ivX2_become x.2.2.2.2.2.2.1 x.2.2.2.2.1 hI.2.2.2.2.2.2.1 hI.2.2.2.2.1
      generalize fnX2_become x.2.2.2.2.2.2.1 x.2.2.2.2.1 = p3 at j3 ⊢
      exact ⟨hI.1, hI.2.1, hI.2.2.1, hI.2.2.2.1, ⟨(show i4 (0 : Int32) from by decide), (ent g0), (show i3 (0 : Int32) from by decide)⟩, hI.2.2.2.2.2.1, j3, hI.2.2.2.2.2.2.2⟩
    · exact ⟨hI.1, hI.2.1, hI.2.2.1, hI.2.2.2.1, hI.2.2.2.2.1, hI.2.2.2.2.2.1, hI.2.2.2.2.2.2.1, hI.2.2.2.2.2.2.2⟩
  · refine iteI (fun h4 => ?_) (fun h4 => ?_)
    · have j5 : ivX2_becomeP (fnX2_become x.2.2.2.2.2.2.1 x.2.2.2.2.1) := ivX2_become x.2.2.2.2.2.2.1 x.2.2.2.2.1 hI.2.2.2.2.2.2.1 hI.2.2.2.2.1
      generalize fnX2_become x.2.2.2.2.2.2.1 x.2.2.2.2.1 = p5 at j5 ⊢
      exact ⟨hI.1, hI.2.1, hI.2.2.1, hI.2.2.2.1, ⟨(show i4 (0 : Int32) from by decide), (ent g0), (show i3 (0 : Int32) from by decide)⟩, hI.2.2.2.2.2.1, j5, hI.2.2.2.2.2.2.2⟩
    · exact ⟨hI.1, hI.2.1, hI.2.2.1, hI.2.2.2.1, hI.2.2.2.2.1, hI.2.2.2.2.2.1, hI.2.2.2.2.2.2.1, hI.2.2.2.2.2.2.2⟩
set_option maxRecDepth 100000 in
set_option maxHeartbeats 4000000 in
theorem okX4_enter (l : Launch) (D : va_G) (cI cJ cP : ClassId) (ad : Nat → Nat) (sz : Nat) (x : TR) (a0 : Int32) (hI : iR x) (g0 : i4 a0) : Met l yX4_enter (Cond.code yX4_enter cX4_enter 3 none :: gG) { frames := 1, cells := 0, slots := 0, locals := 21 } (va_Pc [.ref (ad 0), .int a0] (PRE D (tz cI cJ cP) sz (wR cI cJ cP ad x))) (va_Qv (fun (u : TR) => u = fnX4_enter x a0) (AT D (tz cI cJ cP) (va_A (wR cI cJ cP ad x) sz) (fun (u : TR) => (wR cI cJ cP ad u))) (va_A (wR cI cJ cP ad x) sz)) 0 0 (va_A (wR cI cJ cP ad x) sz) := by
  refine mo (QA := fun A => va_Qv (fun (u : TR) => u = fnX4_enter x a0) (AT D (tz cI cJ cP) A (fun (u : TR) => (wR cI cJ cP ad u))) A) (by decide) (Nat.le_of_ble_eq_true rfl) ?_
  intro p e s m below meth c A ls H hx hb hr hml hown hG hlocks hnm hA hS hP hK hD hl hN
  have hown : s.vm.findClass RX4 = some m.cls := hown
  have hl : lv_has ls 3 [(0, .ref (ad 0)), (1, .int a0)] := hl
  refine lv_iload_n hx hb dX4_enter_0 rfl (lv_at hl 1 rfl) ?_
  refine lv_iconst (v := 4) hx hb dX4_enter_1 (by decide) ?_
  refine lv_icmp_gt (tgt := 12) hx hb dX4_enter_2 (by decide) (fun h1 => ?_) (fun h1 => ?_)
  · refine lv_aload_n hx hb dX4_enter_12 rfl (lv_at hl 0 rfl) ?_
    refine va_get (D := D) (ci := 4) (v := .ref (ad 19)) hx hb hG inX4 hown hK hP 0 rfl rfl 5 (by decide) (hG _ kw87) (fun _ h9 => h9) rfl dX4_enter_13 ?_
    refine lv_astore_n (lv' := [(2, .ref (ad 19)), (0, .ref (ad 0)), (1, .int (a0))]) hx hb dX4_enter_16 rfl hl (by decide) rfl (fun ls hl => ?_)
    refine lv_aload_n hx hb dX4_enter_17 rfl (lv_at hl 1 rfl) ?_
    refine lv_iload_n hx hb dX4_enter_18 rfl (lv_at hl 2 rfl) ?_
    refine pu (D := D) (ci := 4) (v := .int (a0)) (ty := .int) (W' := (wR cI cJ cP ad (x.1, (x.2.1.1, x.2.1.2.1, x.2.1.2.2.1, a0, x.2.1.2.2.2.2.1, x.2.1.2.2.2.2.2.1, x.2.1.2.2.2.2.2.2), x.2.2.1, x.2.2.2.1, x.2.2.2.2.1, x.2.2.2.2.2.1, x.2.2.2.2.2.2.1, x.2.2.2.2.2.2.2))) hx hb hG inX4 tyX4 tyokX4 nmX4 hown hK hP hD hS 0 rfl rfl 11 (by decide) (hG _ kw160) (fun _ h9 => h9) rfl (by decide +kernel) rfl rfl (Nat.le_of_ble_eq_true rfl) dX4_enter_19 rfl (fun H locs hP hD hS => ?_)
    refine lv_aload_n hx hb dX4_enter_22 rfl (lv_at hl 1 rfl) ?_
    refine lv_aload_n hx hb dX4_enter_23 rfl (lv_at hl 0 rfl) ?_
    refine va_get (D := D) (ci := 2) (v := .int (x.2.2.2.2.1.1)) hx hb hG inX2 hown hK hP 19 rfl rfl 0 (by decide) (hG _ kw141) (fun _ h9 => h9) rfl dX4_enter_24 ?_
    refine pu (D := D) (ci := 4) (v := .int (x.2.2.2.2.1.1)) (ty := .int) (W' := (wR cI cJ cP ad (x.1, (x.2.1.1, x.2.1.2.1, x.2.1.2.2.1, a0, x.2.2.2.2.1.1, x.2.1.2.2.2.2.2.1, x.2.1.2.2.2.2.2.2), x.2.2.1, x.2.2.2.1, x.2.2.2.2.1, x.2.2.2.2.2.1, x.2.2.2.2.2.2.1, x.2.2.2.2.2.2.2))) hx hb hG inX4 tyX4 tyokX4 nmX4 hown hK hP hD hS 0 rfl rfl 12 (by decide) (hG _ kw161) (fun _ h9 => h9) rfl (by decide +kernel) rfl rfl (Nat.le_of_ble_eq_true rfl) dX4_enter_27 rfl (fun H locs hP hD hS => ?_)
    refine lv_aload_n hx hb dX4_enter_30 rfl (lv_at hl 1 rfl) ?_
    refine lv_aload_n hx hb dX4_enter_31 rfl (lv_at hl 0 rfl) ?_
    refine va_get (D := D) (ci := 2) (v := .int (x.2.2.2.2.1.2.1)) hx hb hG inX2 hown hK hP 19 rfl rfl 1 (by decide) (hG _ kw88) (fun _ h9 => h9) rfl dX4_enter_32 ?_
    refine pu (D := D) (ci := 4) (v := .int (x.2.2.2.2.1.2.1)) (ty := .int) (W' := (wR cI cJ cP ad (x.1, (x.2.1.1, x.2.1.2.1, x.2.1.2.2.1, a0, x.2.2.2.2.1.1, x.2.2.2.2.1.2.1, x.2.1.2.2.2.2.2.2), x.2.2.1, x.2.2.2.1, x.2.2.2.2.1, x.2.2.2.2.2.1, x.2.2.2.2.2.2.1, x.2.2.2.2.2.2.2))) hx hb hG inX4 tyX4 tyokX4 nmX4 hown hK hP hD hS 0 rfl rfl 13 (by decide) (hG _ kw162) (fun _ h9 => h9) rfl (by decide +kernel) rfl rfl (Nat.le_of_ble_eq_true rfl) dX4_enter_35 rfl (fun H locs hP hD hS => ?_)
    refine lv_aload_n hx hb dX4_enter_38 rfl (lv_at hl 1 rfl) ?_
    refine va_get (D := D) (ci := 4) (v := .int (x.2.1.2.1)) hx hb hG inX4 hown hK hP 0 rfl rfl 9 (by decide) (hG _ kw96) (fun _ h9 => h9) rfl dX4_enter_39 ?_
    refine lv_if_eq (tgt := 51) hx hb dX4_enter_42 (by decide) (fun h2 => ?_) (fun h2 => ?_)
    · refine lv_aload_n hx hb dX4_enter_51 rfl (lv_at hl 1 rfl) ?_
      refine va_get (D := D) (ci := 4) (v := .ref (ad 20)) hx hb hG inX4 hown hK hP 0 rfl rfl 7 (by decide) (hG _ kw97) (fun _ h9 => h9) rfl dX4_enter_52 ?_
      refine lv_aload_n hx hb dX4_enter_55 rfl (lv_at hl 1 rfl) ?_
      refine va_get (D := D) (ci := 4) (v := .ref (ad 19)) hx hb hG inX4 hown hK hP 0 rfl rfl 5 (by decide) (hG _ kw87) (fun _ h9 => h9) rfl dX4_enter_56 ?_
      refine kVv (As := [.ref (ad 19)]) (rest := []) (W' := (fun u3 => (wR cI cJ cP ad (x.1, (x.2.1.1, x.2.1.2.1, x.2.1.2.2.1, a0, x.2.2.2.2.1.1, x.2.2.2.2.1.2.1, x.2.1.2.2.2.2.2.2), x.2.2.1, x.2.2.2.1, x.2.2.2.2.1, x.2.2.2.2.2.1, u3, x.2.2.2.2.2.2.2)))) hx hb hml hown hG hl (okX2_become l D cI cJ cP (ad 20) (ad 19) H.size x.2.2.2.2.2.2.1 x.2.2.2.2.1 hI.2.2.2.2.2.2.1 hI.2.2.2.2.1) (cV 1 hG kw98 kw100 kw101 kw102 kw99 hdX2_become ⟨by decide, by decide⟩) 20 2 rfl rfl hK hP hD hS hA hN [20, 19] rfl rfl rfl (fun _ => rfl) (fun _ => rfl) rfl rfl (Nat.le_of_ble_eq_true rfl) dX4_enter_59 ⟨Nat.zero_le _, Nat.zero_le _⟩ (fun u3 q3 H locs hP hD hS => ?_)
      have j3 : ivX2_becomeP u3 := by rw [q3]; exact ivX2_become x.2.2.2.2.2.2.1 x.2.2.2.2.1 hI.2.2.2.2.2.2.1 hI.2.2.2.2.1
      refine lv_aload_n hx hb dX4_enter_62 rfl (lv_at hl 1 rfl) ?_
      refine lv_iconst (v := 1) hx hb dX4_enter_63 (by decide) ?_
      refine pu (D := D) (ci := 4) (v := .int ((1 : Int32))) (ty := .boolean) (W' := (wR cI cJ cP ad (x.1, ((1 : Int32), x.2.1.2.1, x.2.1.2.2.1, a0, x.2.2.2.2.1.1, x.2.2.2.2.1.2.1, x.2.1.2.2.2.2.2.2), x.2.2.1, x.2.2.2.1, x.2.2.2.2.1, x.2.2.2.2.2.1, u3, x.2.2.2.2.2.2.2))) hx hb hG inX4 tyX4 tyokX4 nmX4 hown hK hP hD hS 0 rfl rfl 8 (by decide) (hG _ kw163) (fun _ h9 => h9) rfl (by decide +kernel) rfl rfl (Nat.le_of_ble_eq_true rfl) dX4_enter_64 rfl (fun H locs hP hD hS => ?_)
      refine lv_aload_n hx hb dX4_enter_67 rfl (lv_at hl 1 rfl) ?_
      refine lv_iconst (v := 1) hx hb dX4_enter_68 (by decide) ?_
      refine pu (D := D) (ci := 4) (v := .int ((1 : Int32))) (ty := .boolean) (W' := (wR cI cJ cP ad (x.1, ((1 : Int32), (1 : Int32), x.2.1.2.2.1, a0, x.2.2.2.2.1.1, x.2.2.2.2.1.2.1, x.2.1.2.2.2.2.2.2), x.2.2.1, x.2.2.2.1, x.2.2.2.2.1, x.2.2.2.2.2.1, u3, x.2.2.2.2.2.2.2))) hx hb hG inX4 tyX4 tyokX4 nmX4 hown hK hP hD hS 0 rfl rfl 9 (by decide) (hG _ kw96) (fun _ h9 => h9) rfl (by decide +kernel) rfl rfl (Nat.le_of_ble_eq_true rfl) dX4_enter_69 rfl (fun H locs hP hD hS => ?_)
      refine lv_aload_n hx hb dX4_enter_72 rfl (lv_at hl 1 rfl) ?_
      refine va_get (D := D) (ci := 4) (v := .ref (ad 19)) hx hb hG inX4 hown hK hP 0 rfl rfl 5 (by decide) (hG _ kw87) (fun _ h9 => h9) rfl dX4_enter_73 ?_
      refine lv_iconst (v := 0) hx hb dX4_enter_76 (by decide) ?_
      refine pu (D := D) (ci := 2) (v := .int ((0 : Int32))) (ty := .int) (W' := (wR cI cJ cP ad (x.1, ((1 : Int32), (1 : Int32), x.2.1.2.2.1, a0, x.2.2.2.2.1.1, x.2.2.2.2.1.2.1, x.2.1.2.2.2.2.2.2), x.2.2.1, x.2.2.2.1, ((0 : Int32), x.2.2.2.2.1.2.1, x.2.2.2.2.1.2.2), x.2.2.2.2.2.1, u3, x.2.2.2.2.2.2.2))) hx hb hG inX2 tyX2 tyokX2 nmX2 hown hK hP hD hS 19 rfl rfl 0 (by decide) (hG _ kw141) (fun _ h9 => h9) rfl (by decide +kernel) rfl rfl (Nat.le_of_ble_eq_true rfl) dX4_enter_77 rfl (fun H locs hP hD hS => ?_)
      refine lv_aload_n hx hb dX4_enter_80 rfl (lv_at hl 1 rfl) ?_
      refine va_get (D := D) (ci := 4) (v := .ref (ad 19)) hx hb hG inX4 hown hK hP 0 rfl rfl 5 (by decide) (hG _ kw87) (fun _ h9 => h9) rfl dX4_enter_81 ?_
      refine lv_bipush (v := 16) hx hb dX4_enter_84 (by decide) ?_
      refine lv_iload_n hx hb dX4_enter_86 rfl (lv_at hl 2 rfl) ?_
      refine lv_iadd hx hb dX4_enter_87 ?_
      refine pu (D := D) (ci := 2) (v := .int (((16 : Int32) + a0))) (ty := .int) (W' := (wR cI cJ cP ad (x.1, ((1 : Int32), (1 : Int32), x.2.1.2.2.1, a0, x.2.2.2.2.1.1, x.2.2.2.2.1.2.1, x.2.1.2.2.2.2.2.2), x.2.2.1, x.2.2.2.1, ((0 : Int32), ((16 : Int32) + a0), x.2.2.2.2.1.2.2), x.2.2.2.2.2.1, u3, x.2.2.2.2.2.2.2))) hx hb hG inX2 tyX2 tyokX2 nmX2 hown hK hP hD hS 19 rfl rfl 1 (by decide) (hG _ kw88) (fun _ h9 => h9) rfl (by decide +kernel) rfl rfl (Nat.le_of_ble_eq_true rfl) dX4_enter_88 rfl (fun H locs hP hD hS => ?_)
      refine lv_aload_n hx hb dX4_enter_91 rfl (lv_at hl 1 rfl) ?_
      refine va_get (D := D) (ci := 4) (v := .ref (ad 19)) hx hb hG inX4 hown hK hP 0 rfl rfl 5 (by decide) (hG _ kw87) (fun _ h9 => h9) rfl dX4_enter_92 ?_
      refine lv_iconst (v := 0) hx hb dX4_enter_95 (by decide) ?_
      refine pu (D := D) (ci := 2) (v := .int ((0 : Int32))) (ty := .int) (W' := (wR cI cJ cP ad (x.1, ((1 : Int32), (1 : Int32), x.2.1.2.2.1, a0, x.2.2.2.2.1.1, x.2.2.2.2.1.2.1, x.2.1.2.2.2.2.2.2), x.2.2.1, x.2.2.2.1, ((0 : Int32), ((16 : Int32) + a0), (0 : Int32)), x.2.2.2.2.2.1, u3, x.2.2.2.2.2.2.2))) hx hb hG inX2 tyX2 tyokX2 nmX2 hown hK hP hD hS 19 rfl rfl 2 (by decide) (hG _ kw119) (fun _ h9 => h9) rfl (by decide +kernel) rfl rfl (Nat.le_of_ble_eq_true rfl) dX4_enter_96 rfl (fun H locs hP hD hS => ?_)
      exact retv (u := (x.1, ((1 : Int32), (1 : Int32), x.2.1.2.2.1, a0, x.2.2.2.2.1.1, x.2.2.2.2.1.2.1, x.2.1.2.2.2.2.2.2), x.2.2.1, x.2.2.2.1, ((0 : Int32), ((16 : Int32) + a0), (0 : Int32)), x.2.2.2.2.2.1, u3, x.2.2.2.2.2.2.2)) hx hb hr hlocks hK hP hD hS dX4_enter_99 (by unfold fnX4_enter; (try dsimp only); rw [if_pos h1]; rw [if_pos h2]; rw [← q3]; (try dsimp only); (try exact rfl))
    · refine lv_aload_n hx hb dX4_enter_45 rfl (lv_at hl 1 rfl) ?_
      refine lv_iconst (v := 1) hx hb dX4_enter_46 (by decide) ?_
      refine pu (D := D) (ci := 4) (v := .int ((1 : Int32))) (ty := .boolean) (W' := (wR cI cJ cP ad (x.1, (x.2.1.1, x.2.1.2.1, (1 : Int32), a0, x.2.2.2.2.1.1, x.2.2.2.2.1.2.1, x.2.1.2.2.2.2.2.2), x.2.2.1, x.2.2.2.1, x.2.2.2.2.1, x.2.2.2.2.2.1, x.2.2.2.2.2.2.1, x.2.2.2.2.2.2.2))) hx hb hG inX4 tyX4 tyokX4 nmX4 hown hK hP hD hS 0 rfl rfl 10 (by decide) (hG _ kw103) (fun _ h9 => h9) rfl (by decide +kernel) rfl rfl (Nat.le_of_ble_eq_true rfl) dX4_enter_47 rfl (fun H locs hP hD hS => ?_)
      exact retv (u := (x.1, (x.2.1.1, x.2.1.2.1, (1 : Int32), a0, x.2.2.2.2.1.1, x.2.2.2.2.1.2.1, x.2.1.2.2.2.2.2.2), x.2.2.1, x.2.2.2.1, x.2.2.2.2.1, x.2.2.2.2.2.1, x.2.2.2.2.2.2.1, x.2.2.2.2.2.2.2)) hx hb hr hlocks hK hP hD hS dX4_enter_50 (by unfold fnX4_enter; (try dsimp only); rw [if_pos h1]; rw [if_neg h2]; (try exact rfl))
  · refine lv_aload_n hx hb dX4_enter_5 rfl (lv_at hl 0 rfl) ?_
    refine va_get (D := D) (ci := 4) (v := .ref (ad 12)) hx hb hG inX4 hown hK hP 0 rfl rfl 6 (by decide) (hG _ kw124) (fun _ h9 => h9) rfl dX4_enter_6 ?_
    refine lv_goto (tgt := 16) hx hb dX4_enter_9 (by decide) ?_
    refine lv_astore_n (lv' := [(2, .ref (ad 12)), (0, .ref (ad 0)), (1, .int (a0))]) hx hb dX4_enter_16 rfl hl (by decide) rfl (fun ls hl => ?_)
    refine lv_aload_n hx hb dX4_enter_17 rfl (lv_at hl 1 rfl) ?_
    refine lv_iload_n hx hb dX4_enter_18 rfl (lv_at hl 2 rfl) ?_
    refine pu (D := D) (ci := 4) (v := .int (a0)) (ty := .int) (W' := (wR cI cJ cP ad (x.1, (x.2.1.1, x.2.1.2.1, x.2.1.2.2.1, a0, x.2.1.2.2.2.2.1, x.2.1.2.2.2.2.2.1, x.2.1.2.2.2.2.2.2), x.2.2.1, x.2.2.2.1, x.2.2.2.2.1, x.2.2.2.2.2.1, x.2.2.2.2.2.2.1, x.2.2.2.2.2.2.2))) hx hb hG inX4 tyX4 tyokX4 nmX4 hown hK hP hD hS 0 rfl rfl 11 (by decide) (hG _ kw160) (fun _ h9 => h9) rfl (by decide +kernel) rfl rfl (Nat.le_of_ble_eq_true rfl) dX4_enter_19 rfl (fun H locs hP hD hS => ?_)
    refine lv_aload_n hx hb dX4_enter_22 rfl (lv_at hl 1 rfl) ?_
    refine lv_aload_n hx hb dX4_enter_23 rfl (lv_at hl 0 rfl) ?_
    refine va_get (D := D) (ci := 2) (v := .int (x.2.2.2.2.2.1.1)) hx hb hG inX2 hown hK hP 12 rfl rfl 0 (by decide) (hG _ kw141) (fun _ h9 => h9) rfl dX4_enter_24 ?_
    refine pu (D := D) (ci := 4) (v := .int (x.2.2.2.2.2.1.1)) (ty := .int) (W' := (wR cI cJ cP ad (x.1, (x.2.1.1, x.2.1.2.1, x.2.1.2.2.1, a0, x.2.2.2.2.2.1.1, x.2.1.2.2.2.2.2.1, x.2.1.2.2.2.2.2.2), x.2.2.1, x.2.2.2.1, x.2.2.2.2.1, x.2.2.2.2.2.1, x.2.2.2.2.2.2.1, x.2.2.2.2.2.2.2))) hx hb hG inX4 tyX4 tyokX4 nmX4 hown hK hP hD hS 0 rfl rfl 12 (by decide) (hG _ kw161) (fun _ h9 => h9) rfl (by decide +kernel) rfl rfl (Nat.le_of_ble_eq_true rfl) dX4_enter_27 rfl (fun H locs hP hD hS => ?_)
    refine lv_aload_n hx hb dX4_enter_30 rfl (lv_at hl 1 rfl) ?_
    refine lv_aload_n hx hb dX4_enter_31 rfl (lv_at hl 0 rfl) ?_
    refine va_get (D := D) (ci := 2) (v := .int (x.2.2.2.2.2.1.2.1)) hx hb hG inX2 hown hK hP 12 rfl rfl 1 (by decide) (hG _ kw88) (fun _ h9 => h9) rfl dX4_enter_32 ?_
    refine pu (D := D) (ci := 4) (v := .int (x.2.2.2.2.2.1.2.1)) (ty := .int) (W' := (wR cI cJ cP ad (x.1, (x.2.1.1, x.2.1.2.1, x.2.1.2.2.1, a0, x.2.2.2.2.2.1.1, x.2.2.2.2.2.1.2.1, x.2.1.2.2.2.2.2.2), x.2.2.1, x.2.2.2.1, x.2.2.2.2.1, x.2.2.2.2.2.1, x.2.2.2.2.2.2.1, x.2.2.2.2.2.2.2))) hx hb hG inX4 tyX4 tyokX4 nmX4 hown hK hP hD hS 0 rfl rfl 13 (by decide) (hG _ kw162) (fun _ h9 => h9) rfl (by decide +kernel) rfl rfl (Nat.le_of_ble_eq_true rfl) dX4_enter_35 rfl (fun H locs hP hD hS => ?_)
    refine lv_aload_n hx hb dX4_enter_38 rfl (lv_at hl 1 rfl) ?_
    refine va_get (D := D) (ci := 4) (v := .int (x.2.1.2.1)) hx hb hG inX4 hown hK hP 0 rfl rfl 9 (by decide) (hG _ kw96) (fun _ h9 => h9) rfl dX4_enter_39 ?_
    refine lv_if_eq (tgt := 51) hx hb dX4_enter_42 (by decide) (fun h4 => ?_) (fun h4 => ?_)
    · refine lv_aload_n hx hb dX4_enter_51 rfl (lv_at hl 1 rfl) ?_
      refine va_get (D := D) (ci := 4) (v := .ref (ad 20)) hx hb hG inX4 hown hK hP 0 rfl rfl 7 (by decide) (hG _ kw97) (fun _ h9 => h9) rfl dX4_enter_52 ?_
      refine lv_aload_n hx hb dX4_enter_55 rfl (lv_at hl 1 rfl) ?_
      refine va_get (D := D) (ci := 4) (v := .ref (ad 19)) hx hb hG inX4 hown hK hP 0 rfl rfl 5 (by decide) (hG _ kw87) (fun _ h9 => h9) rfl dX4_enter_56 ?_
      refine kVv (As := [.ref (ad 19)]) (rest := []) (W' := (fun u5 => (wR cI cJ cP ad (x.1, (x.2.1.1, x.2.1.2.1, x.2.1.2.2.1, a0, x.2.2.2.2.2.1.1, x.2.2.2.2.2.1.2.1, x.2.1.2.2.2.2.2.2), x.2.2.1, x.2.2.2.1, x.2.2.2.2.1, x.2.2.2.2.2.1, u5, x.2.2.2.2.2.2.2)))) hx hb hml hown hG hl (okX2_become l D cI cJ cP (ad 20) (ad 19) H.size x.2.2.2.2.2.2.1 x.2.2.2.2.1 hI.2.2.2.2.2.2.1 hI.2.2.2.2.1) (cV 1 hG kw98 kw100 kw101 kw102 kw99 hdX2_become ⟨by decide, by decide⟩) 20 2 rfl rfl hK hP hD hS hA hN [20, 19] rfl rfl rfl (fun _ => rfl) (fun _ => rfl) rfl rfl (Nat.le_of_ble_eq_true rfl) dX4_enter_59 ⟨Nat.zero_le _, Nat.zero_le _⟩ (fun u5 q5 H locs hP hD hS => ?_)
      have j5 : ivX2_becomeP u5 := by rw [q5]; exact ivX2_become x.2.2.2.2.2.2.1 x.2.2.2.2.1 hI.2.2.2.2.2.2.1 hI.2.2.2.2.1
      refine lv_aload_n hx hb dX4_enter_62 rfl (lv_at hl 1 rfl) ?_
      refine lv_iconst (v := 1) hx hb dX4_enter_63 (by decide) ?_
      refine pu (D := D) (ci := 4) (v := .int ((1 : Int32))) (ty := .boolean) (W' := (wR cI cJ cP ad (x.1, ((1 : Int32), x.2.1.2.1, x.2.1.2.2.1, a0, x.2.2.2.2.2.1.1, x.2.2.2.2.2.1.2.1, x.2.1.2.2.2.2.2.2), x.2.2.1, x.2.2.2.1, x.2.2.2.2.1, x.2.2.2.2.2.1, u5, x.2.2.2.2.2.2.2))) hx hb hG inX4 tyX4 tyokX4 nmX4 hown hK hP hD hS 0 rfl rfl 8 (by decide) (hG _ kw163) (fun _ h9 => h9) rfl (by decide +kernel) rfl rfl (Nat.le_of_ble_eq_true rfl) dX4_enter_64 rfl (fun H locs hP hD hS => ?_)
      refine lv_aload_n hx hb dX4_enter_67 rfl (lv_at hl 1 rfl) ?_
      refine lv_iconst (v := 1) hx hb dX4_enter_68 (by decide) ?_
      refine pu (D := D) (ci := 4) (v := .int ((1 : Int32))) (ty := .boolean) (W' := (wR cI cJ cP ad (x.1, ((1 : Int32), (1 : Int32), x.2.1.2.2.1, a0, x.2.2.2.2.2.1.1, x.2.2.2.2.2.1.2.1, x.2.1.2.2.2.2.2.2), x.2.2.1, x.2.2.2.1, x.2.2.2.2.1, x.2.2.2.2.2.1, u5, x.2.2.2.2.2.2.2))) hx hb hG inX4 tyX4 tyokX4 nmX4 hown hK hP hD hS 0 rfl rfl 9 (by decide) (hG _ kw96) (fun _ h9 => h9) rfl (by decide +kernel) rfl rfl (Nat.le_of_ble_eq_true rfl) dX4_enter_69 rfl (fun H locs hP hD hS => ?_)
      refine lv_aload_n hx hb dX4_enter_72 rfl (lv_at hl 1 rfl) ?_
      refine va_get (D := D) (ci := 4) (v := .ref (ad 19)) hx hb hG inX4 hown hK hP 0 rfl rfl 5 (by decide) (hG _ kw87) (fun _ h9 => h9) rfl dX4_enter_73 ?_
      refine lv_iconst (v := 0) hx hb dX4_enter_76 (by decide) ?_
      refine pu (D := D) (ci := 2) (v := .int ((0 : Int32))) (ty := .int) (W' := (wR cI cJ cP ad (x.1, ((1 : Int32), (1 : Int32), x.2.1.2.2.1, a0, x.2.2.2.2.2.1.1, x.2.2.2.2.2.1.2.1, x.2.1.2.2.2.2.2.2), x.2.2.1, x.2.2.2.1, ((0 : Int32), x.2.2.2.2.1.2.1, x.2.2.2.2.1.2.2), x.2.2.2.2.2.1, u5, x.2.2.2.2.2.2.2))) hx hb hG inX2 tyX2 tyokX2 nmX2 hown hK hP hD hS 19 rfl rfl 0 (by decide) (hG _ kw141) (fun _ h9 => h9) rfl (by decide +kernel) rfl rfl (Nat.le_of_ble_eq_true rfl) dX4_enter_77 rfl (fun H locs hP hD hS => ?_)
      refine lv_aload_n hx hb dX4_enter_80 rfl (lv_at hl 1 rfl) ?_
      refine va_get (D := D) (ci := 4) (v := .ref (ad 19)) hx hb hG inX4 hown hK hP 0 rfl rfl 5 (by decide) (hG _ kw87) (fun _ h9 => h9) rfl dX4_enter_81 ?_
      refine lv_bipush (v := 16) hx hb dX4_enter_84 (by decide) ?_
      refine lv_iload_n hx hb dX4_enter_86 rfl (lv_at hl 2 rfl) ?_
      refine lv_iadd hx hb dX4_enter_87 ?_
      refine pu (D := D) (ci := 2) (v := .int (((16 : Int32) + a0))) (ty := .int) (W' := (wR cI cJ cP ad (x.1, ((1 : Int32), (1 : Int32), x.2.1.2.2.1, a0, x.2.2.2.2.2.1.1, x.2.2.2.2.2.1.2.1, x.2.1.2.2.2.2.2.2), x.2.2.1, x.2.2.2.1, ((0 : Int32), ((16 : Int32) + a0), x.2.2.2.2.1.2.2), x.2.2.2.2.2.1, u5, x.2.2.2.2.2.2.2))) hx hb hG inX2 tyX2 tyokX2 nmX2 hown hK hP hD hS 19 rfl rfl 1 (by decide) (hG _ kw88) (fun _ h9 => h9) rfl (by decide +kernel) rfl rfl (Nat.le_of_ble_eq_true rfl) dX4_enter_88 rfl (fun H locs hP hD hS => ?_)
      refine lv_aload_n hx hb dX4_enter_91 rfl (lv_at hl 1 rfl) ?_
      refine va_get (D := D) (ci := 4) (v := .ref (ad 19)) hx hb hG inX4 hown hK hP 0 rfl rfl 5 (by decide) (hG _ kw87) (fun _ h9 => h9) rfl dX4_enter_92 ?_
      refine lv_iconst (v := 0) hx hb dX4_enter_95 (by decide) ?_
      refine pu (D := D) (ci := 2) (v := .int ((0 : Int32))) (ty := .int) (W' := (wR cI cJ cP ad (x.1, ((1 : Int32), (1 : Int32), x.2.1.2.2.1, a0, x.2.2.2.2.2.1.1, x.2.2.2.2.2.1.2.1, x.2.1.2.2.2.2.2.2), x.2.2.1, x.2.2.2.1, ((0 : Int32), ((16 : Int32) + a0), (0 : Int32)), x.2.2.2.2.2.1, u5, x.2.2.2.2.2.2.2))) hx hb hG inX2 tyX2 tyokX2 nmX2 hown hK hP hD hS 19 rfl rfl 2 (by decide) (hG _ kw119) (fun _ h9 => h9) rfl (by decide +kernel) rfl rfl (Nat.le_of_ble_eq_true rfl) dX4_enter_96 rfl (fun H locs hP hD hS => ?_)
      exact retv (u := (x.1, ((1 : Int32), (1 : Int32), x.2.1.2.2.1, a0, x.2.2.2.2.2.1.1, x.2.2.2.2.2.1.2.1, x.2.1.2.2.2.2.2.2), x.2.2.1, x.2.2.2.1, ((0 : Int32), ((16 : Int32) + a0), (0 : Int32)), x.2.2.2.2.2.1, u5, x.2.2.2.2.2.2.2)) hx hb hr hlocks hK hP hD hS dX4_enter_99 (by unfold fnX4_enter; (try dsimp only); rw [if_neg h1]; rw [if_pos h4]; rw [← q5]; (try dsimp only); (try exact rfl))
    · refine lv_aload_n hx hb dX4_enter_45 rfl (lv_at hl 1 rfl) ?_
      refine lv_iconst (v := 1) hx hb dX4_enter_46 (by decide) ?_
      refine pu (D := D) (ci := 4) (v := .int ((1 : Int32))) (ty := .boolean) (W' := (wR cI cJ cP ad (x.1, (x.2.1.1, x.2.1.2.1, (1 : Int32), a0, x.2.2.2.2.2.1.1, x.2.2.2.2.2.1.2.1, x.2.1.2.2.2.2.2.2), x.2.2.1, x.2.2.2.1, x.2.2.2.2.1, x.2.2.2.2.2.1, x.2.2.2.2.2.2.1, x.2.2.2.2.2.2.2))) hx hb hG inX4 tyX4 tyokX4 nmX4 hown hK hP hD hS 0 rfl rfl 10 (by decide) (hG _ kw103) (fun _ h9 => h9) rfl (by decide +kernel) rfl rfl (Nat.le_of_ble_eq_true rfl) dX4_enter_47 rfl (fun H locs hP hD hS => ?_)
      exact retv (u := (x.1, (x.2.1.1, x.2.1.2.1, (1 : Int32), a0, x.2.2.2.2.2.1.1, x.2.2.2.2.2.1.2.1, x.2.1.2.2.2.2.2.2), x.2.2.1, x.2.2.2.1, x.2.2.2.2.1, x.2.2.2.2.2.1, x.2.2.2.2.2.2.1, x.2.2.2.2.2.2.2)) hx hb hr hlocks hK hP hD hS dX4_enter_50 (by unfold fnX4_enter; (try dsimp only); rw [if_neg h1]; rw [if_neg h4]; (try exact rfl))
end
section
theorem dX4_performAtAddress_0 : decode cX4_performAtAddress 0 = .ok (.iload_n 1, 1) := by decide +kernel
theorem dX4_performAtAddress_1 : decode cX4_performAtAddress 1 = .ok (.iconst 3, 1) := by decide +kernel
theorem dX4_performAtAddress_2 : decode cX4_performAtAddress 2 = .ok (.iand, 1) := by decide +kernel
theorem dX4_performAtAddress_3 : decode cX4_performAtAddress 3 = .ok (.istore_n 2, 1) := by decide +kernel
theorem dX4_performAtAddress_4 : decode cX4_performAtAddress 4 = .ok (.iload_n 1, 1) := by decide +kernel
theorem dX4_performAtAddress_5 : decode cX4_performAtAddress 5 = .ok (.tableswitch 312 2 35 #[151, 312, 312, 312, 312, 312, 312, 312, 160, 169, 312, 312, 312, 312, 174, 174, 174, 174, 200, 206, 225, 244, 267, 267, 267, 267, 186, 186, 186, 186, 285, 312, 302, 307], 151) := by decide +kernel
theorem dX4_performAtAddress_156 : decode cX4_performAtAddress 156 = .ok (.aload_n 0, 1) := by decide +kernel
theorem dX4_performAtAddress_157 : decode cX4_performAtAddress 157 = .ok (.aload_n 0, 1) := by decide +kernel
theorem dX4_performAtAddress_158 : decode cX4_performAtAddress 158 = .ok (.getfield 46, 3) := by decide +kernel
theorem dX4_performAtAddress_161 : decode cX4_performAtAddress 161 = .ok (.invokevirtual 195, 3) := by decide +kernel
theorem dX4_performAtAddress_164 : decode cX4_performAtAddress 164 = .ok (.ireturn, 1) := by decide +kernel
theorem dX4_performAtAddress_165 : decode cX4_performAtAddress 165 = .ok (.aload_n 0, 1) := by decide +kernel
theorem dX4_performAtAddress_166 : decode cX4_performAtAddress 166 = .ok (.aload_n 0, 1) := by decide +kernel
theorem dX4_performAtAddress_167 : decode cX4_performAtAddress 167 = .ok (.getfield 50, 3) := by decide +kernel
theorem dX4_performAtAddress_170 : decode cX4_performAtAddress 170 = .ok (.invokevirtual 195, 3) := by decide +kernel
theorem dX4_performAtAddress_173 : decode cX4_performAtAddress 173 = .ok (.ireturn, 1) := by decide +kernel
theorem dX4_performAtAddress_174 : decode cX4_performAtAddress 174 = .ok (.aload_n 0, 1) := by decide +kernel
theorem dX4_performAtAddress_175 : decode cX4_performAtAddress 175 = .ok (.invokevirtual 198, 3) := by decide +kernel
theorem dX4_performAtAddress_178 : decode cX4_performAtAddress 178 = .ok (.ireturn, 1) := by decide +kernel
theorem dX4_performAtAddress_179 : decode cX4_performAtAddress 179 = .ok (.aload_n 0, 1) := by decide +kernel
theorem dX4_performAtAddress_180 : decode cX4_performAtAddress 180 = .ok (.aload_n 0, 1) := by decide +kernel
theorem dX4_performAtAddress_181 : decode cX4_performAtAddress 181 = .ok (.getfield 16, 3) := by decide +kernel
theorem dX4_performAtAddress_184 : decode cX4_performAtAddress 184 = .ok (.iload_n 2, 1) := by decide +kernel
theorem dX4_performAtAddress_185 : decode cX4_performAtAddress 185 = .ok (.iaload, 1) := by decide +kernel
theorem dX4_performAtAddress_186 : decode cX4_performAtAddress 186 = .ok (.i2l, 1) := by decide +kernel
theorem dX4_performAtAddress_187 : decode cX4_performAtAddress 187 = .ok (.invokevirtual 195, 3) := by decide +kernel
theorem dX4_performAtAddress_190 : decode cX4_performAtAddress 190 = .ok (.ireturn, 1) := by decide +kernel
theorem dX4_performAtAddress_191 : decode cX4_performAtAddress 191 = .ok (.aload_n 0, 1) := by decide +kernel
theorem dX4_performAtAddress_192 : decode cX4_performAtAddress 192 = .ok (.aload_n 0, 1) := by decide +kernel
theorem dX4_performAtAddress_193 : decode cX4_performAtAddress 193 = .ok (.getfield 23, 3) := by decide +kernel
theorem dX4_performAtAddress_196 : decode cX4_performAtAddress 196 = .ok (.iload_n 2, 1) := by decide +kernel
theorem dX4_performAtAddress_197 : decode cX4_performAtAddress 197 = .ok (.aaload, 1) := by decide +kernel
theorem dX4_performAtAddress_198 : decode cX4_performAtAddress 198 = .ok (.invokevirtual 61, 3) := by decide +kernel
theorem dX4_performAtAddress_201 : decode cX4_performAtAddress 201 = .ok (.invokevirtual 195, 3) := by decide +kernel
theorem dX4_performAtAddress_204 : decode cX4_performAtAddress 204 = .ok (.ireturn, 1) := by decide +kernel
theorem dX4_performAtAddress_205 : decode cX4_performAtAddress 205 = .ok (.aload_n 0, 1) := by decide +kernel
theorem dX4_performAtAddress_206 : decode cX4_performAtAddress 206 = .ok (.iconst 1, 1) := by decide +kernel
theorem dX4_performAtAddress_207 : decode cX4_performAtAddress 207 = .ok (.invokevirtual 201, 3) := by decide +kernel
theorem dX4_performAtAddress_210 : decode cX4_performAtAddress 210 = .ok (.ireturn, 1) := by decide +kernel
theorem dX4_performAtAddress_211 : decode cX4_performAtAddress 211 = .ok (.aload_n 0, 1) := by decide +kernel
theorem dX4_performAtAddress_212 : decode cX4_performAtAddress 212 = .ok (.aload_n 0, 1) := by decide +kernel
theorem dX4_performAtAddress_213 : decode cX4_performAtAddress 213 = .ok (.getfield 46, 3) := by decide +kernel
theorem dX4_performAtAddress_216 : decode cX4_performAtAddress 216 = .ok (.lconst 0, 1) := by decide +kernel
theorem dX4_performAtAddress_217 : decode cX4_performAtAddress 217 = .ok (.lcmp, 1) := by decide +kernel
theorem dX4_performAtAddress_218 : decode cX4_performAtAddress 218 = .ok (.ifCond .ne 7, 3) := by decide +kernel
theorem dX4_performAtAddress_221 : decode cX4_performAtAddress 221 = .ok (.iconst 1, 1) := by decide +kernel
theorem dX4_performAtAddress_222 : decode cX4_performAtAddress 222 = .ok (.goto 4, 3) := by decide +kernel
theorem dX4_performAtAddress_225 : decode cX4_performAtAddress 225 = .ok (.iconst 0, 1) := by decide +kernel
theorem dX4_performAtAddress_226 : decode cX4_performAtAddress 226 = .ok (.invokevirtual 201, 3) := by decide +kernel
theorem dX4_performAtAddress_229 : decode cX4_performAtAddress 229 = .ok (.ireturn, 1) := by decide +kernel
theorem dX4_performAtAddress_230 : decode cX4_performAtAddress 230 = .ok (.aload_n 0, 1) := by decide +kernel
theorem dX4_performAtAddress_231 : decode cX4_performAtAddress 231 = .ok (.aload_n 0, 1) := by decide +kernel
theorem dX4_performAtAddress_232 : decode cX4_performAtAddress 232 = .ok (.getfield 46, 3) := by decide +kernel
theorem dX4_performAtAddress_235 : decode cX4_performAtAddress 235 = .ok (.lconst 0, 1) := by decide +kernel
theorem dX4_performAtAddress_236 : decode cX4_performAtAddress 236 = .ok (.lcmp, 1) := by decide +kernel
theorem dX4_performAtAddress_237 : decode cX4_performAtAddress 237 = .ok (.ifCond .eq 7, 3) := by decide +kernel
theorem dX4_performAtAddress_240 : decode cX4_performAtAddress 240 = .ok (.iconst 1, 1) := by decide +kernel
theorem dX4_performAtAddress_241 : decode cX4_performAtAddress 241 = .ok (.goto 4, 3) := by decide +kernel
theorem dX4_performAtAddress_244 : decode cX4_performAtAddress 244 = .ok (.iconst 0, 1) := by decide +kernel
theorem dX4_performAtAddress_245 : decode cX4_performAtAddress 245 = .ok (.invokevirtual 201, 3) := by decide +kernel
theorem dX4_performAtAddress_248 : decode cX4_performAtAddress 248 = .ok (.ireturn, 1) := by decide +kernel
theorem dX4_performAtAddress_249 : decode cX4_performAtAddress 249 = .ok (.aload_n 0, 1) := by decide +kernel
theorem dX4_performAtAddress_250 : decode cX4_performAtAddress 250 = .ok (.aload_n 0, 1) := by decide +kernel
theorem dX4_performAtAddress_251 : decode cX4_performAtAddress 251 = .ok (.getfield 46, 3) := by decide +kernel
theorem dX4_performAtAddress_254 : decode cX4_performAtAddress 254 = .ok (.ldc2_w 205, 3) := by decide +kernel
theorem dX4_performAtAddress_257 : decode cX4_performAtAddress 257 = .ok (.land, 1) := by decide +kernel
theorem dX4_performAtAddress_258 : decode cX4_performAtAddress 258 = .ok (.lconst 0, 1) := by decide +kernel
theorem dX4_performAtAddress_259 : decode cX4_performAtAddress 259 = .ok (.lcmp, 1) := by decide +kernel
theorem dX4_performAtAddress_260 : decode cX4_performAtAddress 260 = .ok (.ifCond .eq 7, 3) := by decide +kernel
theorem dX4_performAtAddress_263 : decode cX4_performAtAddress 263 = .ok (.iconst 1, 1) := by decide +kernel
theorem dX4_performAtAddress_264 : decode cX4_performAtAddress 264 = .ok (.goto 4, 3) := by decide +kernel
theorem dX4_performAtAddress_267 : decode cX4_performAtAddress 267 = .ok (.iconst 0, 1) := by decide +kernel
theorem dX4_performAtAddress_268 : decode cX4_performAtAddress 268 = .ok (.invokevirtual 201, 3) := by decide +kernel
theorem dX4_performAtAddress_271 : decode cX4_performAtAddress 271 = .ok (.ireturn, 1) := by decide +kernel
theorem dX4_performAtAddress_272 : decode cX4_performAtAddress 272 = .ok (.aload_n 0, 1) := by decide +kernel
theorem dX4_performAtAddress_273 : decode cX4_performAtAddress 273 = .ok (.getfield 23, 3) := by decide +kernel
theorem dX4_performAtAddress_276 : decode cX4_performAtAddress 276 = .ok (.iload_n 2, 1) := by decide +kernel
theorem dX4_performAtAddress_277 : decode cX4_performAtAddress 277 = .ok (.aaload, 1) := by decide +kernel
theorem dX4_performAtAddress_278 : decode cX4_performAtAddress 278 = .ok (.aload_n 0, 1) := by decide +kernel
theorem dX4_performAtAddress_279 : decode cX4_performAtAddress 279 = .ok (.getfield 31, 3) := by decide +kernel
theorem dX4_performAtAddress_282 : decode cX4_performAtAddress 282 = .ok (.invokevirtual 125, 3) := by decide +kernel
theorem dX4_performAtAddress_285 : decode cX4_performAtAddress 285 = .ok (.aload_n 0, 1) := by decide +kernel
theorem dX4_performAtAddress_286 : decode cX4_performAtAddress 286 = .ok (.invokevirtual 180, 3) := by decide +kernel
theorem dX4_performAtAddress_289 : decode cX4_performAtAddress 289 = .ok (.ireturn, 1) := by decide +kernel
theorem dX4_performAtAddress_290 : decode cX4_performAtAddress 290 = .ok (.aload_n 0, 1) := by decide +kernel
theorem dX4_performAtAddress_291 : decode cX4_performAtAddress 291 = .ok (.aload_n 0, 1) := by decide +kernel
theorem dX4_performAtAddress_292 : decode cX4_performAtAddress 292 = .ok (.getfield 31, 3) := by decide +kernel
theorem dX4_performAtAddress_295 : decode cX4_performAtAddress 295 = .ok (.getfield 122, 3) := by decide +kernel
theorem dX4_performAtAddress_298 : decode cX4_performAtAddress 298 = .ok (.i2l, 1) := by decide +kernel
theorem dX4_performAtAddress_299 : decode cX4_performAtAddress 299 = .ok (.putfield 46, 3) := by decide +kernel
theorem dX4_performAtAddress_302 : decode cX4_performAtAddress 302 = .ok (.aload_n 0, 1) := by decide +kernel
theorem dX4_performAtAddress_303 : decode cX4_performAtAddress 303 = .ok (.invokevirtual 180, 3) := by decide +kernel
theorem dX4_performAtAddress_306 : decode cX4_performAtAddress 306 = .ok (.ireturn, 1) := by decide +kernel
theorem dX4_performAtAddress_307 : decode cX4_performAtAddress 307 = .ok (.aload_n 0, 1) := by decide +kernel
theorem dX4_performAtAddress_308 : decode cX4_performAtAddress 308 = .ok (.invokevirtual 207, 3) := by decide +kernel
theorem dX4_performAtAddress_311 : decode cX4_performAtAddress 311 = .ok (.ireturn, 1) := by decide +kernel
theorem dX4_performAtAddress_312 : decode cX4_performAtAddress 312 = .ok (.aload_n 0, 1) := by decide +kernel
theorem dX4_performAtAddress_313 : decode cX4_performAtAddress 313 = .ok (.invokevirtual 210, 3) := by decide +kernel
theorem dX4_performAtAddress_316 : decode cX4_performAtAddress 316 = .ok (.ireturn, 1) := by decide +kernel
theorem dX4_performAtAddress_317 : decode cX4_performAtAddress 317 = .ok (.aload_n 0, 1) := by decide +kernel
theorem dX4_performAtAddress_318 : decode cX4_performAtAddress 318 = .ok (.iload_n 1, 1) := by decide +kernel
theorem dX4_performAtAddress_319 : decode cX4_performAtAddress 319 = .ok (.invokevirtual 213, 3) := by decide +kernel
theorem dX4_performAtAddress_322 : decode cX4_performAtAddress 322 = .ok (.ireturn, 1) := by decide +kernel
theorem kw164 : Cond.code yX4_put cX4_put 4 (some .int) ∈ gG := inG 485 (by decide +kernel) (by decide +kernel)
theorem kw165 : Cond.methodLink RX4 195 yX4_put ∈ gG := inG 482 (by decide +kernel) (by decide +kernel)
theorem kw166 : Cond.instanceMethod yX4_put ∈ gG := inG 484 (by decide +kernel) (by decide +kernel)
theorem kw167 : Cond.selects RX4 yX4_put yX4_put ∈ gG := inG 13 (by decide +kernel) (by decide +kernel)
theorem kw168 : Cond.code yX4_load cX4_load 4 (some .int) ∈ gG := inG 521 (by decide +kernel) (by decide +kernel)
theorem kw169 : Cond.methodLink RX4 213 yX4_load ∈ gG := inG 518 (by decide +kernel) (by decide +kernel)
theorem kw170 : Cond.instanceMethod yX4_load ∈ gG := inG 520 (by decide +kernel) (by decide +kernel)
theorem kw171 : Cond.selects RX4 yX4_load yX4_load ∈ gG := inG 19 (by decide +kernel) (by decide +kernel)
theorem kw172 : Cond.code yX4_addOne cX4_addOne 4 (some .int) ∈ gG := inG 499 (by decide +kernel) (by decide +kernel)
theorem kw173 : Cond.methodLink RX4 198 yX4_addOne ∈ gG := inG 496 (by decide +kernel) (by decide +kernel)
theorem kw174 : Cond.instanceMethod yX4_addOne ∈ gG := inG 498 (by decide +kernel) (by decide +kernel)
theorem kw175 : Cond.selects RX4 yX4_addOne yX4_addOne ∈ gG := inG 15 (by decide +kernel) (by decide +kernel)
theorem kw176 : Cond.code yX4_transfer cX4_transfer 2 (some .int) ∈ gG := inG 503 (by decide +kernel) (by decide +kernel)
theorem kw177 : Cond.methodLink RX4 201 yX4_transfer ∈ gG := inG 500 (by decide +kernel) (by decide +kernel)
theorem kw178 : Cond.instanceMethod yX4_transfer ∈ gG := inG 502 (by decide +kernel) (by decide +kernel)
theorem kw179 : Cond.selects RX4 yX4_transfer yX4_transfer ∈ gG := inG 16 (by decide +kernel) (by decide +kernel)
theorem kw180 : Cond.constantLong RX4 205 34359738368 ∈ gG := inG 504 (by decide +kernel) (by decide +kernel)
theorem kw181 : Cond.code yX2_asWord cX2_asWord 1 (some .long) ∈ gG := inG 239 (by decide +kernel) (by decide +kernel)
theorem kw182 : Cond.methodLink RX4 61 yX2_asWord ∈ gG := inG 236 (by decide +kernel) (by decide +kernel)
theorem kw183 : Cond.instanceMethod yX2_asWord ∈ gG := inG 237 (by decide +kernel) (by decide +kernel)
theorem kw184 : Cond.selects RX2 yX2_asWord yX2_asWord ∈ gG := inG 238 (by decide +kernel) (by decide +kernel)
theorem kw185 : Cond.code yX4_callAddress cX4_callAddress 3 (some .int) ∈ gG := inG 508 (by decide +kernel) (by decide +kernel)
theorem kw186 : Cond.methodLink RX4 207 yX4_callAddress ∈ gG := inG 505 (by decide +kernel) (by decide +kernel)
theorem kw187 : Cond.instanceMethod yX4_callAddress ∈ gG := inG 507 (by decide +kernel) (by decide +kernel)
theorem kw188 : Cond.selects RX4 yX4_callAddress yX4_callAddress ∈ gG := inG 17 (by decide +kernel) (by decide +kernel)
theorem kw189 : Cond.code yX4_returnByWord cX4_returnByWord 4 (some .int) ∈ gG := inG 517 (by decide +kernel) (by decide +kernel)
theorem kw190 : Cond.methodLink RX4 210 yX4_returnByWord ∈ gG := inG 514 (by decide +kernel) (by decide +kernel)
theorem kw191 : Cond.instanceMethod yX4_returnByWord ∈ gG := inG 516 (by decide +kernel) (by decide +kernel)
theorem kw192 : Cond.selects RX4 yX4_returnByWord yX4_returnByWord ∈ gG := inG 18 (by decide +kernel) (by decide +kernel)
theorem hdX4_put : yX4_put.cls ≠ "java/lang/invoke/MethodHandle" ∧ yX4_put.cls ≠ "java/lang/invoke/VarHandle" ∧ (parseMethodDescriptor yX4_put.desc).map (fun d => d.parameters.length) = some 1 := by decide +kernel
theorem hdX4_load : yX4_load.cls ≠ "java/lang/invoke/MethodHandle" ∧ yX4_load.cls ≠ "java/lang/invoke/VarHandle" ∧ (parseMethodDescriptor yX4_load.desc).map (fun d => d.parameters.length) = some 1 := by decide +kernel
theorem hdX4_addOne : yX4_addOne.cls ≠ "java/lang/invoke/MethodHandle" ∧ yX4_addOne.cls ≠ "java/lang/invoke/VarHandle" ∧ (parseMethodDescriptor yX4_addOne.desc).map (fun d => d.parameters.length) = some 0 := by decide +kernel
theorem hdX4_transfer : yX4_transfer.cls ≠ "java/lang/invoke/MethodHandle" ∧ yX4_transfer.cls ≠ "java/lang/invoke/VarHandle" ∧ (parseMethodDescriptor yX4_transfer.desc).map (fun d => d.parameters.length) = some 1 := by decide +kernel
theorem hdX2_asWord : yX2_asWord.cls ≠ "java/lang/invoke/MethodHandle" ∧ yX2_asWord.cls ≠ "java/lang/invoke/VarHandle" ∧ (parseMethodDescriptor yX2_asWord.desc).map (fun d => d.parameters.length) = some 0 := by decide +kernel
theorem hdX4_callAddress : yX4_callAddress.cls ≠ "java/lang/invoke/MethodHandle" ∧ yX4_callAddress.cls ≠ "java/lang/invoke/VarHandle" ∧ (parseMethodDescriptor yX4_callAddress.desc).map (fun d => d.parameters.length) = some 0 := by decide +kernel
theorem hdX4_returnByWord : yX4_returnByWord.cls ≠ "java/lang/invoke/MethodHandle" ∧ yX4_returnByWord.cls ≠ "java/lang/invoke/VarHandle" ∧ (parseMethodDescriptor yX4_returnByWord.desc).map (fun d => d.parameters.length) = some 0 := by decide +kernel
end
section
def fnX4_performAtAddress (x : TR) (a0 : Int32) : Int32 × TR :=
  if a0 = (2 : Int32) then
   let p2 := fnX4_put x x.1.1
   (p2.1, p2.2)
  else
   if a0 = (3 : Int32) then
    let p4 := fnX4_load x (3 : Int32)
    (p4.1, p4.2)
   else
    if a0 = (4 : Int32) then
     let p6 := fnX4_load x (4 : Int32)
     (p6.1, p6.2)
    else
     if a0 = (5 : Int32) then
      let p8 := fnX4_load x (5 : Int32)
      (p8.1, p8.2)
     else
      if a0 = (6 : Int32) then
       let p10 := fnX4_load x (6 : Int32)
       (p10.1, p10.2)
      else
       if a0 = (7 : Int32) then
        let p12 := fnX4_load x (7 : Int32)
        (p12.1, p12.2)
       else
        if a0 = (8 : Int32) then
         let p14 := fnX4_load x (8 : Int32)
         (p14.1, p14.2)
        else
         if a0 = (9 : Int32) then
          let p16 := fnX4_load x (9 : Int32)
          (p16.1, p16.2)
         else
          if a0 = (10 : Int32) then
           let p18 := fnX4_put x x.1.2
           (p18.1, p18.2)
          else
           if a0 = (11 : Int32) then
            let p20 := fnX4_addOne x
            (p20.1, p20.2)
           else
            if a0 = (12 : Int32) then
             let p22 := fnX4_load x (12 : Int32)
             (p22.1, p22.2)
            else
             if a0 = (13 : Int32) then
              let p24 := fnX4_load x (13 : Int32)
              (p24.1, p24.2)
             else
              if a0 = (14 : Int32) then
               let p26 := fnX4_load x (14 : Int32)
               (p26.1, p26.2)
              else
               if a0 = (15 : Int32) then
                let p28 := fnX4_load x (15 : Int32)
                (p28.1, p28.2)
               else
                if a0 = (16 : Int32) then
                 let p30 := fnX4_put x (((x.2.2.1 0)).toInt64)
                 (p30.1, p30.2)
                else
                 if a0 = (17 : Int32) then
                  let p32 := fnX4_put x (((x.2.2.1 1)).toInt64)
                  (p32.1, p32.2)
                 else
                  if a0 = (18 : Int32) then
                   let p34 := fnX4_put x (((x.2.2.1 2)).toInt64)
                   (p34.1, p34.2)
                  else
                   if a0 = (19 : Int32) then
                    let p36 := fnX4_put x (((x.2.2.1 3)).toInt64)
                    (p36.1, p36.2)
                   else
                    if a0 = (20 : Int32) then
                     let p38 := fnX4_transfer x (1 : Int32)
                     (p38.1, p38.2)
                    else
                     if a0 = (21 : Int32) then
                      if x.1.1 = (0 : Int64) then
                       let p42 := fnX4_transfer x (1 : Int32)
                       (p42.1, p42.2)
                      else
                       let p41 := fnX4_transfer x (0 : Int32)
                       (p41.1, p41.2)
                     else
                      if a0 = (22 : Int32) then
                       if x.1.1 = (0 : Int64) then
                        let p45 := fnX4_transfer x (0 : Int32)
                        (p45.1, p45.2)
                       else
                        let p46 := fnX4_transfer x (1 : Int32)
                        (p46.1, p46.2)
                      else
                       if a0 = (23 : Int32) then
                        if (x.1.1 &&& (34359738368 : Int64)) = (0 : Int64) then
                         let p49 := fnX4_transfer x (0 : Int32)
                         (p49.1, p49.2)
                        else
                         let p50 := fnX4_transfer x (1 : Int32)
                         (p50.1, p50.2)
                       else
                        if a0 = (24 : Int32) then
                         let p52 := fnX2_become x.2.2.2.1.1 x.2.2.2.2.2.1
                         let p53 := fnX4_advance (x.1, x.2.1, x.2.2.1, (p52, x.2.2.2.1.2.1, x.2.2.2.1.2.2.1, x.2.2.2.1.2.2.2), x.2.2.2.2.1, x.2.2.2.2.2.1, x.2.2.2.2.2.2.1, x.2.2.2.2.2.2.2)
                         (p53.1, p53.2)
                        else
                         if a0 = (25 : Int32) then
                          let p55 := fnX2_become x.2.2.2.1.2.1 x.2.2.2.2.2.1
                          let p56 := fnX4_advance (x.1, x.2.1, x.2.2.1, (x.2.2.2.1.1, p55, x.2.2.2.1.2.2.1, x.2.2.2.1.2.2.2), x.2.2.2.2.1, x.2.2.2.2.2.1, x.2.2.2.2.2.2.1, x.2.2.2.2.2.2.2)
                          (p56.1, p56.2)
                         else
                          if a0 = (26 : Int32) then
                           let p58 := fnX2_become x.2.2.2.1.2.2.1 x.2.2.2.2.2.1
                           let p59 := fnX4_advance (x.1, x.2.1, x.2.2.1, (x.2.2.2.1.1, x.2.2.2.1.2.1, p58, x.2.2.2.1.2.2.2), x.2.2.2.2.1, x.2.2.2.2.2.1, x.2.2.2.2.2.2.1, x.2.2.2.2.2.2.2)
                           (p59.1, p59.2)
                          else
                           if a0 = (27 : Int32) then
                            let p61 := fnX2_become x.2.2.2.1.2.2.2 x.2.2.2.2.2.1
                            let p62 := fnX4_advance (x.1, x.2.1, x.2.2.1, (x.2.2.2.1.1, x.2.2.2.1.2.1, x.2.2.2.1.2.2.1, p61), x.2.2.2.2.1, x.2.2.2.2.2.1, x.2.2.2.2.2.2.1, x.2.2.2.2.2.2.2)
                            (p62.1, p62.2)
                           else
                            if a0 = (28 : Int32) then
                             let p64 := fnX2_asWord x.2.2.2.1.1
                             let p65 := fnX4_put x p64
                             (p65.1, p65.2)
                            else
                             if a0 = (29 : Int32) then
                              let p67 := fnX2_asWord x.2.2.2.1.2.1
                              let p68 := fnX4_put x p67
                              (p68.1, p68.2)
                             else
                              if a0 = (30 : Int32) then
                               let p70 := fnX2_asWord x.2.2.2.1.2.2.1
                               let p71 := fnX4_put x p70
                               (p71.1, p71.2)
                              else
                               if a0 = (31 : Int32) then
                                let p73 := fnX2_asWord x.2.2.2.1.2.2.2
                                let p74 := fnX4_put x p73
                                (p74.1, p74.2)
                               else
                                if a0 = (32 : Int32) then
                                 let p76 := fnX4_advance (((x.2.2.2.2.2.1.2.1).toInt64, x.1.2), x.2.1, x.2.2.1, x.2.2.2.1, x.2.2.2.2.1, x.2.2.2.2.2.1, x.2.2.2.2.2.2.1, x.2.2.2.2.2.2.2)
                                 (p76.1, p76.2)
                                else
                                 if a0 = (33 : Int32) then
                                  let p78 := fnX4_load x (33 : Int32)
                                  (p78.1, p78.2)
                                 else
                                  if a0 = (34 : Int32) then
                                   let p80 := fnX4_callAddress x
                                   (p80.1, p80.2)
                                  else
                                   if a0 = (35 : Int32) then
                                    let p82 := fnX4_returnByWord x
                                    (p82.1, p82.2)
                                   else
                                    let p83 := fnX4_load x a0
                                    (p83.1, p83.2)
abbrev ivX4_performAtAddressP (z : Int32 × TR) : Prop := i4 z.1 ∧ iR z.2
set_option maxRecDepth 100000 in
set_option maxHeartbeats 4000000 in
theorem ivX4_performAtAddress (x : TR) (a0 : Int32) (hI : iR x) : ivX4_performAtAddressP (fnX4_performAtAddress x a0) := by
  unfold fnX4_performAtAddress
  try dsimp only
  refine iteI (fun h1 => ?_) (fun h1 => ?_)
  · have j2 : ivX4_putP (fnX4_put x x.1.1) := ivX4_put x x.1.1 hI hI.1.1
    generalize fnX4_put x x.1.1 = p2 at j2 ⊢
    exact ⟨j2.1, j2.2⟩
  · refine iteI (fun h3 => ?_) (fun h3 => ?_)
    · have j4 : ivX4_loadP (fnX4_load x (3 : Int32)) := ivX4_load x (3 : Int32) hI
      generalize fnX4_load x (3 : Int32) = p4 at j4 ⊢
      exact ⟨j4.1, j4.2⟩
    · refine iteI (fun h5 => ?_) (fun h5 => ?_)
      · have j6 : ivX4_loadP (fnX4_load x (4 : Int32)) := ivX4_load x (4 : Int32) hI
        generalize fnX4_load x (4 : Int32) = p6 at j6 ⊢
        exact ⟨j6.1, j6.2⟩
      · refine iteI (fun h7 => ?_) (fun h7 => ?_)
        · have j8 : ivX4_loadP (fnX4_load x (5 : Int32)) := ivX4_load x (5 : Int32) hI
          generalize fnX4_load x (5 : Int32) = p8 at j8 ⊢
          exact ⟨j8.1, j8.2⟩
        · refine iteI (fun h9 => ?_) (fun h9 => ?_)
          · have j10 : ivX4_loadP (fnX4_load x (6 : Int32)) := ivX4_load x (6 : Int32) hI
            generalize fnX4_load x (6 : Int32) = p10 at j10 ⊢
            exact ⟨j10.1, j10.2⟩
          · refine iteI (fun h11 => ?_) (fun h11 => ?_)
            · have j12 : ivX4_loadP (fnX4_load x (7 : Int32)) := ivX4_load x (7 : Int32) hI
              generalize fnX4_load x (7 : Int32) = p12 at j12 ⊢
              exact ⟨j12.1, j12.2⟩
            · refine iteI (fun h13 => ?_) (fun h13 => ?_)
              · have j14 : ivX4_loadP (fnX4_load x (8 : Int32)) := ivX4_load x (8 : Int32) hI
                generalize fnX4_load x (8 : Int32) = p14 at j14 ⊢
                exact ⟨j14.1, j14.2⟩
              · refine iteI (fun h15 => ?_) (fun h15 => ?_)
                · have j16 : ivX4_loadP (fnX4_load x (9 : Int32)) := ivX4_load x (9 : Int32) hI
                  generalize fnX4_load x (9 : Int32) = p16 at j16 ⊢
                  exact ⟨j16.1, j16.2⟩
                · refine iteI (fun h17 => ?_) (fun h17 => ?_)
                  · have j18 : ivX4_putP (fnX4_put x x.1.2) := ivX4_put x x.1.2 hI hI.1.2
                    generalize fnX4_put x x.1.2 = p18 at j18 ⊢
                    exact ⟨j18.1, j18.2⟩
                  · refine iteI (fun h19 => ?_) (fun h19 => ?_)
                    · have j20 : ivX4_addOneP (fnX4_addOne x) := ivX4_addOne x hI
                      generalize fnX4_addOne x = p20 at j20 ⊢
                      exact ⟨j20.1, j20.2⟩
                    · refine iteI (fun h21 => ?_) (fun h21 => ?_)
                      · have j22 : ivX4_loadP (fnX4_load x (12 : Int32)) := ivX4_load x (12 : Int32) hI
                        generalize fnX4_load x (12 : Int32) = p22 at j22 ⊢
                        exact ⟨j22.1, j22.2⟩
                      · refine iteI (fun h23 => ?_) (fun h23 => ?_)
                        · have j24 : ivX4_loadP (fnX4_load x (13 : Int32)) := ivX4_load x (13 : Int32) hI
                          generalize fnX4_load x (13 : Int32) = p24 at j24 ⊢
                          exact ⟨j24.1, j24.2⟩
                        · refine iteI (fun h25 => ?_) (fun h25 => ?_)
                          · have j26 : ivX4_loadP (fnX4_load x (14 : Int32)) := ivX4_load x (14 : Int32) hI
                            generalize fnX4_load x (14 : Int32) = p26 at j26 ⊢
                            exact ⟨j26.1, j26.2⟩
                          · refine iteI (fun h27 => ?_) (fun h27 => ?_)
                            · have j28 : ivX4_loadP (fnX4_load x (15 : Int32)) := ivX4_load x (15 : Int32) hI
                              generalize fnX4_load x (15 : Int32) = p28 at j28 ⊢
                              exact ⟨j28.1, j28.2⟩
                            · refine iteI (fun h29 => ?_) (fun h29 => ?_)
                              · have j30 : ivX4_putP (fnX4_put x (((x.2.2.1 0)).toInt64)) := ivX4_put x (((x.2.2.1 0)).toInt64) hI (i2lW (hI.2.2.1 0))
                                generalize fnX4_put x (((x.2.2.1 0)).toInt64) = p30 at j30 ⊢
                                exact ⟨j30.1, j30.2⟩
                              · refine iteI (fun h31 => ?_) (fun h31 => ?_)
                                · have j32 : ivX4_putP (fnX4_put x (((x.2.2.1 1)).toInt64)) := ivX4_put x (((x.2.2.1 1)).toInt64) hI (i2lW (hI.2.2.1 1))
                                  generalize fnX4_put x (((x.2.2.1 1)).toInt64) = p32 at j32 ⊢
                                  exact ⟨j32.1, j32.2⟩
                                · refine iteI (fun h33 => ?_) (fun h33 => ?_)
                                  · have j34 : ivX4_putP (fnX4_put x (((x.2.2.1 2)).toInt64)) := ivX4_put x (((x.2.2.1 2)).toInt64) hI (i2lW (hI.2.2.1 2))
                                    generalize fnX4_put x (((x.2.2.1 2)).toInt64) = p34 at j34 ⊢
                                    exact ⟨j34.1, j34.2⟩
                                  · refine iteI (fun h35 => ?_) (fun h35 => ?_)
                                    · have j36 : ivX4_putP (fnX4_put x (((x.2.2.1 3)).toInt64)) := ivX4_put x (((x.2.2.1 3)).toInt64) hI (i2lW (hI.2.2.1 3))
                                      generalize fnX4_put x (((x.2.2.1 3)).toInt64) = p36 at j36 ⊢
                                      exact ⟨j36.1, j36.2⟩
                                    · refine iteI (fun h37 => ?_) (fun h37 => ?_)
                                      · have j38 : ivX4_transferP (fnX4_transfer x (1 : Int32)) := ivX4_transfer x (1 : Int32) hI
                                        generalize fnX4_transfer x (1 : Int32) = p38 at j38 ⊢
                                        exact ⟨j38.1, j38.2⟩
                                      · refine iteI (fun h39 => ?_) (fun h39 => ?_)
                                        · refine iteI (fun h40 => ?_) (fun h40 => ?_)
                                          · have j42 : ivX4_transferP (fnX4_transfer x (1 : Int32)) := ivX4_transfer x (1 : Int32) hI
                                            generalize fnX4_transfer x (1 : Int32) = p42 at j42 ⊢
                                            exact ⟨j42.1, j42.2⟩
                                          · have j41 : ivX4_transferP (fnX4_transfer x (0 : Int32)) := ivX4_transfer x (0 : Int32) hI
                                            generalize fnX4_transfer x (0 : Int32) = p41 at j41 ⊢
                                            exact ⟨j41.1, j41.2⟩
                                        · refine iteI (fun h43 => ?_) (fun h43 => ?_)
                                          · refine iteI (fun h44 => ?_) (fun h44 => ?_)
                                            · have j45 : ivX4_transferP (fnX4_transfer x (0 : Int32)) := ivX4_transfer x (0 : Int32) hI
                                              generalize fnX4_transfer x (0 : Int32) = p45 at j45 ⊢
                                              exact ⟨j45.1, j45.2⟩
                                            · have j46 : ivX4_transferP (fnX4_transfer x (1 : Int32)) := ivX4_transfer x (1 : Int32) hI
                                              generalize fnX4_transfer x (1 : Int32) = p46 at j46 ⊢
                                              exact ⟨j46.1, j46.2⟩
                                          · refine iteI (fun h47 => ?_) (fun h47 => ?_)
                                            · refine iteI (fun h48 => ?_) (fun h48 => ?_)
                                              · have j49 : ivX4_transferP (fnX4_transfer x (0 : Int32)) := ivX4_transfer x (0 : Int32) hI
                                                generalize fnX4_transfer x (0 : Int32) = p49 at j49 ⊢
                                                exact ⟨j49.1, j49.2⟩
                                              · have j50 : ivX4_transferP (fnX4_transfer x (1 : Int32)) := ivX4_transfer x (1 : Int32) hI
                                                generalize fnX4_transfer x (1 : Int32) = p50 at j50 ⊢
                                                exact ⟨j50.1, j50.2⟩
                                            · refine iteI (fun h51 => ?_) (fun h51 => ?_)
                                              · have j52 : ivX2_becomeP (fnX2_become x.2.2.2.1.1 x.2.2.2.2.2.1) := ivX2_become x.2.2.2.1.1 x.2.2.2.2.2.1 hI.2.2.2.1.1 hI.2.2.2.2.2.1
                                                generalize fnX2_become x.2.2.2.1.1 x.2.2.2.2.2.1 = p52 at j52 ⊢
                                                have j53 : ivX4_advanceP (fnX4_advance (x.1, x.2.1, x.2.2.1, (p52, x.2.2.2.1.2.1, x.2.2.2.1.2.2.1, x.2.2.2.1.2.2.2), x.2.2.2.2.1, x.2.2.2.2.2.1, x.2.2.2.2.2.2.1, x.2.2.2.2.2.2.2)) := ivX4_advance (x.1, x.2.1, x.2.2.1, (p52, x.2.2.2.1.2.1, x.2.2.2.1.2.2.1, x.2.2.2.1.2.2.2), x.2.2.2.2.1, x.2.2.2.2.2.1, x.2.2.2.2.2.2.1, x.2.2.2.2.2.2.2) ⟨hI.1, hI.2.1, hI.2.2.1, ⟨j52, hI.2.2.2.1.2.1, hI.2.2.2.1.2.2.1, hI.2.2.2.1.2.2.2⟩, hI.2.2.2.2.1, hI.2.2.2.2.2.1, hI.2.2.2.2.2.2.1, hI.2.2.2.2.2.2.2⟩
                                                generalize fnX4_advance (x.1, x.2.1, x.2.2.1, (p52, x.2.2.2.1.2.1, x.2.2.2.1.2.2.1, x.2.2.2.1.2.2.2), x.2.2.2.2.1, x.2.2.2.2.2.1, x.2.2.2.2.2.2.1, x.2.2.2.2.2.2.2) = p53 at j53 ⊢
                                                exact ⟨j53.1, j53.2⟩
                                              · refine iteI (fun h54 => ?_) (fun h54 => ?_)
                                                · have j55 : ivX2_becomeP (fnX2_become x.2.2.2.1.2.1 x.2.2.2.2.2.1) := ivX2_become x.2.2.2.1.2.1 x.2.2.2.2.2.1 hI.2.2.2.1.2.1 hI.2.2.2.2.2.1
                                                  generalize fnX2_become x.2.2.2.1.2.1 x.2.2.2.2.2.1 = p55 at j55 ⊢
                                                  have j56 : ivX4_advanceP (fnX4_advance (x.1, x.2.1, x.2.2.1, (x.2.2.2.1.1, p55, x.2.2.2.1.2.2.1, x.2.2.2.1.2.2.2), x.2.2.2.2.1, x.2.2.2.2.2.1, x.2.2.2.2.2.2.1, x.2.2.2.2.2.2.2)) := ivX4_advance (x.1, x.2.1, x.2.2.1, (x.2.2.2.1.1, p55, x.2.2.2.1.2.2.1, x.2.2.2.1.2.2.2), x.2.2.2.2.1, x.2.2.2.2.2.1, x.2.2.2.2.2.2.1, x.2.2.2.2.2.2.2) ⟨hI.1, hI.2.1, hI.2.2.1, ⟨hI.2.2.2.1.1, j55, hI.2.2.2.1.2.2.1, hI.2.2.2.1.2.2.2⟩, hI.2.2.2.2.1, hI.2.2.2.2.2.1, hI.2.2.2.2.2.2.1, hI.2.2.2.2.2.2.2⟩
                                                  generalize fnX4_advance (x.1, x.2.1, x.2.2.1, (x.2.2.2.1.1, p55, x.2.2.2.1.2.2.1, x.2.2.2.1.2.2.2), x.2.2.2.2.1, x.2.2.2.2.2.1, x.2.2.2.2.2.2.1, x.2.2.2.2.2.2.2) = p56 at j56 ⊢
                                                  exact ⟨j56.1, j56.2⟩
                                                · refine iteI (fun h57 => ?_) (fun h57 => ?_)
                                                  · have j58 : ivX2_becomeP (fnX2_become x.2.2.2.1.2.2.1 x.2.2.2.2.2.1) := ivX2_become x.2.2.2.1.2.2.1 x.2.2.2.2.2.1 hI.2.2.2.1.2.2.1 hI.2.2.2.2.2.1
                                                    generalize fnX2_become x.2.2.2.1.2.2.1 x.2.2.2.2.2.1 = p58 at j58 ⊢
                                                    have j59 : ivX4_advanceP (fnX4_advance (x.1, x.2.1, x.2.2.1, (x.2.2.2.1.1, x.2.2.2.1.2.1, p58, x.2.2.2.1.2.2.2), x.2.2.2.2.1, x.2.2.2.2.2.1, x.2.2.2.2.2.2.1, x.2.2.2.2.2.2.2)) := ivX4_advance (x.1, x.2.1, x.2.2.1, (x.2.2.2.1.1, x.2.2.2.1.2.1, p58, x.2.2.2.1.2.2.2), x.2.2.2.2.1, x.2.2.2.2.2.1, x.2.2.2.2.2.2.1, x.2.2.2.2.2.2.2) ⟨hI.1, hI.2.1, hI.2.2.1, ⟨hI.2.2.2.1.1, hI.2.2.2.1.2.1, j58, hI.2.2.2.1.2.2.2⟩, hI.2.2.2.2.1, hI.2.2.2.2.2.1, hI.2.2.2.2.2.2.1, hI.2.2.2.2.2.2.2⟩
                                                    generalize fnX4_advance (x.1, x.2.1, x.2.2.1, (x.2.2.2.1.1, x.2.2.2.1.2.1, p58, x.2.2.2.1.2.2.2), x.2.2.2.2.1, x.2.2.2.2.2.1, x.2.2.2.2.2.2.1, x.2.2.2.2.2.2.2) = p59 at j59 ⊢
                                                    exact ⟨j59.1, j59.2⟩
                                                  · refine iteI (fun h60 => ?_) (fun h60 => ?_)
                                                    · have j61 : ivX2_becomeP (fnX2_become x.2.2.2.1.2.2.2 x.2.2.2.2.2.1) := ivX2_become x.2.2.2.1.2.2.2 x.2.2.2.2.2.1 hI.2.2.2.1.2.2.2 hI.2.2.2.2.2.1
                                                      generalize fnX2_become x.2.2.2.1.2.2.2 x.2.2.2.2.2.1 = p61 at j61 ⊢
                                                      have j62 : ivX4_advanceP (fnX4_advance (x.1, x.2.1, x.2.2.1, (x.2.2.2.1.1, x.2.2.2.1.2.1, x.2.2.2.1.2.2.1, p61), x.2.2.2.2.1, x.2.2.2.2.2.1, x.2.2.2.2.2.2.1, x.2.2.2.2.2.2.2)) := ivX4_advance (x.1, x.2.1, x.2.2.1, (x.2.2.2.1.1, x.2.2.2.1.2.1, x.2.2.2.1.2.2.1, p61), x.2.2.2.2.1, x.2.2.2.2.2.1, x.2.2.2.2.2.2.1, x.2.2.2.2.2.2.2) ⟨hI.1, hI.2.1, hI.2.2.1, ⟨hI.2.2.2.1.1, hI.2.2.2.1.2.1, hI.2.2.2.1.2.2.1, j61⟩, hI.2.2.2.2.1, hI.2.2.2.2.2.1, hI.2.2.2.2.2.2.1, hI.2.2.2.2.2.2.2⟩
                                                      generalize fnX4_advance (x.1, x.2.1, x.2.2.1, (x.2.2.2.1.1, x.2.2.2.1.2.1, x.2.2.2.1.2.2.1, p61), x.2.2.2.2.1, x.2.2.2.2.2.1, x.2.2.2.2.2.2.1, x.2.2.2.2.2.2.2) = p62 at j62 ⊢
                                                      exact ⟨j62.1, j62.2⟩
                                                    · refine iteI (fun h63 => ?_) (fun h63 => ?_)
                                                      · have j64 : ivX2_asWordP (fnX2_asWord x.2.2.2.1.1) := ivX2_asWord x.2.2.2.1.1 hI.2.2.2.1.1
                                                        generalize fnX2_asWord x.2.2.2.1.1 = p64 at j64 ⊢
                                                        have j65 : ivX4_putP (fnX4_put x p64) := ivX4_put x p64 hI j64
                                                        generalize fnX4_put x p64 = p65 at j65 ⊢
                                                        exact ⟨j65.1, j65.2⟩
                                                      · refine iteI (fun h66 => ?_) (fun h66 => ?_)
                                                        · have j67 : ivX2_asWordP (fnX2_asWord x.2.2.2.1.2.1) := ivX2_asWord x.2.2.2.1.2.1 hI.2.2.2.1.2.1
                                                          generalize fnX2_asWord x.2.2.2.1.2.1 = p67 at j67 ⊢
                                                          have j68 : ivX4_putP (fnX4_put x p67) := ivX4_put x p67 hI j67
                                                          generalize fnX4_put x p67 = p68 at j68 ⊢
                                                          exact ⟨j68.1, j68.2⟩
                                                        · refine iteI (fun h69 => ?_) (fun h69 => ?_)
                                                          · have j70 : ivX2_asWordP (fnX2_asWord x.2.2.2.1.2.2.1) := ivX2_asWord x.2.2.2.1.2.2.1 hI.2.2.2.1.2.2.1
                                                            generalize fnX2_asWord x.2.2.2.1.2.2.1 = p70 at j70 ⊢
                                                            have j71 : ivX4_putP (fnX4_put x p70) := ivX4_put x p70 hI j70
                                                            generalize fnX4_put x p70 = p71 at j71 ⊢
                                                            exact ⟨j71.1, j71.2⟩
                                                          · refine iteI (fun h72 => ?_) (fun h72 => ?_)
                                                            · have j73 : ivX2_asWordP (fnX2_asWord x.2.2.2.1.2.2.2) := ivX2_asWord x.2.2.2.1.2.2.2 hI.2.2.2.1.2.2.2
                                                              generalize fnX2_asWord x.2.2.2.1.2.2.2 = p73 at j73 ⊢
                                                              have j74 : ivX4_putP (fnX4_put x p73) := ivX4_put x p73 hI j73
                                                              generalize fnX4_put x p73 = p74 at j74 ⊢
                                                              exact ⟨j74.1, j74.2⟩
                                                            · refine iteI (fun h75 => ?_) (fun h75 => ?_)
                                                              · have j76 : ivX4_advanceP (fnX4_advance (((x.2.2.2.2.2.1.2.1).toInt64, x.1.2), x.2.1, x.2.2.1, x.2.2.2.1, x.2.2.2.2.1, x.2.2.2.2.2.1, x.2.2.2.2.2.2.1, x.2.2.2.2.2.2.2)) := ivX4_advance (((x.2.2.2.2.2.1.2.1).toInt64, x.1.2), x.2.1, x.2.2.1, x.2.2.2.1, x.2.2.2.2.1, x.2.2.2.2.2.1, x.2.2.2.2.2.2.1, x.2.2.2.2.2.2.2) ⟨⟨(i2lW hI.2.2.2.2.2.1.2.1), hI.1.2⟩, hI.2.1, hI.2.2.1, hI.2.2.2.1, hI.2.2.2.2.1, hI.2.2.2.2.2.1, hI.2.2.2.2.2.2.1, hI.2.2.2.2.2.2.2⟩
                                                                generalize fnX4_advance (((x.2.2.2.2.2.1.2.1).toInt64, x.1.2), x.2.1, x.2.2.1, x.2.2.2.1, x.2.2.2.2.1, x.2.2.2.2.2.1, x.2.2.2.2.2.2.1, x.2.2.2.2.2.2.2) = p76 at j76 ⊢
                                                                exact ⟨j76.1, j76.2⟩
                                                              · refine iteI (fun h77 => ?_) (fun h77 => ?_)
                                                                · have j78 : ivX4_loadP (fnX4_load x (33 : Int32)) := ivX4_load x (33 : Int32) hI
                                                                  generalize fnX4_load x (33 : Int32) = p78 at j78 ⊢
                                                                  exact ⟨j78.1, j78.2⟩
                                                                · refine iteI (fun h79 => ?_) (fun h79 => ?_)
                                                                  · have j80 : ivX4_callAddressP (fnX4_callAddress x) := ivX4_callAddress x hI
                                                                    generalize fnX4_callAddress x = p80 at j80 ⊢
                                                                    exact ⟨j80.1, j80.2⟩
                                                                  · refine iteI (fun h81 => ?_) (fun h81 => ?_)
                                                                    · have j82 : ivX4_returnByWordP (fnX4_returnByWord x) := ivX4_returnByWord x hI
                                                                      generalize fnX4_returnByWord x = p82 at j82 ⊢
                                                                      exact ⟨j82.1, j82.2⟩
                                                                    · have j83 : ivX4_loadP (fnX4_load x a0) := ivX4_load x a0 hI
                                                                      generalize fnX4_load x a0 = p83 at j83 ⊢
                                                                      exact ⟨j83.1, j83.2⟩
set_option maxRecDepth 100000 in
set_option maxHeartbeats 4000000 in
theorem okX4_performAtAddress (l : Launch) (D : va_G) (cI cJ cP : ClassId) (ad : Nat → Nat) (sz : Nat) (x : TR) (a0 : Int32) (hI : iR x) : Met l yX4_performAtAddress (Cond.code yX4_performAtAddress cX4_performAtAddress 3 (some .int) :: gG) { frames := 5, cells := 0, slots := 0, locals := 129 } (va_Pc [.ref (ad 0), .int a0] (PRE D (tz cI cJ cP) sz (wR cI cJ cP ad x))) (va_Qi (fun (r : Int32) (u : TR) => (r, u) = fnX4_performAtAddress x a0) (AT D (tz cI cJ cP) (va_A (wR cI cJ cP ad x) sz) (fun (u : TR) => (wR cI cJ cP ad u))) (va_A (wR cI cJ cP ad x) sz)) 0 0 (va_A (wR cI cJ cP ad x) sz) := by
  refine mo (QA := fun A => va_Qi (fun (r : Int32) (u : TR) => (r, u) = fnX4_performAtAddress x a0) (AT D (tz cI cJ cP) A (fun (u : TR) => (wR cI cJ cP ad u))) A) (by decide) (Nat.le_of_ble_eq_true rfl) ?_
  intro p e s m below meth c A ls H hx hb hr hml hown hG hlocks hnm hA hS hP hK hD hl hN
  have hown : s.vm.findClass RX4 = some m.cls := hown
  have hl : lv_has ls 3 [(0, .ref (ad 0)), (1, .int a0)] := hl
  refine lv_iload_n hx hb dX4_performAtAddress_0 rfl (lv_at hl 1 rfl) ?_
  refine lv_iconst (v := 3) hx hb dX4_performAtAddress_1 (by decide) ?_
  refine lv_iand hx hb dX4_performAtAddress_2 ?_
  refine lv_istore_n (lv' := [(2, .int ((a0 &&& (3 : Int32)))), (0, .ref (ad 0)), (1, .int (a0))]) hx hb dX4_performAtAddress_3 rfl hl (by decide) rfl (fun ls hl => ?_)
  refine lv_iload_n hx hb dX4_performAtAddress_4 rfl (lv_at hl 2 rfl) ?_
  by_cases h1 : a0 = (2 : Int32)
  · refine lv_tableIn (off := 151) (tgt := 156) hx hb dX4_performAtAddress_5 (by rw [h1]; decide) (by rw [h1]; decide) (by rw [h1]; decide) (by decide) ?_
    subst h1
    refine lv_aload_n hx hb dX4_performAtAddress_156 rfl (lv_at hl 1 rfl) ?_
    refine lv_aload_n hx hb dX4_performAtAddress_157 rfl (lv_at hl 1 rfl) ?_
    refine va_get (D := D) (ci := 4) (v := .long (x.1.1)) hx hb hG inX4 hown hK hP 0 rfl rfl 1 (by decide) (hG _ kw90) (fun _ h9 => h9) rfl dX4_performAtAddress_158 ?_
    refine kFi (As := [.long (x.1.1)]) (rest := []) hx hb hml hown hG hl (okX4_put l D cI cJ cP ad H.size x x.1.1 hI hI.1.1) (cV 1 hG kw164 kw165 kw166 kw167 kw5 hdX4_put ⟨by decide, by decide⟩) 0 4 rfl rfl hK hP hD hS hA hN rfl rfl (Nat.le_of_ble_eq_true rfl) dX4_performAtAddress_161 ⟨Nat.zero_le _, Nat.zero_le _⟩ (fun r2 u2 q2 H locs hP hD hS => ?_)
    have j2 : ivX4_putP (r2, u2) := by rw [q2]; exact ivX4_put x x.1.1 hI hI.1.1
    exact reti (u := u2) hx hb hr hlocks hK hP hD hS dX4_performAtAddress_164 (by unfold fnX4_performAtAddress; (try dsimp only); rw [if_pos (rfl : (2 : Int32) = (2 : Int32))]; rw [← q2]; (try dsimp only); (try exact rfl))
  by_cases h3 : a0 = (3 : Int32)
  · refine lv_tableIn (off := 312) (tgt := 317) hx hb dX4_performAtAddress_5 (by rw [h3]; decide) (by rw [h3]; decide) (by rw [h3]; decide) (by decide) ?_
    subst h3
    refine lv_aload_n hx hb dX4_performAtAddress_317 rfl (lv_at hl 1 rfl) ?_
    refine lv_iload_n hx hb dX4_performAtAddress_318 rfl (lv_at hl 2 rfl) ?_
    refine kFi (As := [.int ((3 : Int32))]) (rest := []) hx hb hml hown hG hl (okX4_load l D cI cJ cP ad H.size x (3 : Int32) hI) (cV 1 hG kw168 kw169 kw170 kw171 kw5 hdX4_load ⟨by decide, by decide⟩) 0 4 rfl rfl hK hP hD hS hA hN rfl rfl (Nat.le_of_ble_eq_true rfl) dX4_performAtAddress_319 ⟨Nat.zero_le _, Nat.zero_le _⟩ (fun r4 u4 q4 H locs hP hD hS => ?_)
    have j4 : ivX4_loadP (r4, u4) := by rw [q4]; exact ivX4_load x (3 : Int32) hI
    exact reti (u := u4) hx hb hr hlocks hK hP hD hS dX4_performAtAddress_322 (by unfold fnX4_performAtAddress; (try dsimp only); rw [if_neg h1]; rw [if_pos (rfl : (3 : Int32) = (3 : Int32))]; rw [← q4]; (try dsimp only); (try exact rfl))
  by_cases h5 : a0 = (4 : Int32)
  · refine lv_tableIn (off := 312) (tgt := 317) hx hb dX4_performAtAddress_5 (by rw [h5]; decide) (by rw [h5]; decide) (by rw [h5]; decide) (by decide) ?_
    subst h5
    refine lv_aload_n hx hb dX4_performAtAddress_317 rfl (lv_at hl 1 rfl) ?_
    refine lv_iload_n hx hb dX4_performAtAddress_318 rfl (lv_at hl 2 rfl) ?_
    refine kFi (As := [.int ((4 : Int32))]) (rest := []) hx hb hml hown hG hl (okX4_load l D cI cJ cP ad H.size x (4 : Int32) hI) (cV 1 hG kw168 kw169 kw170 kw171 kw5 hdX4_load ⟨by decide, by decide⟩) 0 4 rfl rfl hK hP hD hS hA hN rfl rfl (Nat.le_of_ble_eq_true rfl) dX4_performAtAddress_319 ⟨Nat.zero_le _, Nat.zero_le _⟩ (fun r6 u6 q6 H locs hP hD hS => ?_)
    have j6 : ivX4_loadP (r6, u6) := by rw [q6]; exact ivX4_load x (4 : Int32) hI
    exact reti (u := u6) hx hb hr hlocks hK hP hD hS dX4_performAtAddress_322 (by unfold fnX4_performAtAddress; (try dsimp only); rw [if_neg h1]; rw [if_neg h3]; rw [if_pos (rfl : (4 : Int32) = (4 : Int32))]; rw [← q6]; (try dsimp only); (try exact rfl))
  by_cases h7 : a0 = (5 : Int32)
  · refine lv_tableIn (off := 312) (tgt := 317) hx hb dX4_performAtAddress_5 (by rw [h7]; decide) (by rw [h7]; decide) (by rw [h7]; decide) (by decide) ?_
    subst h7
    refine lv_aload_n hx hb dX4_performAtAddress_317 rfl (lv_at hl 1 rfl) ?_
    refine lv_iload_n hx hb dX4_performAtAddress_318 rfl (lv_at hl 2 rfl) ?_
    refine kFi (As := [.int ((5 : Int32))]) (rest := []) hx hb hml hown hG hl (okX4_load l D cI cJ cP ad H.size x (5 : Int32) hI) (cV 1 hG kw168 kw169 kw170 kw171 kw5 hdX4_load ⟨by decide, by decide⟩) 0 4 rfl rfl hK hP hD hS hA hN rfl rfl (Nat.le_of_ble_eq_true rfl) dX4_performAtAddress_319 ⟨Nat.zero_le _, Nat.zero_le _⟩ (fun r8 u8 q8 H locs hP hD hS => ?_)
    have j8 : ivX4_loadP (r8, u8) := by rw [q8]; exact ivX4_load x (5 : Int32) hI
    exact reti (u := u8) hx hb hr hlocks hK hP hD hS dX4_performAtAddress_322 (by unfold fnX4_performAtAddress; (try dsimp only); rw [if_neg h1]; rw [if_neg h3]; rw [if_neg h5]; rw [if_pos (rfl : (5 : Int32) = (5 : Int32))]; rw [← q8]; (try dsimp only); (try exact rfl))
  by_cases h9 : a0 = (6 : Int32)
  · refine lv_tableIn (off := 312) (tgt := 317) hx hb dX4_performAtAddress_5 (by rw [h9]; decide) (by rw [h9]; decide) (by rw [h9]; decide) (by decide) ?_
    subst h9
    refine lv_aload_n hx hb dX4_performAtAddress_317 rfl (lv_at hl 1 rfl) ?_
    refine lv_iload_n hx hb dX4_performAtAddress_318 rfl (lv_at hl 2 rfl) ?_
    refine kFi (As := [.int ((6 : Int32))]) (rest := []) hx hb hml hown hG hl (okX4_load l D cI cJ cP ad H.size x (6 : Int32) hI) (cV 1 hG kw168 kw169 kw170 kw171 kw5 hdX4_load ⟨by decide, by decide⟩) 0 4 rfl rfl hK hP hD hS hA hN rfl rfl (Nat.le_of_ble_eq_true rfl) dX4_performAtAddress_319 ⟨Nat.zero_le _, Nat.zero_le _⟩ (fun r10 u10 q10 H locs hP hD hS => ?_)
    have j10 : ivX4_loadP (r10, u10) := by rw [q10]; exact ivX4_load x (6 : Int32) hI
    exact reti (u := u10) hx hb hr hlocks hK hP hD hS dX4_performAtAddress_322 (by unfold fnX4_performAtAddress; (try dsimp only); rw [if_neg h1]; rw [if_neg h3]; rw [if_neg h5]; rw [if_neg h7]; rw [if_pos (rfl : (6 : Int32) = (6 : Int32))]; rw [← q10]; (try dsimp only); (try exact rfl))
  by_cases h11 : a0 = (7 : Int32)
  · refine lv_tableIn (off := 312) (tgt := 317) hx hb dX4_performAtAddress_5 (by rw [h11]; decide) (by rw [h11]; decide) (by rw [h11]; decide) (by decide) ?_
    subst h11
    refine lv_aload_n hx hb dX4_performAtAddress_317 rfl (lv_at hl 1 rfl) ?_
    refine lv_iload_n hx hb dX4_performAtAddress_318 rfl (lv_at hl 2 rfl) ?_
    refine kFi (As := [.int ((7 : Int32))]) (rest := []) hx hb hml hown hG hl (okX4_load l D cI cJ cP ad H.size x (7 : Int32) hI) (cV 1 hG kw168 kw169 kw170 kw171 kw5 hdX4_load ⟨by decide, by decide⟩) 0 4 rfl rfl hK hP hD hS hA hN rfl rfl (Nat.le_of_ble_eq_true rfl) dX4_performAtAddress_319 ⟨Nat.zero_le _, Nat.zero_le _⟩ (fun r12 u12 q12 H locs hP hD hS => ?_)
    have j12 : ivX4_loadP (r12, u12) := by rw [q12]; exact ivX4_load x (7 : Int32) hI
    exact reti (u := u12) hx hb hr hlocks hK hP hD hS dX4_performAtAddress_322 (by unfold fnX4_performAtAddress; (try dsimp only); rw [if_neg h1]; rw [if_neg h3]; rw [if_neg h5]; rw [if_neg h7]; rw [if_neg h9]; rw [if_pos (rfl : (7 : Int32) = (7 : Int32))]; rw [← q12]; (try dsimp only); (try exact rfl))
  by_cases h13 : a0 = (8 : Int32)
  · refine lv_tableIn (off := 312) (tgt := 317) hx hb dX4_performAtAddress_5 (by rw [h13]; decide) (by rw [h13]; decide) (by rw [h13]; decide) (by decide) ?_
    subst h13
    refine lv_aload_n hx hb dX4_performAtAddress_317 rfl (lv_at hl 1 rfl) ?_
    refine lv_iload_n hx hb dX4_performAtAddress_318 rfl (lv_at hl 2 rfl) ?_
    refine kFi (As := [.int ((8 : Int32))]) (rest := []) hx hb hml hown hG hl (okX4_load l D cI cJ cP ad H.size x (8 : Int32) hI) (cV 1 hG kw168 kw169 kw170 kw171 kw5 hdX4_load ⟨by decide, by decide⟩) 0 4 rfl rfl hK hP hD hS hA hN rfl rfl (Nat.le_of_ble_eq_true rfl) dX4_performAtAddress_319 ⟨Nat.zero_le _, Nat.zero_le _⟩ (fun r14 u14 q14 H locs hP hD hS => ?_)
    have j14 : ivX4_loadP (r14, u14) := by rw [q14]; exact ivX4_load x (8 : Int32) hI
    exact reti (u := u14) hx hb hr hlocks hK hP hD hS dX4_performAtAddress_322 (by unfold fnX4_performAtAddress; (try dsimp only); rw [if_neg h1]; rw [if_neg h3]; rw [if_neg h5]; rw [if_neg h7]; rw [if_neg h9]; rw [if_neg h11]; rw [if_pos (rfl : (8 : Int32) = (8 : Int32))]; rw [← q14]; (try dsimp only); (try exact rfl))
  by_cases h15 : a0 = (9 : Int32)
  · refine lv_tableIn (off := 312) (tgt := 317) hx hb dX4_performAtAddress_5 (by rw [h15]; decide) (by rw [h15]; decide) (by rw [h15]; decide) (by decide) ?_
    subst h15
    refine lv_aload_n hx hb dX4_performAtAddress_317 rfl (lv_at hl 1 rfl) ?_
    refine lv_iload_n hx hb dX4_performAtAddress_318 rfl (lv_at hl 2 rfl) ?_
    refine kFi (As := [.int ((9 : Int32))]) (rest := []) hx hb hml hown hG hl (okX4_load l D cI cJ cP ad H.size x (9 : Int32) hI) (cV 1 hG kw168 kw169 kw170 kw171 kw5 hdX4_load ⟨by decide, by decide⟩) 0 4 rfl rfl hK hP hD hS hA hN rfl rfl (Nat.le_of_ble_eq_true rfl) dX4_performAtAddress_319 ⟨Nat.zero_le _, Nat.zero_le _⟩ (fun r16 u16 q16 H locs hP hD hS => ?_)
    have j16 : ivX4_loadP (r16, u16) := by rw [q16]; exact ivX4_load x (9 : Int32) hI
    exact reti (u := u16) hx hb hr hlocks hK hP hD hS dX4_performAtAddress_322 (by unfold fnX4_performAtAddress; (try dsimp only); rw [if_neg h1]; rw [if_neg h3]; rw [if_neg h5]; rw [if_neg h7]; rw [if_neg h9]; rw [if_neg h11]; rw [if_neg h13]; rw [if_pos (rfl : (9 : Int32) = (9 : Int32))]; rw [← q16]; (try dsimp only); (try exact rfl))
  by_cases h17 : a0 = (10 : Int32)
  · refine lv_tableIn (off := 160) (tgt := 165) hx hb dX4_performAtAddress_5 (by rw [h17]; decide) (by rw [h17]; decide) (by rw [h17]; decide) (by decide) ?_
    subst h17
    refine lv_aload_n hx hb dX4_performAtAddress_165 rfl (lv_at hl 1 rfl) ?_
    refine lv_aload_n hx hb dX4_performAtAddress_166 rfl (lv_at hl 1 rfl) ?_
    refine va_get (D := D) (ci := 4) (v := .long (x.1.2)) hx hb hG inX4 hown hK hP 0 rfl rfl 2 (by decide) (hG _ kw91) (fun _ h9 => h9) rfl dX4_performAtAddress_167 ?_
    refine kFi (As := [.long (x.1.2)]) (rest := []) hx hb hml hown hG hl (okX4_put l D cI cJ cP ad H.size x x.1.2 hI hI.1.2) (cV 1 hG kw164 kw165 kw166 kw167 kw5 hdX4_put ⟨by decide, by decide⟩) 0 4 rfl rfl hK hP hD hS hA hN rfl rfl (Nat.le_of_ble_eq_true rfl) dX4_performAtAddress_170 ⟨Nat.zero_le _, Nat.zero_le _⟩ (fun r18 u18 q18 H locs hP hD hS => ?_)
    have j18 : ivX4_putP (r18, u18) := by rw [q18]; exact ivX4_put x x.1.2 hI hI.1.2
    exact reti (u := u18) hx hb hr hlocks hK hP hD hS dX4_performAtAddress_173 (by unfold fnX4_performAtAddress; (try dsimp only); rw [if_neg h1]; rw [if_neg h3]; rw [if_neg h5]; rw [if_neg h7]; rw [if_neg h9]; rw [if_neg h11]; rw [if_neg h13]; rw [if_neg h15]; rw [if_pos (rfl : (10 : Int32) = (10 : Int32))]; rw [← q18]; (try dsimp only); (try exact rfl))
  by_cases h19 : a0 = (11 : Int32)
  · refine lv_tableIn (off := 169) (tgt := 174) hx hb dX4_performAtAddress_5 (by rw [h19]; decide) (by rw [h19]; decide) (by rw [h19]; decide) (by decide) ?_
    subst h19
    refine lv_aload_n hx hb dX4_performAtAddress_174 rfl (lv_at hl 1 rfl) ?_
    refine kFi (As := []) (rest := []) hx hb hml hown hG hl (okX4_addOne l D cI cJ cP ad H.size x hI) (cV 0 hG kw172 kw173 kw174 kw175 kw5 hdX4_addOne ⟨by decide, by decide⟩) 0 4 rfl rfl hK hP hD hS hA hN rfl rfl (Nat.le_of_ble_eq_true rfl) dX4_performAtAddress_175 ⟨Nat.zero_le _, Nat.zero_le _⟩ (fun r20 u20 q20 H locs hP hD hS => ?_)
    have j20 : ivX4_addOneP (r20, u20) := by rw [q20]; exact ivX4_addOne x hI
    exact reti (u := u20) hx hb hr hlocks hK hP hD hS dX4_performAtAddress_178 (by unfold fnX4_performAtAddress; (try dsimp only); rw [if_neg h1]; rw [if_neg h3]; rw [if_neg h5]; rw [if_neg h7]; rw [if_neg h9]; rw [if_neg h11]; rw [if_neg h13]; rw [if_neg h15]; rw [if_neg h17]; rw [if_pos (rfl : (11 : Int32) = (11 : Int32))]; rw [← q20]; (try dsimp only); (try exact rfl))
  by_cases h21 : a0 = (12 : Int32)
  · refine lv_tableIn (off := 312) (tgt := 317) hx hb dX4_performAtAddress_5 (by rw [h21]; decide) (by rw [h21]; decide) (by rw [h21]; decide) (by decide) ?_
    subst h21
    refine lv_aload_n hx hb dX4_performAtAddress_317 rfl (lv_at hl 1 rfl) ?_
    refine lv_iload_n hx hb dX4_performAtAddress_318 rfl (lv_at hl 2 rfl) ?_
    refine kFi (As := [.int ((12 : Int32))]) (rest := []) hx hb hml hown hG hl (okX4_load l D cI cJ cP ad H.size x (12 : Int32) hI) (cV 1 hG kw168 kw169 kw170 kw171 kw5 hdX4_load ⟨by decide, by decide⟩) 0 4 rfl rfl hK hP hD hS hA hN rfl rfl (Nat.le_of_ble_eq_true rfl) dX4_performAtAddress_319 ⟨Nat.zero_le _, Nat.zero_le _⟩ (fun r22 u22 q22 H locs hP hD hS => ?_)
    have j22 : ivX4_loadP (r22, u22) := by rw [q22]; exact ivX4_load x (12 : Int32) hI
    exact reti (u := u22) hx hb hr hlocks hK hP hD hS dX4_performAtAddress_322 (by unfold fnX4_performAtAddress; (try dsimp only); rw [if_neg h1]; rw [if_neg h3]; rw [if_neg h5]; rw [if_neg h7]; rw [if_neg h9]; rw [if_neg h11]; rw [if_neg h13]; rw [if_neg h15]; rw [if_neg h17]; rw [if_neg h19]; rw [if_pos (rfl : (12 : Int32) = (12 : Int32))]; rw [← q22]; (try dsimp only); (try exact rfl))
  by_cases h23 : a0 = (13 : Int32)
  · refine lv_tableIn (off := 312) (tgt := 317) hx hb dX4_performAtAddress_5 (by rw [h23]; decide) (by rw [h23]; decide) (by rw [h23]; decide) (by decide) ?_
    subst h23
    refine lv_aload_n hx hb dX4_performAtAddress_317 rfl (lv_at hl 1 rfl) ?_
    refine lv_iload_n hx hb dX4_performAtAddress_318 rfl (lv_at hl 2 rfl) ?_
    refine kFi (As := [.int ((13 : Int32))]) (rest := []) hx hb hml hown hG hl (okX4_load l D cI cJ cP ad H.size x (13 : Int32) hI) (cV 1 hG kw168 kw169 kw170 kw171 kw5 hdX4_load ⟨by decide, by decide⟩) 0 4 rfl rfl hK hP hD hS hA hN rfl rfl (Nat.le_of_ble_eq_true rfl) dX4_performAtAddress_319 ⟨Nat.zero_le _, Nat.zero_le _⟩ (fun r24 u24 q24 H locs hP hD hS => ?_)
    have j24 : ivX4_loadP (r24, u24) := by rw [q24]; exact ivX4_load x (13 : Int32) hI
    exact reti (u := u24) hx hb hr hlocks hK hP hD hS dX4_performAtAddress_322 (by unfold fnX4_performAtAddress; (try dsimp only); rw [if_neg h1]; rw [if_neg h3]; rw [if_neg h5]; rw [if_neg h7]; rw [if_neg h9]; rw [if_neg h11]; rw [if_neg h13]; rw [if_neg h15]; rw [if_neg h17]; rw [if_neg h19]; rw [if_neg h21]; rw [if_pos (rfl : (13 : Int32) = (13 : Int32))]; rw [← q24]; (try dsimp only); (try exact rfl))
  by_cases h25 : a0 = (14 : Int32)
  · refine lv_tableIn (off := 312) (tgt := 317) hx hb dX4_performAtAddress_5 (by rw [h25]; decide) (by rw [h25]; decide) (by rw [h25]; decide) (by decide) ?_
    subst h25
    refine lv_aload_n hx hb dX4_performAtAddress_317 rfl (lv_at hl 1 rfl) ?_
    refine lv_iload_n hx hb dX4_performAtAddress_318 rfl (lv_at hl 2 rfl) ?_
    refine kFi (As := [.int ((14 : Int32))]) (rest := []) hx hb hml hown hG hl (okX4_load l D cI cJ cP ad H.size x (14 : Int32) hI) (cV 1 hG kw168 kw169 kw170 kw171 kw5 hdX4_load ⟨by decide, by decide⟩) 0 4 rfl rfl hK hP hD hS hA hN rfl rfl (Nat.le_of_ble_eq_true rfl) dX4_performAtAddress_319 ⟨Nat.zero_le _, Nat.zero_le _⟩ (fun r26 u26 q26 H locs hP hD hS => ?_)
    have j26 : ivX4_loadP (r26, u26) := by rw [q26]; exact ivX4_load x (14 : Int32) hI
    exact reti (u := u26) hx hb hr hlocks hK hP hD hS dX4_performAtAddress_322 (by unfold fnX4_performAtAddress; (try dsimp only); rw [if_neg h1]; rw [if_neg h3]; rw [if_neg h5]; rw [if_neg h7]; rw [if_neg h9]; rw [if_neg h11]; rw [if_neg h13]; rw [if_neg h15]; rw [if_neg h17]; rw [if_neg h19]; rw [if_neg h21]; rw [if_neg h23]; rw [if_pos (rfl : (14 : Int32) = (14 : Int32))]; rw [← q26]; (try dsimp only); (try exact rfl))
  by_cases h27 : a0 = (15 : Int32)
  · refine lv_tableIn (off := 312) (tgt := 317) hx hb dX4_performAtAddress_5 (by rw [h27]; decide) (by rw [h27]; decide) (by rw [h27]; decide) (by decide) ?_
    subst h27
    refine lv_aload_n hx hb dX4_performAtAddress_317 rfl (lv_at hl 1 rfl) ?_
    refine lv_iload_n hx hb dX4_performAtAddress_318 rfl (lv_at hl 2 rfl) ?_
    refine kFi (As := [.int ((15 : Int32))]) (rest := []) hx hb hml hown hG hl (okX4_load l D cI cJ cP ad H.size x (15 : Int32) hI) (cV 1 hG kw168 kw169 kw170 kw171 kw5 hdX4_load ⟨by decide, by decide⟩) 0 4 rfl rfl hK hP hD hS hA hN rfl rfl (Nat.le_of_ble_eq_true rfl) dX4_performAtAddress_319 ⟨Nat.zero_le _, Nat.zero_le _⟩ (fun r28 u28 q28 H locs hP hD hS => ?_)
    have j28 : ivX4_loadP (r28, u28) := by rw [q28]; exact ivX4_load x (15 : Int32) hI
    exact reti (u := u28) hx hb hr hlocks hK hP hD hS dX4_performAtAddress_322 (by unfold fnX4_performAtAddress; (try dsimp only); rw [if_neg h1]; rw [if_neg h3]; rw [if_neg h5]; rw [if_neg h7]; rw [if_neg h9]; rw [if_neg h11]; rw [if_neg h13]; rw [if_neg h15]; rw [if_neg h17]; rw [if_neg h19]; rw [if_neg h21]; rw [if_neg h23]; rw [if_neg h25]; rw [if_pos (rfl : (15 : Int32) = (15 : Int32))]; rw [← q28]; (try dsimp only); (try exact rfl))
  by_cases h29 : a0 = (16 : Int32)
  · refine lv_tableIn (off := 174) (tgt := 179) hx hb dX4_performAtAddress_5 (by rw [h29]; decide) (by rw [h29]; decide) (by rw [h29]; decide) (by decide) ?_
    subst h29
    refine lv_aload_n hx hb dX4_performAtAddress_179 rfl (lv_at hl 1 rfl) ?_
    refine lv_aload_n hx hb dX4_performAtAddress_180 rfl (lv_at hl 1 rfl) ?_
    refine va_get (D := D) (ci := 4) (v := .ref (ad 13)) hx hb hG inX4 hown hK hP 0 rfl rfl 3 (by decide) (hG _ kw134) (fun _ h9 => h9) rfl dX4_performAtAddress_181 ?_
    refine lv_iload_n hx hb dX4_performAtAddress_184 rfl (lv_at hl 0 rfl) ?_
    refine gi (D := D) (j := 0) (f := x.2.2.1) hx hb hK hP 13 0 rfl rfl (inL (by decide)) (by decide) dX4_performAtAddress_185 ?_
    refine lv_i2l hx hb dX4_performAtAddress_186 rfl ?_
    refine kFi (As := [.long (((x.2.2.1 0)).toInt64)]) (rest := []) hx hb hml hown hG hl (okX4_put l D cI cJ cP ad H.size x (((x.2.2.1 0)).toInt64) hI (i2lW (hI.2.2.1 0))) (cV 1 hG kw164 kw165 kw166 kw167 kw5 hdX4_put ⟨by decide, by decide⟩) 0 4 rfl rfl hK hP hD hS hA hN rfl rfl (Nat.le_of_ble_eq_true rfl) dX4_performAtAddress_187 ⟨Nat.zero_le _, Nat.zero_le _⟩ (fun r30 u30 q30 H locs hP hD hS => ?_)
    have j30 : ivX4_putP (r30, u30) := by rw [q30]; exact ivX4_put x (((x.2.2.1 0)).toInt64) hI (i2lW (hI.2.2.1 0))
    exact reti (u := u30) hx hb hr hlocks hK hP hD hS dX4_performAtAddress_190 (by unfold fnX4_performAtAddress; (try dsimp only); rw [if_neg h1]; rw [if_neg h3]; rw [if_neg h5]; rw [if_neg h7]; rw [if_neg h9]; rw [if_neg h11]; rw [if_neg h13]; rw [if_neg h15]; rw [if_neg h17]; rw [if_neg h19]; rw [if_neg h21]; rw [if_neg h23]; rw [if_neg h25]; rw [if_neg h27]; rw [if_pos (rfl : (16 : Int32) = (16 : Int32))]; rw [← q30]; (try dsimp only); (try exact rfl))
  by_cases h31 : a0 = (17 : Int32)
  · refine lv_tableIn (off := 174) (tgt := 179) hx hb dX4_performAtAddress_5 (by rw [h31]; decide) (by rw [h31]; decide) (by rw [h31]; decide) (by decide) ?_
    subst h31
    refine lv_aload_n hx hb dX4_performAtAddress_179 rfl (lv_at hl 1 rfl) ?_
    refine lv_aload_n hx hb dX4_performAtAddress_180 rfl (lv_at hl 1 rfl) ?_
    refine va_get (D := D) (ci := 4) (v := .ref (ad 13)) hx hb hG inX4 hown hK hP 0 rfl rfl 3 (by decide) (hG _ kw134) (fun _ h9 => h9) rfl dX4_performAtAddress_181 ?_
    refine lv_iload_n hx hb dX4_performAtAddress_184 rfl (lv_at hl 0 rfl) ?_
    refine gi (D := D) (j := 1) (f := x.2.2.1) hx hb hK hP 13 0 rfl rfl (inL (by decide)) (by decide) dX4_performAtAddress_185 ?_
    refine lv_i2l hx hb dX4_performAtAddress_186 rfl ?_
    refine kFi (As := [.long (((x.2.2.1 1)).toInt64)]) (rest := []) hx hb hml hown hG hl (okX4_put l D cI cJ cP ad H.size x (((x.2.2.1 1)).toInt64) hI (i2lW (hI.2.2.1 1))) (cV 1 hG kw164 kw165 kw166 kw167 kw5 hdX4_put ⟨by decide, by decide⟩) 0 4 rfl rfl hK hP hD hS hA hN rfl rfl (Nat.le_of_ble_eq_true rfl) dX4_performAtAddress_187 ⟨Nat.zero_le _, Nat.zero_le _⟩ (fun r32 u32 q32 H locs hP hD hS => ?_)
    have j32 : ivX4_putP (r32, u32) := by rw [q32]; exact ivX4_put x (((x.2.2.1 1)).toInt64) hI (i2lW (hI.2.2.1 1))
    exact reti (u := u32) hx hb hr hlocks hK hP hD hS dX4_performAtAddress_190 (by unfold fnX4_performAtAddress; (try dsimp only); rw [if_neg h1]; rw [if_neg h3]; rw [if_neg h5]; rw [if_neg h7]; rw [if_neg h9]; rw [if_neg h11]; rw [if_neg h13]; rw [if_neg h15]; rw [if_neg h17]; rw [if_neg h19]; rw [if_neg h21]; rw [if_neg h23]; rw [if_neg h25]; rw [if_neg h27]; rw [if_neg h29]; rw [if_pos (rfl : (17 : Int32) = (17 : Int32))]; rw [← q32]; (try dsimp only); (try exact rfl))
  by_cases h33 : a0 = (18 : Int32)
  · refine lv_tableIn (off := 174) (tgt := 179) hx hb dX4_performAtAddress_5 (by rw [h33]; decide) (by rw [h33]; decide) (by rw [h33]; decide) (by decide) ?_
    subst h33
    refine lv_aload_n hx hb dX4_performAtAddress_179 rfl (lv_at hl 1 rfl) ?_
    refine lv_aload_n hx hb dX4_performAtAddress_180 rfl (lv_at hl 1 rfl) ?_
    refine va_get (D := D) (ci := 4) (v := .ref (ad 13)) hx hb hG inX4 hown hK hP 0 rfl rfl 3 (by decide) (hG _ kw134) (fun _ h9 => h9) rfl dX4_performAtAddress_181 ?_
    refine lv_iload_n hx hb dX4_performAtAddress_184 rfl (lv_at hl 0 rfl) ?_
    refine gi (D := D) (j := 2) (f := x.2.2.1) hx hb hK hP 13 0 rfl rfl (inL (by decide)) (by decide) dX4_performAtAddress_185 ?_
    refine lv_i2l hx hb dX4_performAtAddress_186 rfl ?_
    refine kFi (As := [.long (((x.2.2.1 2)).toInt64)]) (rest := []) hx hb hml hown hG hl (okX4_put l D cI cJ cP ad H.size x (((x.2.2.1 2)).toInt64) hI (i2lW (hI.2.2.1 2))) (cV 1 hG kw164 kw165 kw166 kw167 kw5 hdX4_put ⟨by decide, by decide⟩) 0 4 rfl rfl hK hP hD hS hA hN rfl rfl (Nat.le_of_ble_eq_true rfl) dX4_performAtAddress_187 ⟨Nat.zero_le _, Nat.zero_le _⟩ (fun r34 u34 q34 H locs hP hD hS => ?_)
    have j34 : ivX4_putP (r34, u34) := by rw [q34]; exact ivX4_put x (((x.2.2.1 2)).toInt64) hI (i2lW (hI.2.2.1 2))
    exact reti (u := u34) hx hb hr hlocks hK hP hD hS dX4_performAtAddress_190 (by unfold fnX4_performAtAddress; (try dsimp only); rw [if_neg h1]; rw [if_neg h3]; rw [if_neg h5]; rw [if_neg h7]; rw [if_neg h9]; rw [if_neg h11]; rw [if_neg h13]; rw [if_neg h15]; rw [if_neg h17]; rw [if_neg h19]; rw [if_neg h21]; rw [if_neg h23]; rw [if_neg h25]; rw [if_neg h27]; rw [if_neg h29]; rw [if_neg h31]; rw [if_pos (rfl : (18 : Int32) = (18 : Int32))]; rw [← q34]; (try dsimp only); (try exact rfl))
  by_cases h35 : a0 = (19 : Int32)
  · refine lv_tableIn (off := 174) (tgt := 179) hx hb dX4_performAtAddress_5 (by rw [h35]; decide) (by rw [h35]; decide) (by rw [h35]; decide) (by decide) ?_
    subst h35
    refine lv_aload_n hx hb dX4_performAtAddress_179 rfl (lv_at hl 1 rfl) ?_
    refine lv_aload_n hx hb dX4_performAtAddress_180 rfl (lv_at hl 1 rfl) ?_
    refine va_get (D := D) (ci := 4) (v := .ref (ad 13)) hx hb hG inX4 hown hK hP 0 rfl rfl 3 (by decide) (hG _ kw134) (fun _ h9 => h9) rfl dX4_performAtAddress_181 ?_
    refine lv_iload_n hx hb dX4_performAtAddress_184 rfl (lv_at hl 0 rfl) ?_
    refine gi (D := D) (j := 3) (f := x.2.2.1) hx hb hK hP 13 0 rfl rfl (inL (by decide)) (by decide) dX4_performAtAddress_185 ?_
    refine lv_i2l hx hb dX4_performAtAddress_186 rfl ?_
    refine kFi (As := [.long (((x.2.2.1 3)).toInt64)]) (rest := []) hx hb hml hown hG hl (okX4_put l D cI cJ cP ad H.size x (((x.2.2.1 3)).toInt64) hI (i2lW (hI.2.2.1 3))) (cV 1 hG kw164 kw165 kw166 kw167 kw5 hdX4_put ⟨by decide, by decide⟩) 0 4 rfl rfl hK hP hD hS hA hN rfl rfl (Nat.le_of_ble_eq_true rfl) dX4_performAtAddress_187 ⟨Nat.zero_le _, Nat.zero_le _⟩ (fun r36 u36 q36 H locs hP hD hS => ?_)
    have j36 : ivX4_putP (r36, u36) := by rw [q36]; exact ivX4_put x (((x.2.2.1 3)).toInt64) hI (i2lW (hI.2.2.1 3))
    exact reti (u := u36) hx hb hr hlocks hK hP hD hS dX4_performAtAddress_190 (by unfold fnX4_performAtAddress; (try dsimp only); rw [if_neg h1]; rw [if_neg h3]; rw [if_neg h5]; rw [if_neg h7]; rw [if_neg h9]; rw [if_neg h11]; rw [if_neg h13]; rw [if_neg h15]; rw [if_neg h17]; rw [if_neg h19]; rw [if_neg h21]; rw [if_neg h23]; rw [if_neg h25]; rw [if_neg h27]; rw [if_neg h29]; rw [if_neg h31]; rw [if_neg h33]; rw [if_pos (rfl : (19 : Int32) = (19 : Int32))]; rw [← q36]; (try dsimp only); (try exact rfl))
  by_cases h37 : a0 = (20 : Int32)
  · refine lv_tableIn (off := 200) (tgt := 205) hx hb dX4_performAtAddress_5 (by rw [h37]; decide) (by rw [h37]; decide) (by rw [h37]; decide) (by decide) ?_
    subst h37
    refine lv_aload_n hx hb dX4_performAtAddress_205 rfl (lv_at hl 1 rfl) ?_
    refine lv_iconst (v := 1) hx hb dX4_performAtAddress_206 (by decide) ?_
    refine kFi (As := [.int ((1 : Int32))]) (rest := []) hx hb hml hown hG hl (okX4_transfer l D cI cJ cP ad H.size x (1 : Int32) hI) (cV 1 hG kw176 kw177 kw178 kw179 kw5 hdX4_transfer ⟨by decide, by decide⟩) 0 4 rfl rfl hK hP hD hS hA hN rfl rfl (Nat.le_of_ble_eq_true rfl) dX4_performAtAddress_207 ⟨Nat.zero_le _, Nat.zero_le _⟩ (fun r38 u38 q38 H locs hP hD hS => ?_)
    have j38 : ivX4_transferP (r38, u38) := by rw [q38]; exact ivX4_transfer x (1 : Int32) hI
    exact reti (u := u38) hx hb hr hlocks hK hP hD hS dX4_performAtAddress_210 (by unfold fnX4_performAtAddress; (try dsimp only); rw [if_neg h1]; rw [if_neg h3]; rw [if_neg h5]; rw [if_neg h7]; rw [if_neg h9]; rw [if_neg h11]; rw [if_neg h13]; rw [if_neg h15]; rw [if_neg h17]; rw [if_neg h19]; rw [if_neg h21]; rw [if_neg h23]; rw [if_neg h25]; rw [if_neg h27]; rw [if_neg h29]; rw [if_neg h31]; rw [if_neg h33]; rw [if_neg h35]; rw [if_pos (rfl : (20 : Int32) = (20 : Int32))]; rw [← q38]; (try dsimp only); (try exact rfl))
  by_cases h39 : a0 = (21 : Int32)
  · refine lv_tableIn (off := 206) (tgt := 211) hx hb dX4_performAtAddress_5 (by rw [h39]; decide) (by rw [h39]; decide) (by rw [h39]; decide) (by decide) ?_
    subst h39
    refine lv_aload_n hx hb dX4_performAtAddress_211 rfl (lv_at hl 1 rfl) ?_
    refine lv_aload_n hx hb dX4_performAtAddress_212 rfl (lv_at hl 1 rfl) ?_
    refine va_get (D := D) (ci := 4) (v := .long (x.1.1)) hx hb hG inX4 hown hK hP 0 rfl rfl 1 (by decide) (hG _ kw90) (fun _ h9 => h9) rfl dX4_performAtAddress_213 ?_
    refine lv_lconst (v := 0) hx hb dX4_performAtAddress_216 (by decide) ?_
    refine lq_ne (tgt := 225) hx hb dX4_performAtAddress_217 dX4_performAtAddress_218 (by decide) (fun h40 => ?_) (fun h40 => ?_)
    · refine lv_iconst (v := 0) hx hb dX4_performAtAddress_225 (by decide) ?_
      refine kFi (As := [.int ((0 : Int32))]) (rest := []) hx hb hml hown hG hl (okX4_transfer l D cI cJ cP ad H.size x (0 : Int32) hI) (cV 1 hG kw176 kw177 kw178 kw179 kw5 hdX4_transfer ⟨by decide, by decide⟩) 0 4 rfl rfl hK hP hD hS hA hN rfl rfl (Nat.le_of_ble_eq_true rfl) dX4_performAtAddress_226 ⟨Nat.zero_le _, Nat.zero_le _⟩ (fun r41 u41 q41 H locs hP hD hS => ?_)
      have j41 : ivX4_transferP (r41, u41) := by rw [q41]; exact ivX4_transfer x (0 : Int32) hI
      exact reti (u := u41) hx hb hr hlocks hK hP hD hS dX4_performAtAddress_229 (by unfold fnX4_performAtAddress; (try dsimp only); rw [if_neg h1]; rw [if_neg h3]; rw [if_neg h5]; rw [if_neg h7]; rw [if_neg h9]; rw [if_neg h11]; rw [if_neg h13]; rw [if_neg h15]; rw [if_neg h17]; rw [if_neg h19]; rw [if_neg h21]; rw [if_neg h23]; rw [if_neg h25]; rw [if_neg h27]; rw [if_neg h29]; rw [if_neg h31]; rw [if_neg h33]; rw [if_neg h35]; rw [if_neg h37]; rw [if_pos (rfl : (21 : Int32) = (21 : Int32))]; rw [if_neg h40]; rw [← q41]; (try dsimp only); (try exact rfl))
    · refine lv_iconst (v := 1) hx hb dX4_performAtAddress_221 (by decide) ?_
      refine lv_goto (tgt := 226) hx hb dX4_performAtAddress_222 (by decide) ?_
      refine kFi (As := [.int ((1 : Int32))]) (rest := []) hx hb hml hown hG hl (okX4_transfer l D cI cJ cP ad H.size x (1 : Int32) hI) (cV 1 hG kw176 kw177 kw178 kw179 kw5 hdX4_transfer ⟨by decide, by decide⟩) 0 4 rfl rfl hK hP hD hS hA hN rfl rfl (Nat.le_of_ble_eq_true rfl) dX4_performAtAddress_226 ⟨Nat.zero_le _, Nat.zero_le _⟩ (fun r42 u42 q42 H locs hP hD hS => ?_)
      have j42 : ivX4_transferP (r42, u42) := by rw [q42]; exact ivX4_transfer x (1 : Int32) hI
      exact reti (u := u42) hx hb hr hlocks hK hP hD hS dX4_performAtAddress_229 (by unfold fnX4_performAtAddress; (try dsimp only); rw [if_neg h1]; rw [if_neg h3]; rw [if_neg h5]; rw [if_neg h7]; rw [if_neg h9]; rw [if_neg h11]; rw [if_neg h13]; rw [if_neg h15]; rw [if_neg h17]; rw [if_neg h19]; rw [if_neg h21]; rw [if_neg h23]; rw [if_neg h25]; rw [if_neg h27]; rw [if_neg h29]; rw [if_neg h31]; rw [if_neg h33]; rw [if_neg h35]; rw [if_neg h37]; rw [if_pos (rfl : (21 : Int32) = (21 : Int32))]; rw [if_pos h40]; rw [← q42]; (try dsimp only); (try exact rfl))
  by_cases h43 : a0 = (22 : Int32)
  · refine lv_tableIn (off := 225) (tgt := 230) hx hb dX4_performAtAddress_5 (by rw [h43]; decide) (by rw [h43]; decide) (by rw [h43]; decide) (by decide) ?_
    subst h43
    refine lv_aload_n hx hb dX4_performAtAddress_230 rfl (lv_at hl 1 rfl) ?_
    refine lv_aload_n hx hb dX4_performAtAddress_231 rfl (lv_at hl 1 rfl) ?_
    refine va_get (D := D) (ci := 4) (v := .long (x.1.1)) hx hb hG inX4 hown hK hP 0 rfl rfl 1 (by decide) (hG _ kw90) (fun _ h9 => h9) rfl dX4_performAtAddress_232 ?_
    refine lv_lconst (v := 0) hx hb dX4_performAtAddress_235 (by decide) ?_
    refine lq_eq (tgt := 244) hx hb dX4_performAtAddress_236 dX4_performAtAddress_237 (by decide) (fun h44 => ?_) (fun h44 => ?_)
    · refine lv_iconst (v := 0) hx hb dX4_performAtAddress_244 (by decide) ?_
      refine kFi (As := [.int ((0 : Int32))]) (rest := []) hx hb hml hown hG hl (okX4_transfer l D cI cJ cP ad H.size x (0 : Int32) hI) (cV 1 hG kw176 kw177 kw178 kw179 kw5 hdX4_transfer ⟨by decide, by decide⟩) 0 4 rfl rfl hK hP hD hS hA hN rfl rfl (Nat.le_of_ble_eq_true rfl) dX4_performAtAddress_245 ⟨Nat.zero_le _, Nat.zero_le _⟩ (fun r45 u45 q45 H locs hP hD hS => ?_)
      have j45 : ivX4_transferP (r45, u45) := by rw [q45]; exact ivX4_transfer x (0 : Int32) hI
      exact reti (u := u45) hx hb hr hlocks hK hP hD hS dX4_performAtAddress_248 (by unfold fnX4_performAtAddress; (try dsimp only); rw [if_neg h1]; rw [if_neg h3]; rw [if_neg h5]; rw [if_neg h7]; rw [if_neg h9]; rw [if_neg h11]; rw [if_neg h13]; rw [if_neg h15]; rw [if_neg h17]; rw [if_neg h19]; rw [if_neg h21]; rw [if_neg h23]; rw [if_neg h25]; rw [if_neg h27]; rw [if_neg h29]; rw [if_neg h31]; rw [if_neg h33]; rw [if_neg h35]; rw [if_neg h37]; rw [if_neg h39]; rw [if_pos (rfl : (22 : Int32) = (22 : Int32))]; rw [if_pos h44]; rw [← q45]; (try dsimp only); (try exact rfl))
    · refine lv_iconst (v := 1) hx hb dX4_performAtAddress_240 (by decide) ?_
      refine lv_goto (tgt := 245) hx hb dX4_performAtAddress_241 (by decide) ?_
      refine kFi (As := [.int ((1 : Int32))]) (rest := []) hx hb hml hown hG hl (okX4_transfer l D cI cJ cP ad H.size x (1 : Int32) hI) (cV 1 hG kw176 kw177 kw178 kw179 kw5 hdX4_transfer ⟨by decide, by decide⟩) 0 4 rfl rfl hK hP hD hS hA hN rfl rfl (Nat.le_of_ble_eq_true rfl) dX4_performAtAddress_245 ⟨Nat.zero_le _, Nat.zero_le _⟩ (fun r46 u46 q46 H locs hP hD hS => ?_)
      have j46 : ivX4_transferP (r46, u46) := by rw [q46]; exact ivX4_transfer x (1 : Int32) hI
      exact reti (u := u46) hx hb hr hlocks hK hP hD hS dX4_performAtAddress_248 (by unfold fnX4_performAtAddress; (try dsimp only); rw [if_neg h1]; rw [if_neg h3]; rw [if_neg h5]; rw [if_neg h7]; rw [if_neg h9]; rw [if_neg h11]; rw [if_neg h13]; rw [if_neg h15]; rw [if_neg h17]; rw [if_neg h19]; rw [if_neg h21]; rw [if_neg h23]; rw [if_neg h25]; rw [if_neg h27]; rw [if_neg h29]; rw [if_neg h31]; rw [if_neg h33]; rw [if_neg h35]; rw [if_neg h37]; rw [if_neg h39]; rw [if_pos (rfl : (22 : Int32) = (22 : Int32))]; rw [if_neg h44]; rw [← q46]; (try dsimp only); (try exact rfl))
  by_cases h47 : a0 = (23 : Int32)
  · refine lv_tableIn (off := 244) (tgt := 249) hx hb dX4_performAtAddress_5 (by rw [h47]; decide) (by rw [h47]; decide) (by rw [h47]; decide) (by decide) ?_
    subst h47
    refine lv_aload_n hx hb dX4_performAtAddress_249 rfl (lv_at hl 1 rfl) ?_
    refine lv_aload_n hx hb dX4_performAtAddress_250 rfl (lv_at hl 1 rfl) ?_
    refine va_get (D := D) (ci := 4) (v := .long (x.1.1)) hx hb hG inX4 hown hK hP 0 rfl rfl 1 (by decide) (hG _ kw90) (fun _ h9 => h9) rfl dX4_performAtAddress_251 ?_
    refine lv_ldc2 (v := 34359738368) hx hb hown (hG _ kw180) dX4_performAtAddress_254 ?_
    refine lv_land hx hb dX4_performAtAddress_257 ?_
    refine lv_lconst (v := 0) hx hb dX4_performAtAddress_258 (by decide) ?_
    refine lq_eq (tgt := 267) hx hb dX4_performAtAddress_259 dX4_performAtAddress_260 (by decide) (fun h48 => ?_) (fun h48 => ?_)
    · refine lv_iconst (v := 0) hx hb dX4_performAtAddress_267 (by decide) ?_
      refine kFi (As := [.int ((0 : Int32))]) (rest := []) hx hb hml hown hG hl (okX4_transfer l D cI cJ cP ad H.size x (0 : Int32) hI) (cV 1 hG kw176 kw177 kw178 kw179 kw5 hdX4_transfer ⟨by decide, by decide⟩) 0 4 rfl rfl hK hP hD hS hA hN rfl rfl (Nat.le_of_ble_eq_true rfl) dX4_performAtAddress_268 ⟨Nat.zero_le _, Nat.zero_le _⟩ (fun r49 u49 q49 H locs hP hD hS => ?_)
      have j49 : ivX4_transferP (r49, u49) := by rw [q49]; exact ivX4_transfer x (0 : Int32) hI
      exact reti (u := u49) hx hb hr hlocks hK hP hD hS dX4_performAtAddress_271 (by unfold fnX4_performAtAddress; (try dsimp only); rw [if_neg h1]; rw [if_neg h3]; rw [if_neg h5]; rw [if_neg h7]; rw [if_neg h9]; rw [if_neg h11]; rw [if_neg h13]; rw [if_neg h15]; rw [if_neg h17]; rw [if_neg h19]; rw [if_neg h21]; rw [if_neg h23]; rw [if_neg h25]; rw [if_neg h27]; rw [if_neg h29]; rw [if_neg h31]; rw [if_neg h33]; rw [if_neg h35]; rw [if_neg h37]; rw [if_neg h39]; rw [if_neg h43]; rw [if_pos (rfl : (23 : Int32) = (23 : Int32))]; rw [if_pos h48]; rw [← q49]; (try dsimp only); (try exact rfl))
    · refine lv_iconst (v := 1) hx hb dX4_performAtAddress_263 (by decide) ?_
      refine lv_goto (tgt := 268) hx hb dX4_performAtAddress_264 (by decide) ?_
      refine kFi (As := [.int ((1 : Int32))]) (rest := []) hx hb hml hown hG hl (okX4_transfer l D cI cJ cP ad H.size x (1 : Int32) hI) (cV 1 hG kw176 kw177 kw178 kw179 kw5 hdX4_transfer ⟨by decide, by decide⟩) 0 4 rfl rfl hK hP hD hS hA hN rfl rfl (Nat.le_of_ble_eq_true rfl) dX4_performAtAddress_268 ⟨Nat.zero_le _, Nat.zero_le _⟩ (fun r50 u50 q50 H locs hP hD hS => ?_)
      have j50 : ivX4_transferP (r50, u50) := by rw [q50]; exact ivX4_transfer x (1 : Int32) hI
      exact reti (u := u50) hx hb hr hlocks hK hP hD hS dX4_performAtAddress_271 (by unfold fnX4_performAtAddress; (try dsimp only); rw [if_neg h1]; rw [if_neg h3]; rw [if_neg h5]; rw [if_neg h7]; rw [if_neg h9]; rw [if_neg h11]; rw [if_neg h13]; rw [if_neg h15]; rw [if_neg h17]; rw [if_neg h19]; rw [if_neg h21]; rw [if_neg h23]; rw [if_neg h25]; rw [if_neg h27]; rw [if_neg h29]; rw [if_neg h31]; rw [if_neg h33]; rw [if_neg h35]; rw [if_neg h37]; rw [if_neg h39]; rw [if_neg h43]; rw [if_pos (rfl : (23 : Int32) = (23 : Int32))]; rw [if_neg h48]; rw [← q50]; (try dsimp only); (try exact rfl))
  by_cases h51 : a0 = (24 : Int32)
  · refine lv_tableIn (off := 267) (tgt := 272) hx hb dX4_performAtAddress_5 (by rw [h51]; decide) (by rw [h51]; decide) (by rw [h51]; decide) (by decide) ?_
    subst h51
    refine lv_aload_n hx hb dX4_performAtAddress_272 rfl (lv_at hl 1 rfl) ?_
    refine va_get (D := D) (ci := 4) (v := .ref (ad 14)) hx hb hG inX4 hown hK hP 0 rfl rfl 4 (by decide) (hG _ kw149) (fun _ h9 => h9) rfl dX4_performAtAddress_273 ?_
    refine lv_iload_n hx hb dX4_performAtAddress_276 rfl (lv_at hl 0 rfl) ?_
    refine gq (D := D) (j := 0) (x := ad 15) hx hb hK hP 14 2 rfl rfl (inL (by decide)) (by decide) rfl dX4_performAtAddress_277 ?_
    refine lv_aload_n hx hb dX4_performAtAddress_278 rfl (lv_at hl 1 rfl) ?_
    refine va_get (D := D) (ci := 4) (v := .ref (ad 12)) hx hb hG inX4 hown hK hP 0 rfl rfl 6 (by decide) (hG _ kw124) (fun _ h9 => h9) rfl dX4_performAtAddress_279 ?_
    refine kVv (As := [.ref (ad 12)]) (rest := []) (W' := (fun u52 => (wR cI cJ cP ad (x.1, x.2.1, x.2.2.1, (u52, x.2.2.2.1.2.1, x.2.2.2.1.2.2.1, x.2.2.2.1.2.2.2), x.2.2.2.2.1, x.2.2.2.2.2.1, x.2.2.2.2.2.2.1, x.2.2.2.2.2.2.2)))) hx hb hml hown hG hl (okX2_become l D cI cJ cP (ad 15) (ad 12) H.size x.2.2.2.1.1 x.2.2.2.2.2.1 hI.2.2.2.1.1 hI.2.2.2.2.2.1) (cV 1 hG kw98 kw100 kw101 kw102 kw99 hdX2_become ⟨by decide, by decide⟩) 15 2 rfl rfl hK hP hD hS hA hN [15, 12] rfl rfl rfl (fun _ => rfl) (fun _ => rfl) rfl rfl (Nat.le_of_ble_eq_true rfl) dX4_performAtAddress_282 ⟨Nat.zero_le _, Nat.zero_le _⟩ (fun u52 q52 H locs hP hD hS => ?_)
    have j52 : ivX2_becomeP u52 := by rw [q52]; exact ivX2_become x.2.2.2.1.1 x.2.2.2.2.2.1 hI.2.2.2.1.1 hI.2.2.2.2.2.1
    refine lv_aload_n hx hb dX4_performAtAddress_285 rfl (lv_at hl 1 rfl) ?_
    refine kFi (As := []) (rest := []) hx hb hml hown hG hl (okX4_advance l D cI cJ cP ad H.size (x.1, x.2.1, x.2.2.1, (u52, x.2.2.2.1.2.1, x.2.2.2.1.2.2.1, x.2.2.2.1.2.2.2), x.2.2.2.2.1, x.2.2.2.2.2.1, x.2.2.2.2.2.2.1, x.2.2.2.2.2.2.2) ⟨hI.1, hI.2.1, hI.2.2.1, ⟨j52, hI.2.2.2.1.2.1, hI.2.2.2.1.2.2.1, hI.2.2.2.1.2.2.2⟩, hI.2.2.2.2.1, hI.2.2.2.2.2.1, hI.2.2.2.2.2.2.1, hI.2.2.2.2.2.2.2⟩) (cV 0 hG kw92 kw93 kw94 kw95 kw5 hdX4_advance ⟨by decide, by decide⟩) 0 4 rfl rfl hK hP hD hS hA hN rfl rfl (Nat.le_of_ble_eq_true rfl) dX4_performAtAddress_286 ⟨Nat.zero_le _, Nat.zero_le _⟩ (fun r53 u53 q53 H locs hP hD hS => ?_)
    have j53 : ivX4_advanceP (r53, u53) := by rw [q53]; exact ivX4_advance (x.1, x.2.1, x.2.2.1, (u52, x.2.2.2.1.2.1, x.2.2.2.1.2.2.1, x.2.2.2.1.2.2.2), x.2.2.2.2.1, x.2.2.2.2.2.1, x.2.2.2.2.2.2.1, x.2.2.2.2.2.2.2) ⟨hI.1, hI.2.1, hI.2.2.1, ⟨j52, hI.2.2.2.1.2.1, hI.2.2.2.1.2.2.1, hI.2.2.2.1.2.2.2⟩, hI.2.2.2.2.1, hI.2.2.2.2.2.1, hI.2.2.2.2.2.2.1, hI.2.2.2.2.2.2.2⟩
    exact reti (u := u53) hx hb hr hlocks hK hP hD hS dX4_performAtAddress_289 (by unfold fnX4_performAtAddress; (try dsimp only); rw [if_neg h1]; rw [if_neg h3]; rw [if_neg h5]; rw [if_neg h7]; rw [if_neg h9]; rw [if_neg h11]; rw [if_neg h13]; rw [if_neg h15]; rw [if_neg h17]; rw [if_neg h19]; rw [if_neg h21]; rw [if_neg h23]; rw [if_neg h25]; rw [if_neg h27]; rw [if_neg h29]; rw [if_neg h31]; rw [if_neg h33]; rw [if_neg h35]; rw [if_neg h37]; rw [if_neg h39]; rw [if_neg h43]; rw [if_neg h47]; rw [if_pos (rfl : (24 : Int32) = (24 : Int32))]; rw [← q52]; (try dsimp only); rw [← q53]; (try dsimp only); (try exact rfl))
  by_cases h54 : a0 = (25 : Int32)
  · refine lv_tableIn (off := 267) (tgt := 272) hx hb dX4_performAtAddress_5 (by rw [h54]; decide) (by rw [h54]; decide) (by rw [h54]; decide) (by decide) ?_
    subst h54
    refine lv_aload_n hx hb dX4_performAtAddress_272 rfl (lv_at hl 1 rfl) ?_
    refine va_get (D := D) (ci := 4) (v := .ref (ad 14)) hx hb hG inX4 hown hK hP 0 rfl rfl 4 (by decide) (hG _ kw149) (fun _ h9 => h9) rfl dX4_performAtAddress_273 ?_
    refine lv_iload_n hx hb dX4_performAtAddress_276 rfl (lv_at hl 0 rfl) ?_
    refine gq (D := D) (j := 1) (x := ad 16) hx hb hK hP 14 2 rfl rfl (inL (by decide)) (by decide) rfl dX4_performAtAddress_277 ?_
    refine lv_aload_n hx hb dX4_performAtAddress_278 rfl (lv_at hl 1 rfl) ?_
    refine va_get (D := D) (ci := 4) (v := .ref (ad 12)) hx hb hG inX4 hown hK hP 0 rfl rfl 6 (by decide) (hG _ kw124) (fun _ h9 => h9) rfl dX4_performAtAddress_279 ?_
    refine kVv (As := [.ref (ad 12)]) (rest := []) (W' := (fun u55 => (wR cI cJ cP ad (x.1, x.2.1, x.2.2.1, (x.2.2.2.1.1, u55, x.2.2.2.1.2.2.1, x.2.2.2.1.2.2.2), x.2.2.2.2.1, x.2.2.2.2.2.1, x.2.2.2.2.2.2.1, x.2.2.2.2.2.2.2)))) hx hb hml hown hG hl (okX2_become l D cI cJ cP (ad 16) (ad 12) H.size x.2.2.2.1.2.1 x.2.2.2.2.2.1 hI.2.2.2.1.2.1 hI.2.2.2.2.2.1) (cV 1 hG kw98 kw100 kw101 kw102 kw99 hdX2_become ⟨by decide, by decide⟩) 16 2 rfl rfl hK hP hD hS hA hN [16, 12] rfl rfl rfl (fun _ => rfl) (fun _ => rfl) rfl rfl (Nat.le_of_ble_eq_true rfl) dX4_performAtAddress_282 ⟨Nat.zero_le _, Nat.zero_le _⟩ (fun u55 q55 H locs hP hD hS => ?_)
    have j55 : ivX2_becomeP u55 := by rw [q55]; exact ivX2_become x.2.2.2.1.2.1 x.2.2.2.2.2.1 hI.2.2.2.1.2.1 hI.2.2.2.2.2.1
    refine lv_aload_n hx hb dX4_performAtAddress_285 rfl (lv_at hl 1 rfl) ?_
    refine kFi (As := []) (rest := []) hx hb hml hown hG hl (okX4_advance l D cI cJ cP ad H.size (x.1, x.2.1, x.2.2.1, (x.2.2.2.1.1, u55, x.2.2.2.1.2.2.1, x.2.2.2.1.2.2.2), x.2.2.2.2.1, x.2.2.2.2.2.1, x.2.2.2.2.2.2.1, x.2.2.2.2.2.2.2) ⟨hI.1, hI.2.1, hI.2.2.1, ⟨hI.2.2.2.1.1, j55, hI.2.2.2.1.2.2.1, hI.2.2.2.1.2.2.2⟩, hI.2.2.2.2.1, hI.2.2.2.2.2.1, hI.2.2.2.2.2.2.1, hI.2.2.2.2.2.2.2⟩) (cV 0 hG kw92 kw93 kw94 kw95 kw5 hdX4_advance ⟨by decide, by decide⟩) 0 4 rfl rfl hK hP hD hS hA hN rfl rfl (Nat.le_of_ble_eq_true rfl) dX4_performAtAddress_286 ⟨Nat.zero_le _, Nat.zero_le _⟩ (fun r56 u56 q56 H locs hP hD hS => ?_)
    have j56 : ivX4_advanceP (r56, u56) := by rw [q56]; exact ivX4_advance (x.1, x.2.1, x.2.2.1, (x.2.2.2.1.1, u55, x.2.2.2.1.2.2.1, x.2.2.2.1.2.2.2), x.2.2.2.2.1, x.2.2.2.2.2.1, x.2.2.2.2.2.2.1, x.2.2.2.2.2.2.2) ⟨hI.1, hI.2.1, hI.2.2.1, ⟨hI.2.2.2.1.1, j55, hI.2.2.2.1.2.2.1, hI.2.2.2.1.2.2.2⟩, hI.2.2.2.2.1, hI.2.2.2.2.2.1, hI.2.2.2.2.2.2.1, hI.2.2.2.2.2.2.2⟩
    exact reti (u := u56) hx hb hr hlocks hK hP hD hS dX4_performAtAddress_289 (by unfold fnX4_performAtAddress; (try dsimp only); rw [if_neg h1]; rw [if_neg h3]; rw [if_neg h5]; rw [if_neg h7]; rw [if_neg h9]; rw [if_neg h11]; rw [if_neg h13]; rw [if_neg h15]; rw [if_neg h17]; rw [if_neg h19]; rw [if_neg h21]; rw [if_neg h23]; rw [if_neg h25]; rw [if_neg h27]; rw [if_neg h29]; rw [if_neg h31]; rw [if_neg h33]; rw [if_neg h35]; rw [if_neg h37]; rw [if_neg h39]; rw [if_neg h43]; rw [if_neg h47]; rw [if_neg h51]; rw [if_pos (rfl : (25 : Int32) = (25 : Int32))]; rw [← q55]; (try dsimp only); rw [← q56]; (try dsimp only); (try exact rfl))
  by_cases h57 : a0 = (26 : Int32)
  · refine lv_tableIn (off := 267) (tgt := 272) hx hb dX4_performAtAddress_5 (by rw [h57]; decide) (by rw [h57]; decide) (by rw [h57]; decide) (by decide) ?_
    subst h57
    refine lv_aload_n hx hb dX4_performAtAddress_272 rfl (lv_at hl 1 rfl) ?_
    refine va_get (D := D) (ci := 4) (v := .ref (ad 14)) hx hb hG inX4 hown hK hP 0 rfl rfl 4 (by decide) (hG _ kw149) (fun _ h9 => h9) rfl dX4_performAtAddress_273 ?_
    refine lv_iload_n hx hb dX4_performAtAddress_276 rfl (lv_at hl 0 rfl) ?_
    refine gq (D := D) (j := 2) (x := ad 17) hx hb hK hP 14 2 rfl rfl (inL (by decide)) (by decide) rfl dX4_performAtAddress_277 ?_
    refine lv_aload_n hx hb dX4_performAtAddress_278 rfl (lv_at hl 1 rfl) ?_
    refine va_get (D := D) (ci := 4) (v := .ref (ad 12)) hx hb hG inX4 hown hK hP 0 rfl rfl 6 (by decide) (hG _ kw124) (fun _ h9 => h9) rfl dX4_performAtAddress_279 ?_
    refine kVv (As := [.ref (ad 12)]) (rest := []) (W' := (fun u58 => (wR cI cJ cP ad (x.1, x.2.1, x.2.2.1, (x.2.2.2.1.1, x.2.2.2.1.2.1, u58, x.2.2.2.1.2.2.2), x.2.2.2.2.1, x.2.2.2.2.2.1, x.2.2.2.2.2.2.1, x.2.2.2.2.2.2.2)))) hx hb hml hown hG hl (okX2_become l D cI cJ cP (ad 17) (ad 12) H.size x.2.2.2.1.2.2.1 x.2.2.2.2.2.1 hI.2.2.2.1.2.2.1 hI.2.2.2.2.2.1) (cV 1 hG kw98 kw100 kw101 kw102 kw99 hdX2_become ⟨by decide, by decide⟩) 17 2 rfl rfl hK hP hD hS hA hN [17, 12] rfl rfl rfl (fun _ => rfl) (fun _ => rfl) rfl rfl (Nat.le_of_ble_eq_true rfl) dX4_performAtAddress_282 ⟨Nat.zero_le _, Nat.zero_le _⟩ (fun u58 q58 H locs hP hD hS => ?_)
    have j58 : ivX2_becomeP u58 := by rw [q58]; exact ivX2_become x.2.2.2.1.2.2.1 x.2.2.2.2.2.1 hI.2.2.2.1.2.2.1 hI.2.2.2.2.2.1
    refine lv_aload_n hx hb dX4_performAtAddress_285 rfl (lv_at hl 1 rfl) ?_
    refine kFi (As := []) (rest := []) hx hb hml hown hG hl (okX4_advance l D cI cJ cP ad H.size (x.1, x.2.1, x.2.2.1, (x.2.2.2.1.1, x.2.2.2.1.2.1, u58, x.2.2.2.1.2.2.2), x.2.2.2.2.1, x.2.2.2.2.2.1, x.2.2.2.2.2.2.1, x.2.2.2.2.2.2.2) ⟨hI.1, hI.2.1, hI.2.2.1, ⟨hI.2.2.2.1.1, hI.2.2.2.1.2.1, j58, hI.2.2.2.1.2.2.2⟩, hI.2.2.2.2.1, hI.2.2.2.2.2.1, hI.2.2.2.2.2.2.1, hI.2.2.2.2.2.2.2⟩) (cV 0 hG kw92 kw93 kw94 kw95 kw5 hdX4_advance ⟨by decide, by decide⟩) 0 4 rfl rfl hK hP hD hS hA hN rfl rfl (Nat.le_of_ble_eq_true rfl) dX4_performAtAddress_286 ⟨Nat.zero_le _, Nat.zero_le _⟩ (fun r59 u59 q59 H locs hP hD hS => ?_)
    have j59 : ivX4_advanceP (r59, u59) := by rw [q59]; exact ivX4_advance (x.1, x.2.1, x.2.2.1, (x.2.2.2.1.1, x.2.2.2.1.2.1, u58, x.2.2.2.1.2.2.2), x.2.2.2.2.1, x.2.2.2.2.2.1, x.2.2.2.2.2.2.1, x.2.2.2.2.2.2.2) ⟨hI.1, hI.2.1, hI.2.2.1, ⟨hI.2.2.2.1.1, hI.2.2.2.1.2.1, j58, hI.2.2.2.1.2.2.2⟩, hI.2.2.2.2.1, hI.2.2.2.2.2.1, hI.2.2.2.2.2.2.1, hI.2.2.2.2.2.2.2⟩
    exact reti (u := u59) hx hb hr hlocks hK hP hD hS dX4_performAtAddress_289 (by unfold fnX4_performAtAddress; (try dsimp only); rw [if_neg h1]; rw [if_neg h3]; rw [if_neg h5]; rw [if_neg h7]; rw [if_neg h9]; rw [if_neg h11]; rw [if_neg h13]; rw [if_neg h15]; rw [if_neg h17]; rw [if_neg h19]; rw [if_neg h21]; rw [if_neg h23]; rw [if_neg h25]; rw [if_neg h27]; rw [if_neg h29]; rw [if_neg h31]; rw [if_neg h33]; rw [if_neg h35]; rw [if_neg h37]; rw [if_neg h39]; rw [if_neg h43]; rw [if_neg h47]; rw [if_neg h51]; rw [if_neg h54]; rw [if_pos (rfl : (26 : Int32) = (26 : Int32))]; rw [← q58]; (try dsimp only); rw [← q59]; (try dsimp only); (try exact rfl))
  by_cases h60 : a0 = (27 : Int32)
  · refine lv_tableIn (off := 267) (tgt := 272) hx hb dX4_performAtAddress_5 (by rw [h60]; decide) (by rw [h60]; decide) (by rw [h60]; decide) (by decide) ?_
    subst h60
    refine lv_aload_n hx hb dX4_performAtAddress_272 rfl (lv_at hl 1 rfl) ?_
    refine va_get (D := D) (ci := 4) (v := .ref (ad 14)) hx hb hG inX4 hown hK hP 0 rfl rfl 4 (by decide) (hG _ kw149) (fun _ h9 => h9) rfl dX4_performAtAddress_273 ?_
    refine lv_iload_n hx hb dX4_performAtAddress_276 rfl (lv_at hl 0 rfl) ?_
    refine gq (D := D) (j := 3) (x := ad 18) hx hb hK hP 14 2 rfl rfl (inL (by decide)) (by decide) rfl dX4_performAtAddress_277 ?_
    refine lv_aload_n hx hb dX4_performAtAddress_278 rfl (lv_at hl 1 rfl) ?_
    refine va_get (D := D) (ci := 4) (v := .ref (ad 12)) hx hb hG inX4 hown hK hP 0 rfl rfl 6 (by decide) (hG _ kw124) (fun _ h9 => h9) rfl dX4_performAtAddress_279 ?_
    refine kVv (As := [.ref (ad 12)]) (rest := []) (W' := (fun u61 => (wR cI cJ cP ad (x.1, x.2.1, x.2.2.1, (x.2.2.2.1.1, x.2.2.2.1.2.1, x.2.2.2.1.2.2.1, u61), x.2.2.2.2.1, x.2.2.2.2.2.1, x.2.2.2.2.2.2.1, x.2.2.2.2.2.2.2)))) hx hb hml hown hG hl (okX2_become l D cI cJ cP (ad 18) (ad 12) H.size x.2.2.2.1.2.2.2 x.2.2.2.2.2.1 hI.2.2.2.1.2.2.2 hI.2.2.2.2.2.1) (cV 1 hG kw98 kw100 kw101 kw102 kw99 hdX2_become ⟨by decide, by decide⟩) 18 2 rfl rfl hK hP hD hS hA hN [18, 12] rfl rfl rfl (fun _ => rfl) (fun _ => rfl) rfl rfl (Nat.le_of_ble_eq_true rfl) dX4_performAtAddress_282 ⟨Nat.zero_le _, Nat.zero_le _⟩ (fun u61 q61 H locs hP hD hS => ?_)
    have j61 : ivX2_becomeP u61 := by rw [q61]; exact ivX2_become x.2.2.2.1.2.2.2 x.2.2.2.2.2.1 hI.2.2.2.1.2.2.2 hI.2.2.2.2.2.1
    refine lv_aload_n hx hb dX4_performAtAddress_285 rfl (lv_at hl 1 rfl) ?_
    refine kFi (As := []) (rest := []) hx hb hml hown hG hl (okX4_advance l D cI cJ cP ad H.size (x.1, x.2.1, x.2.2.1, (x.2.2.2.1.1, x.2.2.2.1.2.1, x.2.2.2.1.2.2.1, u61), x.2.2.2.2.1, x.2.2.2.2.2.1, x.2.2.2.2.2.2.1, x.2.2.2.2.2.2.2) ⟨hI.1, hI.2.1, hI.2.2.1, ⟨hI.2.2.2.1.1, hI.2.2.2.1.2.1, hI.2.2.2.1.2.2.1, j61⟩, hI.2.2.2.2.1, hI.2.2.2.2.2.1, hI.2.2.2.2.2.2.1, hI.2.2.2.2.2.2.2⟩) (cV 0 hG kw92 kw93 kw94 kw95 kw5 hdX4_advance ⟨by decide, by decide⟩) 0 4 rfl rfl hK hP hD hS hA hN rfl rfl (Nat.le_of_ble_eq_true rfl) dX4_performAtAddress_286 ⟨Nat.zero_le _, Nat.zero_le _⟩ (fun r62 u62 q62 H locs hP hD hS => ?_)
    have j62 : ivX4_advanceP (r62, u62) := by rw [q62]; exact ivX4_advance (x.1, x.2.1, x.2.2.1, (x.2.2.2.1.1, x.2.2.2.1.2.1, x.2.2.2.1.2.2.1, u61), x.2.2.2.2.1, x.2.2.2.2.2.1, x.2.2.2.2.2.2.1, x.2.2.2.2.2.2.2) ⟨hI.1, hI.2.1, hI.2.2.1, ⟨hI.2.2.2.1.1, hI.2.2.2.1.2.1, hI.2.2.2.1.2.2.1, j61⟩, hI.2.2.2.2.1, hI.2.2.2.2.2.1, hI.2.2.2.2.2.2.1, hI.2.2.2.2.2.2.2⟩
    exact reti (u := u62) hx hb hr hlocks hK hP hD hS dX4_performAtAddress_289 (by unfold fnX4_performAtAddress; (try dsimp only); rw [if_neg h1]; rw [if_neg h3]; rw [if_neg h5]; rw [if_neg h7]; rw [if_neg h9]; rw [if_neg h11]; rw [if_neg h13]; rw [if_neg h15]; rw [if_neg h17]; rw [if_neg h19]; rw [if_neg h21]; rw [if_neg h23]; rw [if_neg h25]; rw [if_neg h27]; rw [if_neg h29]; rw [if_neg h31]; rw [if_neg h33]; rw [if_neg h35]; rw [if_neg h37]; rw [if_neg h39]; rw [if_neg h43]; rw [if_neg h47]; rw [if_neg h51]; rw [if_neg h54]; rw [if_neg h57]; rw [if_pos (rfl : (27 : Int32) = (27 : Int32))]; rw [← q61]; (try dsimp only); rw [← q62]; (try dsimp only); (try exact rfl))
  by_cases h63 : a0 = (28 : Int32)
  · refine lv_tableIn (off := 186) (tgt := 191) hx hb dX4_performAtAddress_5 (by rw [h63]; decide) (by rw [h63]; decide) (by rw [h63]; decide) (by decide) ?_
    subst h63
    refine lv_aload_n hx hb dX4_performAtAddress_191 rfl (lv_at hl 1 rfl) ?_
    refine lv_aload_n hx hb dX4_performAtAddress_192 rfl (lv_at hl 1 rfl) ?_
    refine va_get (D := D) (ci := 4) (v := .ref (ad 14)) hx hb hG inX4 hown hK hP 0 rfl rfl 4 (by decide) (hG _ kw149) (fun _ h9 => h9) rfl dX4_performAtAddress_193 ?_
    refine lv_iload_n hx hb dX4_performAtAddress_196 rfl (lv_at hl 0 rfl) ?_
    refine gq (D := D) (j := 0) (x := ad 15) hx hb hK hP 14 2 rfl rfl (inL (by decide)) (by decide) rfl dX4_performAtAddress_197 ?_
    refine kVl (As := []) (rest := [.ref (ad 0)]) (W' := (fun _ => (wR cI cJ cP ad x))) hx hb hml hown hG hl (okX2_asWord l D cI cJ cP (ad 15) H.size x.2.2.2.1.1 hI.2.2.2.1.1) (cV 0 hG kw181 kw182 kw183 kw184 kw99 hdX2_asWord ⟨by decide, by decide⟩) 15 2 rfl rfl hK hP hD hS hA hN [15] rfl rfl rfl (fun _ => rfl) (fun _ => rfl) rfl rfl (Nat.le_of_ble_eq_true rfl) dX4_performAtAddress_198 ⟨Nat.zero_le _, Nat.zero_le _⟩ (fun r64 _ q64 H locs hP hD hS => ?_)
    have j64 : ivX2_asWordP r64 := by rw [q64]; exact ivX2_asWord x.2.2.2.1.1 hI.2.2.2.1.1
    refine kFi (As := [.long (r64)]) (rest := []) hx hb hml hown hG hl (okX4_put l D cI cJ cP ad H.size x r64 hI j64) (cV 1 hG kw164 kw165 kw166 kw167 kw5 hdX4_put ⟨by decide, by decide⟩) 0 4 rfl rfl hK hP hD hS hA hN rfl rfl (Nat.le_of_ble_eq_true rfl) dX4_performAtAddress_201 ⟨Nat.zero_le _, Nat.zero_le _⟩ (fun r65 u65 q65 H locs hP hD hS => ?_)
    have j65 : ivX4_putP (r65, u65) := by rw [q65]; exact ivX4_put x r64 hI j64
    exact reti (u := u65) hx hb hr hlocks hK hP hD hS dX4_performAtAddress_204 (by unfold fnX4_performAtAddress; (try dsimp only); rw [if_neg h1]; rw [if_neg h3]; rw [if_neg h5]; rw [if_neg h7]; rw [if_neg h9]; rw [if_neg h11]; rw [if_neg h13]; rw [if_neg h15]; rw [if_neg h17]; rw [if_neg h19]; rw [if_neg h21]; rw [if_neg h23]; rw [if_neg h25]; rw [if_neg h27]; rw [if_neg h29]; rw [if_neg h31]; rw [if_neg h33]; rw [if_neg h35]; rw [if_neg h37]; rw [if_neg h39]; rw [if_neg h43]; rw [if_neg h47]; rw [if_neg h51]; rw [if_neg h54]; rw [if_neg h57]; rw [if_neg h60]; rw [if_pos (rfl : (28 : Int32) = (28 : Int32))]; rw [← q64]; (try dsimp only); rw [← q65]; (try dsimp only); (try exact rfl))
  by_cases h66 : a0 = (29 : Int32)
  · refine lv_tableIn (off := 186) (tgt := 191) hx hb dX4_performAtAddress_5 (by rw [h66]; decide) (by rw [h66]; decide) (by rw [h66]; decide) (by decide) ?_
    subst h66
    refine lv_aload_n hx hb dX4_performAtAddress_191 rfl (lv_at hl 1 rfl) ?_
    refine lv_aload_n hx hb dX4_performAtAddress_192 rfl (lv_at hl 1 rfl) ?_
    refine va_get (D := D) (ci := 4) (v := .ref (ad 14)) hx hb hG inX4 hown hK hP 0 rfl rfl 4 (by decide) (hG _ kw149) (fun _ h9 => h9) rfl dX4_performAtAddress_193 ?_
    refine lv_iload_n hx hb dX4_performAtAddress_196 rfl (lv_at hl 0 rfl) ?_
    refine gq (D := D) (j := 1) (x := ad 16) hx hb hK hP 14 2 rfl rfl (inL (by decide)) (by decide) rfl dX4_performAtAddress_197 ?_
    refine kVl (As := []) (rest := [.ref (ad 0)]) (W' := (fun _ => (wR cI cJ cP ad x))) hx hb hml hown hG hl (okX2_asWord l D cI cJ cP (ad 16) H.size x.2.2.2.1.2.1 hI.2.2.2.1.2.1) (cV 0 hG kw181 kw182 kw183 kw184 kw99 hdX2_asWord ⟨by decide, by decide⟩) 16 2 rfl rfl hK hP hD hS hA hN [16] rfl rfl rfl (fun _ => rfl) (fun _ => rfl) rfl rfl (Nat.le_of_ble_eq_true rfl) dX4_performAtAddress_198 ⟨Nat.zero_le _, Nat.zero_le _⟩ (fun r67 _ q67 H locs hP hD hS => ?_)
    have j67 : ivX2_asWordP r67 := by rw [q67]; exact ivX2_asWord x.2.2.2.1.2.1 hI.2.2.2.1.2.1
    refine kFi (As := [.long (r67)]) (rest := []) hx hb hml hown hG hl (okX4_put l D cI cJ cP ad H.size x r67 hI j67) (cV 1 hG kw164 kw165 kw166 kw167 kw5 hdX4_put ⟨by decide, by decide⟩) 0 4 rfl rfl hK hP hD hS hA hN rfl rfl (Nat.le_of_ble_eq_true rfl) dX4_performAtAddress_201 ⟨Nat.zero_le _, Nat.zero_le _⟩ (fun r68 u68 q68 H locs hP hD hS => ?_)
    have j68 : ivX4_putP (r68, u68) := by rw [q68]; exact ivX4_put x r67 hI j67
    exact reti (u := u68) hx hb hr hlocks hK hP hD hS dX4_performAtAddress_204 (by unfold fnX4_performAtAddress; (try dsimp only); rw [if_neg h1]; rw [if_neg h3]; rw [if_neg h5]; rw [if_neg h7]; rw [if_neg h9]; rw [if_neg h11]; rw [if_neg h13]; rw [if_neg h15]; rw [if_neg h17]; rw [if_neg h19]; rw [if_neg h21]; rw [if_neg h23]; rw [if_neg h25]; rw [if_neg h27]; rw [if_neg h29]; rw [if_neg h31]; rw [if_neg h33]; rw [if_neg h35]; rw [if_neg h37]; rw [if_neg h39]; rw [if_neg h43]; rw [if_neg h47]; rw [if_neg h51]; rw [if_neg h54]; rw [if_neg h57]; rw [if_neg h60]; rw [if_neg h63]; rw [if_pos (rfl : (29 : Int32) = (29 : Int32))]; rw [← q67]; (try dsimp only); rw [← q68]; (try dsimp only); (try exact rfl))
  by_cases h69 : a0 = (30 : Int32)
  · refine lv_tableIn (off := 186) (tgt := 191) hx hb dX4_performAtAddress_5 (by rw [h69]; decide) (by rw [h69]; decide) (by rw [h69]; decide) (by decide) ?_
    subst h69
    refine lv_aload_n hx hb dX4_performAtAddress_191 rfl (lv_at hl 1 rfl) ?_
    refine lv_aload_n hx hb dX4_performAtAddress_192 rfl (lv_at hl 1 rfl) ?_
    refine va_get (D := D) (ci := 4) (v := .ref (ad 14)) hx hb hG inX4 hown hK hP 0 rfl rfl 4 (by decide) (hG _ kw149) (fun _ h9 => h9) rfl dX4_performAtAddress_193 ?_
    refine lv_iload_n hx hb dX4_performAtAddress_196 rfl (lv_at hl 0 rfl) ?_
    refine gq (D := D) (j := 2) (x := ad 17) hx hb hK hP 14 2 rfl rfl (inL (by decide)) (by decide) rfl dX4_performAtAddress_197 ?_
    refine kVl (As := []) (rest := [.ref (ad 0)]) (W' := (fun _ => (wR cI cJ cP ad x))) hx hb hml hown hG hl (okX2_asWord l D cI cJ cP (ad 17) H.size x.2.2.2.1.2.2.1 hI.2.2.2.1.2.2.1) (cV 0 hG kw181 kw182 kw183 kw184 kw99 hdX2_asWord ⟨by decide, by decide⟩) 17 2 rfl rfl hK hP hD hS hA hN [17] rfl rfl rfl (fun _ => rfl) (fun _ => rfl) rfl rfl (Nat.le_of_ble_eq_true rfl) dX4_performAtAddress_198 ⟨Nat.zero_le _, Nat.zero_le _⟩ (fun r70 _ q70 H locs hP hD hS => ?_)
    have j70 : ivX2_asWordP r70 := by rw [q70]; exact ivX2_asWord x.2.2.2.1.2.2.1 hI.2.2.2.1.2.2.1
    refine kFi (As := [.long (r70)]) (rest := []) hx hb hml hown hG hl (okX4_put l D cI cJ cP ad H.size x r70 hI j70) (cV 1 hG kw164 kw165 kw166 kw167 kw5 hdX4_put ⟨by decide, by decide⟩) 0 4 rfl rfl hK hP hD hS hA hN rfl rfl (Nat.le_of_ble_eq_true rfl) dX4_performAtAddress_201 ⟨Nat.zero_le _, Nat.zero_le _⟩ (fun r71 u71 q71 H locs hP hD hS => ?_)
    have j71 : ivX4_putP (r71, u71) := by rw [q71]; exact ivX4_put x r70 hI j70
    exact reti (u := u71) hx hb hr hlocks hK hP hD hS dX4_performAtAddress_204 (by unfold fnX4_performAtAddress; (try dsimp only); rw [if_neg h1]; rw [if_neg h3]; rw [if_neg h5]; rw [if_neg h7]; rw [if_neg h9]; rw [if_neg h11]; rw [if_neg h13]; rw [if_neg h15]; rw [if_neg h17]; rw [if_neg h19]; rw [if_neg h21]; rw [if_neg h23]; rw [if_neg h25]; rw [if_neg h27]; rw [if_neg h29]; rw [if_neg h31]; rw [if_neg h33]; rw [if_neg h35]; rw [if_neg h37]; rw [if_neg h39]; rw [if_neg h43]; rw [if_neg h47]; rw [if_neg h51]; rw [if_neg h54]; rw [if_neg h57]; rw [if_neg h60]; rw [if_neg h63]; rw [if_neg h66]; rw [if_pos (rfl : (30 : Int32) = (30 : Int32))]; rw [← q70]; (try dsimp only); rw [← q71]; (try dsimp only); (try exact rfl))
  by_cases h72 : a0 = (31 : Int32)
  · refine lv_tableIn (off := 186) (tgt := 191) hx hb dX4_performAtAddress_5 (by rw [h72]; decide) (by rw [h72]; decide) (by rw [h72]; decide) (by decide) ?_
    subst h72
    refine lv_aload_n hx hb dX4_performAtAddress_191 rfl (lv_at hl 1 rfl) ?_
    refine lv_aload_n hx hb dX4_performAtAddress_192 rfl (lv_at hl 1 rfl) ?_
    refine va_get (D := D) (ci := 4) (v := .ref (ad 14)) hx hb hG inX4 hown hK hP 0 rfl rfl 4 (by decide) (hG _ kw149) (fun _ h9 => h9) rfl dX4_performAtAddress_193 ?_
    refine lv_iload_n hx hb dX4_performAtAddress_196 rfl (lv_at hl 0 rfl) ?_
    refine gq (D := D) (j := 3) (x := ad 18) hx hb hK hP 14 2 rfl rfl (inL (by decide)) (by decide) rfl dX4_performAtAddress_197 ?_
    refine kVl (As := []) (rest := [.ref (ad 0)]) (W' := (fun _ => (wR cI cJ cP ad x))) hx hb hml hown hG hl (okX2_asWord l D cI cJ cP (ad 18) H.size x.2.2.2.1.2.2.2 hI.2.2.2.1.2.2.2) (cV 0 hG kw181 kw182 kw183 kw184 kw99 hdX2_asWord ⟨by decide, by decide⟩) 18 2 rfl rfl hK hP hD hS hA hN [18] rfl rfl rfl (fun _ => rfl) (fun _ => rfl) rfl rfl (Nat.le_of_ble_eq_true rfl) dX4_performAtAddress_198 ⟨Nat.zero_le _, Nat.zero_le _⟩ (fun r73 _ q73 H locs hP hD hS => ?_)
    have j73 : ivX2_asWordP r73 := by rw [q73]; exact ivX2_asWord x.2.2.2.1.2.2.2 hI.2.2.2.1.2.2.2
    refine kFi (As := [.long (r73)]) (rest := []) hx hb hml hown hG hl (okX4_put l D cI cJ cP ad H.size x r73 hI j73) (cV 1 hG kw164 kw165 kw166 kw167 kw5 hdX4_put ⟨by decide, by decide⟩) 0 4 rfl rfl hK hP hD hS hA hN rfl rfl (Nat.le_of_ble_eq_true rfl) dX4_performAtAddress_201 ⟨Nat.zero_le _, Nat.zero_le _⟩ (fun r74 u74 q74 H locs hP hD hS => ?_)
    have j74 : ivX4_putP (r74, u74) := by rw [q74]; exact ivX4_put x r73 hI j73
    exact reti (u := u74) hx hb hr hlocks hK hP hD hS dX4_performAtAddress_204 (by unfold fnX4_performAtAddress; (try dsimp only); rw [if_neg h1]; rw [if_neg h3]; rw [if_neg h5]; rw [if_neg h7]; rw [if_neg h9]; rw [if_neg h11]; rw [if_neg h13]; rw [if_neg h15]; rw [if_neg h17]; rw [if_neg h19]; rw [if_neg h21]; rw [if_neg h23]; rw [if_neg h25]; rw [if_neg h27]; rw [if_neg h29]; rw [if_neg h31]; rw [if_neg h33]; rw [if_neg h35]; rw [if_neg h37]; rw [if_neg h39]; rw [if_neg h43]; rw [if_neg h47]; rw [if_neg h51]; rw [if_neg h54]; rw [if_neg h57]; rw [if_neg h60]; rw [if_neg h63]; rw [if_neg h66]; rw [if_neg h69]; rw [if_pos (rfl : (31 : Int32) = (31 : Int32))]; rw [← q73]; (try dsimp only); rw [← q74]; (try dsimp only); (try exact rfl))
  by_cases h75 : a0 = (32 : Int32)
  · refine lv_tableIn (off := 285) (tgt := 290) hx hb dX4_performAtAddress_5 (by rw [h75]; decide) (by rw [h75]; decide) (by rw [h75]; decide) (by decide) ?_
    subst h75
    refine lv_aload_n hx hb dX4_performAtAddress_290 rfl (lv_at hl 1 rfl) ?_
    refine lv_aload_n hx hb dX4_performAtAddress_291 rfl (lv_at hl 1 rfl) ?_
    refine va_get (D := D) (ci := 4) (v := .ref (ad 12)) hx hb hG inX4 hown hK hP 0 rfl rfl 6 (by decide) (hG _ kw124) (fun _ h9 => h9) rfl dX4_performAtAddress_292 ?_
    refine va_get (D := D) (ci := 2) (v := .int (x.2.2.2.2.2.1.2.1)) hx hb hG inX2 hown hK hP 12 rfl rfl 1 (by decide) (hG _ kw88) (fun _ h9 => h9) rfl dX4_performAtAddress_295 ?_
    refine lv_i2l hx hb dX4_performAtAddress_298 rfl ?_
    refine pu (D := D) (ci := 4) (v := .long ((x.2.2.2.2.2.1.2.1).toInt64)) (ty := .long) (W' := (wR cI cJ cP ad (((x.2.2.2.2.2.1.2.1).toInt64, x.1.2), x.2.1, x.2.2.1, x.2.2.2.1, x.2.2.2.2.1, x.2.2.2.2.2.1, x.2.2.2.2.2.2.1, x.2.2.2.2.2.2.2))) hx hb hG inX4 tyX4 tyokX4 nmX4 hown hK hP hD hS 0 rfl rfl 1 (by decide) (hG _ kw90) (fun _ h9 => h9) rfl (by decide +kernel) rfl rfl (Nat.le_of_ble_eq_true rfl) dX4_performAtAddress_299 rfl (fun H locs hP hD hS => ?_)
    refine lv_aload_n hx hb dX4_performAtAddress_302 rfl (lv_at hl 1 rfl) ?_
    refine kFi (As := []) (rest := []) hx hb hml hown hG hl (okX4_advance l D cI cJ cP ad H.size (((x.2.2.2.2.2.1.2.1).toInt64, x.1.2), x.2.1, x.2.2.1, x.2.2.2.1, x.2.2.2.2.1, x.2.2.2.2.2.1, x.2.2.2.2.2.2.1, x.2.2.2.2.2.2.2) ⟨⟨(i2lW hI.2.2.2.2.2.1.2.1), hI.1.2⟩, hI.2.1, hI.2.2.1, hI.2.2.2.1, hI.2.2.2.2.1, hI.2.2.2.2.2.1, hI.2.2.2.2.2.2.1, hI.2.2.2.2.2.2.2⟩) (cV 0 hG kw92 kw93 kw94 kw95 kw5 hdX4_advance ⟨by decide, by decide⟩) 0 4 rfl rfl hK hP hD hS hA hN rfl rfl (Nat.le_of_ble_eq_true rfl) dX4_performAtAddress_303 ⟨Nat.zero_le _, Nat.zero_le _⟩ (fun r76 u76 q76 H locs hP hD hS => ?_)
    have j76 : ivX4_advanceP (r76, u76) := by rw [q76]; exact ivX4_advance (((x.2.2.2.2.2.1.2.1).toInt64, x.1.2), x.2.1, x.2.2.1, x.2.2.2.1, x.2.2.2.2.1, x.2.2.2.2.2.1, x.2.2.2.2.2.2.1, x.2.2.2.2.2.2.2) ⟨⟨(i2lW hI.2.2.2.2.2.1.2.1), hI.1.2⟩, hI.2.1, hI.2.2.1, hI.2.2.2.1, hI.2.2.2.2.1, hI.2.2.2.2.2.1, hI.2.2.2.2.2.2.1, hI.2.2.2.2.2.2.2⟩
    exact reti (u := u76) hx hb hr hlocks hK hP hD hS dX4_performAtAddress_306 (by unfold fnX4_performAtAddress; (try dsimp only); rw [if_neg h1]; rw [if_neg h3]; rw [if_neg h5]; rw [if_neg h7]; rw [if_neg h9]; rw [if_neg h11]; rw [if_neg h13]; rw [if_neg h15]; rw [if_neg h17]; rw [if_neg h19]; rw [if_neg h21]; rw [if_neg h23]; rw [if_neg h25]; rw [if_neg h27]; rw [if_neg h29]; rw [if_neg h31]; rw [if_neg h33]; rw [if_neg h35]; rw [if_neg h37]; rw [if_neg h39]; rw [if_neg h43]; rw [if_neg h47]; rw [if_neg h51]; rw [if_neg h54]; rw [if_neg h57]; rw [if_neg h60]; rw [if_neg h63]; rw [if_neg h66]; rw [if_neg h69]; rw [if_neg h72]; rw [if_pos (rfl : (32 : Int32) = (32 : Int32))]; rw [← q76]; (try dsimp only); (try exact rfl))
  by_cases h77 : a0 = (33 : Int32)
  · refine lv_tableIn (off := 312) (tgt := 317) hx hb dX4_performAtAddress_5 (by rw [h77]; decide) (by rw [h77]; decide) (by rw [h77]; decide) (by decide) ?_
    subst h77
    refine lv_aload_n hx hb dX4_performAtAddress_317 rfl (lv_at hl 1 rfl) ?_
    refine lv_iload_n hx hb dX4_performAtAddress_318 rfl (lv_at hl 2 rfl) ?_
    refine kFi (As := [.int ((33 : Int32))]) (rest := []) hx hb hml hown hG hl (okX4_load l D cI cJ cP ad H.size x (33 : Int32) hI) (cV 1 hG kw168 kw169 kw170 kw171 kw5 hdX4_load ⟨by decide, by decide⟩) 0 4 rfl rfl hK hP hD hS hA hN rfl rfl (Nat.le_of_ble_eq_true rfl) dX4_performAtAddress_319 ⟨Nat.zero_le _, Nat.zero_le _⟩ (fun r78 u78 q78 H locs hP hD hS => ?_)
    have j78 : ivX4_loadP (r78, u78) := by rw [q78]; exact ivX4_load x (33 : Int32) hI
    exact reti (u := u78) hx hb hr hlocks hK hP hD hS dX4_performAtAddress_322 (by unfold fnX4_performAtAddress; (try dsimp only); rw [if_neg h1]; rw [if_neg h3]; rw [if_neg h5]; rw [if_neg h7]; rw [if_neg h9]; rw [if_neg h11]; rw [if_neg h13]; rw [if_neg h15]; rw [if_neg h17]; rw [if_neg h19]; rw [if_neg h21]; rw [if_neg h23]; rw [if_neg h25]; rw [if_neg h27]; rw [if_neg h29]; rw [if_neg h31]; rw [if_neg h33]; rw [if_neg h35]; rw [if_neg h37]; rw [if_neg h39]; rw [if_neg h43]; rw [if_neg h47]; rw [if_neg h51]; rw [if_neg h54]; rw [if_neg h57]; rw [if_neg h60]; rw [if_neg h63]; rw [if_neg h66]; rw [if_neg h69]; rw [if_neg h72]; rw [if_neg h75]; rw [if_pos (rfl : (33 : Int32) = (33 : Int32))]; rw [← q78]; (try dsimp only); (try exact rfl))
  by_cases h79 : a0 = (34 : Int32)
  · refine lv_tableIn (off := 302) (tgt := 307) hx hb dX4_performAtAddress_5 (by rw [h79]; decide) (by rw [h79]; decide) (by rw [h79]; decide) (by decide) ?_
    subst h79
    refine lv_aload_n hx hb dX4_performAtAddress_307 rfl (lv_at hl 1 rfl) ?_
    refine kFi (As := []) (rest := []) hx hb hml hown hG hl (okX4_callAddress l D cI cJ cP ad H.size x hI) (cV 0 hG kw185 kw186 kw187 kw188 kw5 hdX4_callAddress ⟨by decide, by decide⟩) 0 4 rfl rfl hK hP hD hS hA hN rfl rfl (Nat.le_of_ble_eq_true rfl) dX4_performAtAddress_308 ⟨Nat.zero_le _, Nat.zero_le _⟩ (fun r80 u80 q80 H locs hP hD hS => ?_)
    have j80 : ivX4_callAddressP (r80, u80) := by rw [q80]; exact ivX4_callAddress x hI
    exact reti (u := u80) hx hb hr hlocks hK hP hD hS dX4_performAtAddress_311 (by unfold fnX4_performAtAddress; (try dsimp only); rw [if_neg h1]; rw [if_neg h3]; rw [if_neg h5]; rw [if_neg h7]; rw [if_neg h9]; rw [if_neg h11]; rw [if_neg h13]; rw [if_neg h15]; rw [if_neg h17]; rw [if_neg h19]; rw [if_neg h21]; rw [if_neg h23]; rw [if_neg h25]; rw [if_neg h27]; rw [if_neg h29]; rw [if_neg h31]; rw [if_neg h33]; rw [if_neg h35]; rw [if_neg h37]; rw [if_neg h39]; rw [if_neg h43]; rw [if_neg h47]; rw [if_neg h51]; rw [if_neg h54]; rw [if_neg h57]; rw [if_neg h60]; rw [if_neg h63]; rw [if_neg h66]; rw [if_neg h69]; rw [if_neg h72]; rw [if_neg h75]; rw [if_neg h77]; rw [if_pos (rfl : (34 : Int32) = (34 : Int32))]; rw [← q80]; (try dsimp only); (try exact rfl))
  by_cases h81 : a0 = (35 : Int32)
  · refine lv_tableIn (off := 307) (tgt := 312) hx hb dX4_performAtAddress_5 (by rw [h81]; decide) (by rw [h81]; decide) (by rw [h81]; decide) (by decide) ?_
    subst h81
    refine lv_aload_n hx hb dX4_performAtAddress_312 rfl (lv_at hl 1 rfl) ?_
    refine kFi (As := []) (rest := []) hx hb hml hown hG hl (okX4_returnByWord l D cI cJ cP ad H.size x hI) (cV 0 hG kw189 kw190 kw191 kw192 kw5 hdX4_returnByWord ⟨by decide, by decide⟩) 0 4 rfl rfl hK hP hD hS hA hN rfl rfl (Nat.le_of_ble_eq_true rfl) dX4_performAtAddress_313 ⟨Nat.zero_le _, Nat.zero_le _⟩ (fun r82 u82 q82 H locs hP hD hS => ?_)
    have j82 : ivX4_returnByWordP (r82, u82) := by rw [q82]; exact ivX4_returnByWord x hI
    exact reti (u := u82) hx hb hr hlocks hK hP hD hS dX4_performAtAddress_316 (by unfold fnX4_performAtAddress; (try dsimp only); rw [if_neg h1]; rw [if_neg h3]; rw [if_neg h5]; rw [if_neg h7]; rw [if_neg h9]; rw [if_neg h11]; rw [if_neg h13]; rw [if_neg h15]; rw [if_neg h17]; rw [if_neg h19]; rw [if_neg h21]; rw [if_neg h23]; rw [if_neg h25]; rw [if_neg h27]; rw [if_neg h29]; rw [if_neg h31]; rw [if_neg h33]; rw [if_neg h35]; rw [if_neg h37]; rw [if_neg h39]; rw [if_neg h43]; rw [if_neg h47]; rw [if_neg h51]; rw [if_neg h54]; rw [if_neg h57]; rw [if_neg h60]; rw [if_neg h63]; rw [if_neg h66]; rw [if_neg h69]; rw [if_neg h72]; rw [if_neg h75]; rw [if_neg h77]; rw [if_neg h79]; rw [if_pos (rfl : (35 : Int32) = (35 : Int32))]; rw [← q82]; (try dsimp only); (try exact rfl))
  refine lv_tableOut (tgt := 317) hx hb dX4_performAtAddress_5 (by have a0 := neI (n := 2) h1 (by decide); have a1 := neI (n := 3) h3 (by decide); have a2 := neI (n := 4) h5 (by decide); have a3 := neI (n := 5) h7 (by decide); have a4 := neI (n := 6) h9 (by decide); have a5 := neI (n := 7) h11 (by decide); have a6 := neI (n := 8) h13 (by decide); have a7 := neI (n := 9) h15 (by decide); have a8 := neI (n := 10) h17 (by decide); have a9 := neI (n := 11) h19 (by decide); have a10 := neI (n := 12) h21 (by decide); have a11 := neI (n := 13) h23 (by decide); have a12 := neI (n := 14) h25 (by decide); have a13 := neI (n := 15) h27 (by decide); have a14 := neI (n := 16) h29 (by decide); have a15 := neI (n := 17) h31 (by decide); have a16 := neI (n := 18) h33 (by decide); have a17 := neI (n := 19) h35 (by decide); have a18 := neI (n := 20) h37 (by decide); have a19 := neI (n := 21) h39 (by decide); have a20 := neI (n := 22) h43 (by decide); have a21 := neI (n := 23) h47 (by decide); have a22 := neI (n := 24) h51 (by decide); have a23 := neI (n := 25) h54 (by decide); have a24 := neI (n := 26) h57 (by decide); have a25 := neI (n := 27) h60 (by decide); have a26 := neI (n := 28) h63 (by decide); have a27 := neI (n := 29) h66 (by decide); have a28 := neI (n := 30) h69 (by decide); have a29 := neI (n := 31) h72 (by decide); have a30 := neI (n := 32) h75 (by decide); have a31 := neI (n := 33) h77 (by decide); have a32 := neI (n := 34) h79 (by decide); have a33 := neI (n := 35) h81 (by decide); omega) (by decide) ?_
  refine lv_aload_n hx hb dX4_performAtAddress_317 rfl (lv_at hl 1 rfl) ?_
  refine lv_iload_n hx hb dX4_performAtAddress_318 rfl (lv_at hl 2 rfl) ?_
  refine kFi (As := [.int (a0)]) (rest := []) hx hb hml hown hG hl (okX4_load l D cI cJ cP ad H.size x a0 hI) (cV 1 hG kw168 kw169 kw170 kw171 kw5 hdX4_load ⟨by decide, by decide⟩) 0 4 rfl rfl hK hP hD hS hA hN rfl rfl (Nat.le_of_ble_eq_true rfl) dX4_performAtAddress_319 ⟨Nat.zero_le _, Nat.zero_le _⟩ (fun r83 u83 q83 H locs hP hD hS => ?_)
  have j83 : ivX4_loadP (r83, u83) := by rw [q83]; exact ivX4_load x a0 hI
  exact reti (u := u83) hx hb hr hlocks hK hP hD hS dX4_performAtAddress_322 (by unfold fnX4_performAtAddress; (try dsimp only); rw [if_neg h1]; rw [if_neg h3]; rw [if_neg h5]; rw [if_neg h7]; rw [if_neg h9]; rw [if_neg h11]; rw [if_neg h13]; rw [if_neg h15]; rw [if_neg h17]; rw [if_neg h19]; rw [if_neg h21]; rw [if_neg h23]; rw [if_neg h25]; rw [if_neg h27]; rw [if_neg h29]; rw [if_neg h31]; rw [if_neg h33]; rw [if_neg h35]; rw [if_neg h37]; rw [if_neg h39]; rw [if_neg h43]; rw [if_neg h47]; rw [if_neg h51]; rw [if_neg h54]; rw [if_neg h57]; rw [if_neg h60]; rw [if_neg h63]; rw [if_neg h66]; rw [if_neg h69]; rw [if_neg h72]; rw [if_neg h75]; rw [if_neg h77]; rw [if_neg h79]; rw [if_neg h81]; rw [← q83]; (try dsimp only); (try exact rfl))
end
section
theorem dX4_followChain_0 : decode cX4_followChain 0 = .ok (.iconst 0, 1) := by decide +kernel
theorem dX4_followChain_1 : decode cX4_followChain 1 = .ok (.istore_n 1, 1) := by decide +kernel
theorem dX4_followChain_2 : decode cX4_followChain 2 = .ok (.iload_n 1, 1) := by decide +kernel
theorem dX4_followChain_3 : decode cX4_followChain 3 = .ok (.iconst 5, 1) := by decide +kernel
theorem dX4_followChain_4 : decode cX4_followChain 4 = .ok (.if_icmp .ge 83, 3) := by decide +kernel
theorem dX4_followChain_7 : decode cX4_followChain 7 = .ok (.aload_n 0, 1) := by decide +kernel
theorem dX4_followChain_8 : decode cX4_followChain 8 = .ok (.getfield 10, 3) := by decide +kernel
theorem dX4_followChain_11 : decode cX4_followChain 11 = .ok (.aload_n 0, 1) := by decide +kernel
theorem dX4_followChain_12 : decode cX4_followChain 12 = .ok (.getfield 31, 3) := by decide +kernel
theorem dX4_followChain_15 : decode cX4_followChain 15 = .ok (.iconst 0, 1) := by decide +kernel
theorem dX4_followChain_16 : decode cX4_followChain 16 = .ok (.invokevirtual 132, 3) := by decide +kernel
theorem dX4_followChain_19 : decode cX4_followChain 19 = .ok (.lstore_n 2, 1) := by decide +kernel
theorem dX4_followChain_20 : decode cX4_followChain 20 = .ok (.lload_n 2, 1) := by decide +kernel
theorem dX4_followChain_21 : decode cX4_followChain 21 = .ok (.lconst 0, 1) := by decide +kernel
theorem dX4_followChain_22 : decode cX4_followChain 22 = .ok (.lcmp, 1) := by decide +kernel
theorem dX4_followChain_23 : decode cX4_followChain 23 = .ok (.ifCond .ge 8, 3) := by decide +kernel
theorem dX4_followChain_26 : decode cX4_followChain 26 = .ok (.lload_n 2, 1) := by decide +kernel
theorem dX4_followChain_27 : decode cX4_followChain 27 = .ok (.invokestatic 136, 3) := by decide +kernel
theorem dX4_followChain_30 : decode cX4_followChain 30 = .ok (.ireturn, 1) := by decide +kernel
theorem dX4_followChain_31 : decode cX4_followChain 31 = .ok (.aload_n 0, 1) := by decide +kernel
theorem dX4_followChain_32 : decode cX4_followChain 32 = .ok (.getfield 31, 3) := by decide +kernel
theorem dX4_followChain_35 : decode cX4_followChain 35 = .ok (.aload_n 0, 1) := by decide +kernel
theorem dX4_followChain_36 : decode cX4_followChain 36 = .ok (.getfield 31, 3) := by decide +kernel
theorem dX4_followChain_39 : decode cX4_followChain 39 = .ok (.getfield 129, 3) := by decide +kernel
theorem dX4_followChain_42 : decode cX4_followChain 42 = .ok (.aload_n 0, 1) := by decide +kernel
theorem dX4_followChain_43 : decode cX4_followChain 43 = .ok (.getfield 10, 3) := by decide +kernel
theorem dX4_followChain_46 : decode cX4_followChain 46 = .ok (.getfield 165, 3) := by decide +kernel
theorem dX4_followChain_49 : decode cX4_followChain 49 = .ok (.getfield 169, 3) := by decide +kernel
theorem dX4_followChain_52 : decode cX4_followChain 52 = .ok (.invokestatic 160, 3) := by decide +kernel
theorem dX4_followChain_55 : decode cX4_followChain 55 = .ok (.putfield 129, 3) := by decide +kernel
theorem dX4_followChain_58 : decode cX4_followChain 58 = .ok (.aload_n 0, 1) := by decide +kernel
theorem dX4_followChain_59 : decode cX4_followChain 59 = .ok (.lload_n 2, 1) := by decide +kernel
theorem dX4_followChain_60 : decode cX4_followChain 60 = .ok (.invokevirtual 174, 3) := by decide +kernel
theorem dX4_followChain_63 : decode cX4_followChain 63 = .ok (.ifCond .ne 6, 3) := by decide +kernel
theorem dX4_followChain_66 : decode cX4_followChain 66 = .ok (.bipush 6, 2) := by decide +kernel
theorem dX4_followChain_68 : decode cX4_followChain 68 = .ok (.ireturn, 1) := by decide +kernel
theorem dX4_followChain_69 : decode cX4_followChain 69 = .ok (.lload_n 2, 1) := by decide +kernel
theorem dX4_followChain_70 : decode cX4_followChain 70 = .ok (.ldc2_w 178, 3) := by decide +kernel
theorem dX4_followChain_73 : decode cX4_followChain 73 = .ok (.land, 1) := by decide +kernel
theorem dX4_followChain_74 : decode cX4_followChain 74 = .ok (.lconst 0, 1) := by decide +kernel
theorem dX4_followChain_75 : decode cX4_followChain 75 = .ok (.lcmp, 1) := by decide +kernel
theorem dX4_followChain_76 : decode cX4_followChain 76 = .ok (.ifCond .ne 5, 3) := by decide +kernel
theorem dX4_followChain_79 : decode cX4_followChain 79 = .ok (.iconst 0, 1) := by decide +kernel
theorem dX4_followChain_80 : decode cX4_followChain 80 = .ok (.ireturn, 1) := by decide +kernel
theorem dX4_followChain_81 : decode cX4_followChain 81 = .ok (.iinc 1 1, 3) := by decide +kernel
theorem dX4_followChain_84 : decode cX4_followChain 84 = .ok (.goto (-82), 3) := by decide +kernel
theorem dX4_followChain_87 : decode cX4_followChain 87 = .ok (.bipush 6, 2) := by decide +kernel
theorem dX4_followChain_89 : decode cX4_followChain 89 = .ok (.ireturn, 1) := by decide +kernel
theorem dX4_perform_0 : decode cX4_perform 0 = .ok (.aload_n 0, 1) := by decide +kernel
theorem dX4_perform_1 : decode cX4_perform 1 = .ok (.getfield 31, 3) := by decide +kernel
theorem dX4_perform_4 : decode cX4_perform 4 = .ok (.aload_n 0, 1) := by decide +kernel
theorem dX4_perform_5 : decode cX4_perform 5 = .ok (.getfield 27, 3) := by decide +kernel
theorem dX4_perform_8 : decode cX4_perform 8 = .ok (.invokevirtual 125, 3) := by decide +kernel
theorem dX4_perform_11 : decode cX4_perform 11 = .ok (.aload_n 0, 1) := by decide +kernel
theorem dX4_perform_12 : decode cX4_perform 12 = .ok (.getfield 10, 3) := by decide +kernel
theorem dX4_perform_15 : decode cX4_perform 15 = .ok (.aload_n 0, 1) := by decide +kernel
theorem dX4_perform_16 : decode cX4_perform 16 = .ok (.getfield 31, 3) := by decide +kernel
theorem dX4_perform_19 : decode cX4_perform 19 = .ok (.iconst 2, 1) := by decide +kernel
theorem dX4_perform_20 : decode cX4_perform 20 = .ok (.invokevirtual 132, 3) := by decide +kernel
theorem dX4_perform_23 : decode cX4_perform 23 = .ok (.lstore_n 1, 1) := by decide +kernel
theorem dX4_perform_24 : decode cX4_perform 24 = .ok (.lload_n 1, 1) := by decide +kernel
theorem dX4_perform_25 : decode cX4_perform 25 = .ok (.lconst 0, 1) := by decide +kernel
theorem dX4_perform_26 : decode cX4_perform 26 = .ok (.lcmp, 1) := by decide +kernel
theorem dX4_perform_27 : decode cX4_perform 27 = .ok (.ifCond .ge 8, 3) := by decide +kernel
theorem dX4_perform_30 : decode cX4_perform 30 = .ok (.lload_n 1, 1) := by decide +kernel
theorem dX4_perform_31 : decode cX4_perform 31 = .ok (.invokestatic 136, 3) := by decide +kernel
theorem dX4_perform_34 : decode cX4_perform 34 = .ok (.ireturn, 1) := by decide +kernel
theorem dX4_perform_35 : decode cX4_perform 35 = .ok (.lload_n 1, 1) := by decide +kernel
theorem dX4_perform_36 : decode cX4_perform 36 = .ok (.bipush 30, 2) := by decide +kernel
theorem dX4_perform_38 : decode cX4_perform 38 = .ok (.bipush 6, 2) := by decide +kernel
theorem dX4_perform_40 : decode cX4_perform 40 = .ok (.invokestatic 53, 3) := by decide +kernel
theorem dX4_perform_43 : decode cX4_perform 43 = .ok (.istore_n 3, 1) := by decide +kernel
theorem dX4_perform_44 : decode cX4_perform 44 = .ok (.iload_n 3, 1) := by decide +kernel
theorem dX4_perform_45 : decode cX4_perform 45 = .ok (.ifCond .eq 15, 3) := by decide +kernel
theorem dX4_perform_48 : decode cX4_perform 48 = .ok (.iload_n 3, 1) := by decide +kernel
theorem dX4_perform_49 : decode cX4_perform 49 = .ok (.bipush 33, 2) := by decide +kernel
theorem dX4_perform_51 : decode cX4_perform 51 = .ok (.if_icmp .eq 9, 3) := by decide +kernel
theorem dX4_perform_54 : decode cX4_perform 54 = .ok (.iload_n 3, 1) := by decide +kernel
theorem dX4_perform_55 : decode cX4_perform 55 = .ok (.bipush 35, 2) := by decide +kernel
theorem dX4_perform_57 : decode cX4_perform 57 = .ok (.if_icmp .le 9, 3) := by decide +kernel
theorem dX4_perform_60 : decode cX4_perform 60 = .ok (.aload_n 0, 1) := by decide +kernel
theorem dX4_perform_61 : decode cX4_perform 61 = .ok (.iload_n 3, 1) := by decide +kernel
theorem dX4_perform_62 : decode cX4_perform 62 = .ok (.invokevirtual 140, 3) := by decide +kernel
theorem dX4_perform_65 : decode cX4_perform 65 = .ok (.ireturn, 1) := by decide +kernel
theorem dX4_perform_66 : decode cX4_perform 66 = .ok (.aload_n 0, 1) := by decide +kernel
theorem dX4_perform_67 : decode cX4_perform 67 = .ok (.lload_n 1, 1) := by decide +kernel
theorem dX4_perform_68 : decode cX4_perform 68 = .ok (.invokevirtual 143, 3) := by decide +kernel
theorem dX4_perform_71 : decode cX4_perform 71 = .ok (.lload_n 1, 1) := by decide +kernel
theorem dX4_perform_72 : decode cX4_perform 72 = .ok (.ldc2_w 146, 3) := by decide +kernel
theorem dX4_perform_75 : decode cX4_perform 75 = .ok (.land, 1) := by decide +kernel
theorem dX4_perform_76 : decode cX4_perform 76 = .ok (.lconst 0, 1) := by decide +kernel
theorem dX4_perform_77 : decode cX4_perform 77 = .ok (.lcmp, 1) := by decide +kernel
theorem dX4_perform_78 : decode cX4_perform 78 = .ok (.ifCond .eq 17, 3) := by decide +kernel
theorem dX4_perform_81 : decode cX4_perform 81 = .ok (.aload_n 0, 1) := by decide +kernel
theorem dX4_perform_82 : decode cX4_perform 82 = .ok (.invokevirtual 148, 3) := by decide +kernel
theorem dX4_perform_85 : decode cX4_perform 85 = .ok (.istore 4, 2) := by decide +kernel
theorem dX4_perform_87 : decode cX4_perform 87 = .ok (.iload 4, 2) := by decide +kernel
theorem dX4_perform_89 : decode cX4_perform 89 = .ok (.ifCond .eq 6, 3) := by decide +kernel
theorem dX4_perform_92 : decode cX4_perform 92 = .ok (.iload 4, 2) := by decide +kernel
theorem dX4_perform_94 : decode cX4_perform 94 = .ok (.ireturn, 1) := by decide +kernel
theorem dX4_perform_95 : decode cX4_perform 95 = .ok (.aload_n 0, 1) := by decide +kernel
theorem dX4_perform_96 : decode cX4_perform 96 = .ok (.iload_n 3, 1) := by decide +kernel
theorem dX4_perform_97 : decode cX4_perform 97 = .ok (.invokevirtual 151, 3) := by decide +kernel
theorem dX4_perform_100 : decode cX4_perform 100 = .ok (.ireturn, 1) := by decide +kernel
theorem kw193 : Cond.fieldLink RX4 165 RX3 "descriptor" "LRingProcessor$Descriptor;" ∈ gG := inG 145 (by decide +kernel) (by decide +kernel)
theorem kw194 : Cond.fieldLink RX4 169 RX1 "r1" "I" ∈ gG := inG 107 (by decide +kernel) (by decide +kernel)
theorem kw195 : Cond.code yX4_followWord cX4_followWord 4 (some .boolean) ∈ gG := inG 476 (by decide +kernel) (by decide +kernel)
theorem kw196 : Cond.methodLink RX4 174 yX4_followWord ∈ gG := inG 473 (by decide +kernel) (by decide +kernel)
theorem kw197 : Cond.instanceMethod yX4_followWord ∈ gG := inG 475 (by decide +kernel) (by decide +kernel)
theorem kw198 : Cond.selects RX4 yX4_followWord yX4_followWord ∈ gG := inG 11 (by decide +kernel) (by decide +kernel)
theorem kw199 : Cond.constantLong RX4 178 1048576 ∈ gG := inG 477 (by decide +kernel) (by decide +kernel)
theorem kw200 : Cond.code yX4_performWithoutAddress cX4_performWithoutAddress 2 (some .int) ∈ gG := inG 438 (by decide +kernel) (by decide +kernel)
theorem kw201 : Cond.methodLink RX4 140 yX4_performWithoutAddress ∈ gG := inG 435 (by decide +kernel) (by decide +kernel)
theorem kw202 : Cond.instanceMethod yX4_performWithoutAddress ∈ gG := inG 437 (by decide +kernel) (by decide +kernel)
theorem kw203 : Cond.selects RX4 yX4_performWithoutAddress yX4_performWithoutAddress ∈ gG := inG 4 (by decide +kernel) (by decide +kernel)
theorem kw204 : Cond.code yX4_startAddress cX4_startAddress 5 none ∈ gG := inG 463 (by decide +kernel) (by decide +kernel)
theorem kw205 : Cond.methodLink RX4 143 yX4_startAddress ∈ gG := inG 460 (by decide +kernel) (by decide +kernel)
theorem kw206 : Cond.instanceMethod yX4_startAddress ∈ gG := inG 462 (by decide +kernel) (by decide +kernel)
theorem kw207 : Cond.selects RX4 yX4_startAddress yX4_startAddress ∈ gG := inG 9 (by decide +kernel) (by decide +kernel)
theorem kw208 : Cond.constantLong RX4 146 67108864 ∈ gG := inG 468 (by decide +kernel) (by decide +kernel)
theorem kw209 : Cond.code yX4_performAtAddress cX4_performAtAddress 3 (some .int) ∈ gG := inG 481 (by decide +kernel) (by decide +kernel)
theorem kw210 : Cond.methodLink RX4 151 yX4_performAtAddress ∈ gG := inG 478 (by decide +kernel) (by decide +kernel)
theorem kw211 : Cond.instanceMethod yX4_performAtAddress ∈ gG := inG 480 (by decide +kernel) (by decide +kernel)
theorem kw212 : Cond.selects RX4 yX4_performAtAddress yX4_performAtAddress ∈ gG := inG 12 (by decide +kernel) (by decide +kernel)
theorem kw213 : Cond.code yX4_followChain cX4_followChain 4 (some .int) ∈ gG := inG 472 (by decide +kernel) (by decide +kernel)
theorem kw214 : Cond.methodLink RX4 148 yX4_followChain ∈ gG := inG 469 (by decide +kernel) (by decide +kernel)
theorem kw215 : Cond.instanceMethod yX4_followChain ∈ gG := inG 471 (by decide +kernel) (by decide +kernel)
theorem kw216 : Cond.selects RX4 yX4_followChain yX4_followChain ∈ gG := inG 10 (by decide +kernel) (by decide +kernel)
theorem hdX4_followWord : yX4_followWord.cls ≠ "java/lang/invoke/MethodHandle" ∧ yX4_followWord.cls ≠ "java/lang/invoke/VarHandle" ∧ (parseMethodDescriptor yX4_followWord.desc).map (fun d => d.parameters.length) = some 1 := by decide +kernel
theorem hdX4_performWithoutAddress : yX4_performWithoutAddress.cls ≠ "java/lang/invoke/MethodHandle" ∧ yX4_performWithoutAddress.cls ≠ "java/lang/invoke/VarHandle" ∧ (parseMethodDescriptor yX4_performWithoutAddress.desc).map (fun d => d.parameters.length) = some 1 := by decide +kernel
theorem hdX4_startAddress : yX4_startAddress.cls ≠ "java/lang/invoke/MethodHandle" ∧ yX4_startAddress.cls ≠ "java/lang/invoke/VarHandle" ∧ (parseMethodDescriptor yX4_startAddress.desc).map (fun d => d.parameters.length) = some 1 := by decide +kernel
theorem hdX4_performAtAddress : yX4_performAtAddress.cls ≠ "java/lang/invoke/MethodHandle" ∧ yX4_performAtAddress.cls ≠ "java/lang/invoke/VarHandle" ∧ (parseMethodDescriptor yX4_performAtAddress.desc).map (fun d => d.parameters.length) = some 1 := by decide +kernel
theorem hdX4_followChain : yX4_followChain.cls ≠ "java/lang/invoke/MethodHandle" ∧ yX4_followChain.cls ≠ "java/lang/invoke/VarHandle" ∧ (parseMethodDescriptor yX4_followChain.desc).map (fun d => d.parameters.length) = some 0 := by decide +kernel
end
section
abbrev ivX4_followChainP (z : Int32 × TR) : Prop := i4 z.1 ∧ iR z.2
def lpX4_followChain  : Nat → Int32 → TR → Int32 × TR
  | 0, k, u0 => ((6 : Int32), u0)
  | n + 1, k, u0 =>
    if (5 : Int32) ≤ k then
     ((6 : Int32), u0)
    else
     let p2 := fnX3_read u0.2.2.2.2.2.2.2 u0.2.2.2.2.2.1 (0 : Int32)
     if (0 : Int64) ≤ p2.1 then
      let p4 := fnX4_followWord (u0.1, u0.2.1, u0.2.2.1, u0.2.2.2.1, u0.2.2.2.2.1, (u0.2.2.2.2.2.1.1, u0.2.2.2.2.2.1.2.1, (if u0.2.2.2.2.2.1.2.2 < p2.2.2.2.2.2.2.2.2.1 then p2.2.2.2.2.2.2.2.2.1 else u0.2.2.2.2.2.1.2.2)), u0.2.2.2.2.2.2.1, p2.2) p2.1
      if p4.1 = (0 : Int32) then
       ((6 : Int32), p4.2)
      else
       if (p2.1 &&& (1048576 : Int64)) = (0 : Int64) then
        ((0 : Int32), p4.2)
       else
        lpX4_followChain  n (k + (1 : Int32)) p4.2
     else
      let p7 := fnX4_faultOf p2.1
      (p7, (u0.1, u0.2.1, u0.2.2.1, u0.2.2.2.1, u0.2.2.2.2.1, u0.2.2.2.2.2.1, u0.2.2.2.2.2.2.1, p2.2))
theorem lpX4_followChain_s  (n : Nat) (k : Int32) (u0 : TR) : lpX4_followChain  (n + 1) k u0 =
    (if (5 : Int32) ≤ k then
     ((6 : Int32), u0)
    else
     let p2 := fnX3_read u0.2.2.2.2.2.2.2 u0.2.2.2.2.2.1 (0 : Int32)
     if (0 : Int64) ≤ p2.1 then
      let p4 := fnX4_followWord (u0.1, u0.2.1, u0.2.2.1, u0.2.2.2.1, u0.2.2.2.2.1, (u0.2.2.2.2.2.1.1, u0.2.2.2.2.2.1.2.1, (if u0.2.2.2.2.2.1.2.2 < p2.2.2.2.2.2.2.2.2.1 then p2.2.2.2.2.2.2.2.2.1 else u0.2.2.2.2.2.1.2.2)), u0.2.2.2.2.2.2.1, p2.2) p2.1
      if p4.1 = (0 : Int32) then
       ((6 : Int32), p4.2)
      else
       if (p2.1 &&& (1048576 : Int64)) = (0 : Int64) then
        ((0 : Int32), p4.2)
       else
        lpX4_followChain  n (k + (1 : Int32)) p4.2
     else
      let p7 := fnX4_faultOf p2.1
      (p7, (u0.1, u0.2.1, u0.2.2.1, u0.2.2.2.1, u0.2.2.2.2.1, u0.2.2.2.2.2.1, u0.2.2.2.2.2.2.1, p2.2))) := rfl
set_option maxRecDepth 100000 in
set_option maxHeartbeats 4000000 in
theorem ivlpX4_followChain   : ∀ (n : Nat) (k : Int32) (u0 : TR), iR u0 → ivX4_followChainP (lpX4_followChain  n k u0) := by
  intro n
  induction n with
  | zero => intro k u0 hI; exact ⟨(show i4 (6 : Int32) from by decide), hI⟩
  | succ n ih =>
    intro k u0 hI
    rw [lpX4_followChain_s]
    try dsimp only
    refine iteI (fun h1 => ?_) (fun h1 => ?_)
    · exact ⟨(show i4 (6 : Int32) from by decide), hI⟩
    · have j2 : ivX3_readP (fnX3_read u0.2.2.2.2.2.2.2 u0.2.2.2.2.2.1 (0 : Int32)) := ivX3_read u0.2.2.2.2.2.2.2 u0.2.2.2.2.2.1 (0 : Int32) hI.2.2.2.2.2.2.2 hI.2.2.2.2.2.1
      generalize fnX3_read u0.2.2.2.2.2.2.2 u0.2.2.2.2.2.1 (0 : Int32) = p2 at j2 ⊢
      refine iteI (fun h3 => ?_) (fun h3 => ?_)
      · have j4 : ivX4_followWordP (fnX4_followWord (u0.1, u0.2.1, u0.2.2.1, u0.2.2.2.1, u0.2.2.2.2.1, (u0.2.2.2.2.2.1.1, u0.2.2.2.2.2.1.2.1, (if u0.2.2.2.2.2.1.2.2 < p2.2.2.2.2.2.2.2.2.1 then p2.2.2.2.2.2.2.2.2.1 else u0.2.2.2.2.2.1.2.2)), u0.2.2.2.2.2.2.1, p2.2) p2.1) := ivX4_followWord (u0.1, u0.2.1, u0.2.2.1, u0.2.2.2.1, u0.2.2.2.2.1, (u0.2.2.2.2.2.1.1, u0.2.2.2.2.2.1.2.1, (if u0.2.2.2.2.2.1.2.2 < p2.2.2.2.2.2.2.2.2.1 then p2.2.2.2.2.2.2.2.2.1 else u0.2.2.2.2.2.1.2.2)), u0.2.2.2.2.2.2.1, p2.2) p2.1 ⟨hI.1, hI.2.1, hI.2.2.1, hI.2.2.2.1, hI.2.2.2.2.1, ⟨hI.2.2.2.2.2.1.1, hI.2.2.2.2.2.1.2.1, (mx3 hI.2.2.2.2.2.1.2.2 j2.2.2.2.2.1)⟩, hI.2.2.2.2.2.2.1, j2.2⟩
        generalize fnX4_followWord (u0.1, u0.2.1, u0.2.2.1, u0.2.2.2.1, u0.2.2.2.2.1, (u0.2.2.2.2.2.1.1, u0.2.2.2.2.2.1.2.1, (if u0.2.2.2.2.2.1.2.2 < p2.2.2.2.2.2.2.2.2.1 then p2.2.2.2.2.2.2.2.2.1 else u0.2.2.2.2.2.1.2.2)), u0.2.2.2.2.2.2.1, p2.2) p2.1 = p4 at j4 ⊢
        refine iteI (fun h5 => ?_) (fun h5 => ?_)
        · exact ⟨(show i4 (6 : Int32) from by decide), j4⟩
        · refine iteI (fun h6 => ?_) (fun h6 => ?_)
          · exact ⟨(show i4 (0 : Int32) from by decide), j4⟩
          · exact ih (k + (1 : Int32)) p4.2 j4
      · have j7 : i4 (fnX4_faultOf p2.1) := (fltI j2.1 (Int64.not_le.mp h3))
        generalize fnX4_faultOf p2.1 = p7 at j7 ⊢
        exact ⟨j7, ⟨hI.1, hI.2.1, hI.2.2.1, hI.2.2.2.1, hI.2.2.2.2.1, hI.2.2.2.2.2.1, hI.2.2.2.2.2.2.1, j2.2⟩⟩
def fnX4_followChain (x : TR)  : Int32 × TR :=
  lpX4_followChain  6 (0 : Int32) x
set_option maxRecDepth 100000 in
set_option maxHeartbeats 4000000 in
theorem ivX4_followChain (x : TR)  (hI : iR x) : ivX4_followChainP (fnX4_followChain x) := by
  unfold fnX4_followChain
  try dsimp only
  exact ivlpX4_followChain   6 (0 : Int32) x hI
set_option maxRecDepth 100000 in
set_option maxHeartbeats 4000000 in
theorem okX4_followChain (l : Launch) (D : va_G) (cI cJ cP : ClassId) (ad : Nat → Nat) (sz : Nat) (x : TR)  (hI : iR x) : Met l yX4_followChain (Cond.code yX4_followChain cX4_followChain 4 (some .int) :: gG) { frames := 4, cells := 0, slots := 0, locals := 105 } (va_Pc [.ref (ad 0)] (PRE D (tz cI cJ cP) sz (wR cI cJ cP ad x))) (va_Qi (fun (r : Int32) (u : TR) => (r, u) = fnX4_followChain x) (AT D (tz cI cJ cP) (va_A (wR cI cJ cP ad x) sz) (fun (u : TR) => (wR cI cJ cP ad u))) (va_A (wR cI cJ cP ad x) sz)) 0 0 (va_A (wR cI cJ cP ad x) sz) := by
  refine mo (QA := fun A => va_Qi (fun (r : Int32) (u : TR) => (r, u) = fnX4_followChain x) (AT D (tz cI cJ cP) A (fun (u : TR) => (wR cI cJ cP ad u))) A) (by decide) (Nat.le_of_ble_eq_true rfl) ?_
  intro p e s m below meth c A ls H hx hb hr hml hown hG hlocks hnm hA hS hP hK hD hl hN
  have hown : s.vm.findClass RX4 = some m.cls := hown
  have hl : lv_has ls 4 [(0, .ref (ad 0))] := hl
  refine lv_iconst (v := 0) hx hb dX4_followChain_0 (by decide) ?_
  refine lv_istore_n (lv' := [(1, .int ((0 : Int32))), (0, .ref (ad 0))]) hx hb dX4_followChain_1 rfl hl (by decide) rfl (fun ls hl => ?_)
  have loop2 : ∀ (n : Nat) (k : Int32) (u0 : TR) (H : Heap) (locs : List Loc) (ls : Array Slot), ((5 : Int32).toInt - k.toInt).toNat < n → iR u0 → 0 ≤ k.toInt → va_P D vwCl (wR cI cJ cP ad u0) H → va_D A (wR cI cJ cP ad u0) → va_S A s.heap H locs → lv_has ls 4 [(1, .int (k)), (0, .ref (ad 0))] → fnX4_followChain x = lpX4_followChain  n k u0 → W p l e { frames := 4, cells := 0, slots := 0, locals := 105 } s m ([.ref (ad 0)]).toArray below meth c H locs 0 0 (MQ below (va_Qi (fun (r : Int32) (u : TR) => (r, u) = fnX4_followChain x) (AT D (tz cI cJ cP) A (fun (u : TR) => (wR cI cJ cP ad u))) A) ([.ref (ad 0)]).toArray s 0 0 A) (F0 m 2 ls []) := by
    intro n
    induction n with
    | zero => intro k u0 H locs ls hn; exact absurd hn (Nat.not_lt_zero _)
    | succ n ih =>
      intro k u0 H locs ls hn hI hk hP hD hS hl hE
      refine lv_iload_n hx hb dX4_followChain_2 rfl (lv_at hl 0 rfl) ?_
      refine lv_iconst (v := 5) hx hb dX4_followChain_3 (by decide) ?_
      refine lv_icmp_ge (tgt := 87) hx hb dX4_followChain_4 (by decide) (fun h1 => ?_) (fun h1 => ?_)
      · refine lv_bipush (v := 6) hx hb dX4_followChain_87 (by decide) ?_
        exact reti (u := u0) hx hb hr hlocks hK hP hD hS dX4_followChain_89 (by rw [hE, lpX4_followChain_s]; (try dsimp only); rw [if_pos h1]; (try exact rfl))
      · refine lv_aload_n hx hb dX4_followChain_7 rfl (lv_at hl 1 rfl) ?_
        refine va_get (D := D) (ci := 4) (v := .ref (ad 1)) hx hb hG inX4 hown hK hP 0 rfl rfl 0 (by decide) (hG _ kw104) (fun _ h9 => h9) rfl dX4_followChain_8 ?_
        refine lv_aload_n hx hb dX4_followChain_11 rfl (lv_at hl 1 rfl) ?_
        refine va_get (D := D) (ci := 4) (v := .ref (ad 12)) hx hb hG inX4 hown hK hP 0 rfl rfl 6 (by decide) (hG _ kw124) (fun _ h9 => h9) rfl dX4_followChain_12 ?_
        refine lv_iconst (v := 0) hx hb dX4_followChain_15 (by decide) ?_
        refine kVl (As := [.ref (ad 12), .int ((0 : Int32))]) (rest := []) (W' := (fun u2 => (wR cI cJ cP ad (u0.1, u0.2.1, u0.2.2.1, u0.2.2.2.1, u0.2.2.2.2.1, u0.2.2.2.2.2.1, u0.2.2.2.2.2.2.1, u2)))) hx hb hml hown hG hl (okX3_read l D cI cJ cP (fun i => ad (i + 1)) H.size u0.2.2.2.2.2.2.2 u0.2.2.2.2.2.1 (0 : Int32) hI.2.2.2.2.2.2.2 hI.2.2.2.2.2.1) (cV 2 hG kw125 kw126 kw127 kw128 kw60 hdX3_read ⟨by decide, by decide⟩) 1 3 rfl rfl hK hP hD hS hA hN [1, 2, 3, 4, 5, 6, 7, 8, 9, 10, 11, 12] rfl rfl rfl (fun _ => rfl) (fun _ => rfl) rfl rfl (Nat.le_of_ble_eq_true rfl) dX4_followChain_16 ⟨Nat.zero_le _, Nat.zero_le _⟩ (fun r2 u2 q2 H locs hP hD hS => ?_)
        have j2 : ivX3_readP (r2, u2) := by rw [q2]; exact ivX3_read u0.2.2.2.2.2.2.2 u0.2.2.2.2.2.1 (0 : Int32) hI.2.2.2.2.2.2.2 hI.2.2.2.2.2.1
        refine lv_lstore_n (lv' := [(2, .long (r2)), (1, .int (k)), (0, .ref (ad 0))]) hx hb dX4_followChain_19 rfl hl (by decide) rfl (fun ls hl => ?_)
        refine lv_lload_n hx hb dX4_followChain_20 rfl (lv_at hl 0 rfl) ?_
        refine lv_lconst (v := 0) hx hb dX4_followChain_21 (by decide) ?_
        refine lq_ge (tgt := 31) hx hb dX4_followChain_22 dX4_followChain_23 (by decide) (fun h3 => ?_) (fun h3 => ?_)
        · refine lv_aload_n hx hb dX4_followChain_31 rfl (lv_at hl 2 rfl) ?_
          refine va_get (D := D) (ci := 4) (v := .ref (ad 12)) hx hb hG inX4 hown hK hP 0 rfl rfl 6 (by decide) (hG _ kw124) (fun _ h9 => h9) rfl dX4_followChain_32 ?_
          refine lv_aload_n hx hb dX4_followChain_35 rfl (lv_at hl 2 rfl) ?_
          refine va_get (D := D) (ci := 4) (v := .ref (ad 12)) hx hb hG inX4 hown hK hP 0 rfl rfl 6 (by decide) (hG _ kw124) (fun _ h9 => h9) rfl dX4_followChain_36 ?_
          refine va_get (D := D) (ci := 2) (v := .int (u0.2.2.2.2.2.1.2.2)) hx hb hG inX2 hown hK hP 12 rfl rfl 2 (by decide) (hG _ kw119) (fun _ h9 => h9) rfl dX4_followChain_39 ?_
          refine lv_aload_n hx hb dX4_followChain_42 rfl (lv_at hl 2 rfl) ?_
          refine va_get (D := D) (ci := 4) (v := .ref (ad 1)) hx hb hG inX4 hown hK hP 0 rfl rfl 0 (by decide) (hG _ kw104) (fun _ h9 => h9) rfl dX4_followChain_43 ?_
          refine va_get (D := D) (ci := 3) (v := .ref (ad 11)) hx hb hG inX3 hown hK hP 1 rfl rfl 3 (by decide) (hG _ kw193) (fun _ h9 => h9) rfl dX4_followChain_46 ?_
          refine va_get (D := D) (ci := 1) (v := .int (u2.2.2.2.2.2.2.2.1)) hx hb hG inX1 hown hK hP 11 rfl rfl 4 (by decide) (hG _ kw194) (fun _ h9 => h9) rfl dX4_followChain_49 ?_
          refine va_mmax hx hb (hml.trans hl.1.symm) hown (hG _ kw150) (hG _ kw151) (hG _ kw152) (hG _ kw153) (by decide) (Nat.le_of_ble_eq_true rfl) (Nat.zero_le _) (Nat.zero_le _) dX4_followChain_52 ?_
          refine pu (D := D) (ci := 2) (v := .int ((if u0.2.2.2.2.2.1.2.2 < u2.2.2.2.2.2.2.2.1 then u2.2.2.2.2.2.2.2.1 else u0.2.2.2.2.2.1.2.2))) (ty := .int) (W' := (wR cI cJ cP ad (u0.1, u0.2.1, u0.2.2.1, u0.2.2.2.1, u0.2.2.2.2.1, (u0.2.2.2.2.2.1.1, u0.2.2.2.2.2.1.2.1, (if u0.2.2.2.2.2.1.2.2 < u2.2.2.2.2.2.2.2.1 then u2.2.2.2.2.2.2.2.1 else u0.2.2.2.2.2.1.2.2)), u0.2.2.2.2.2.2.1, u2))) hx hb hG inX2 tyX2 tyokX2 nmX2 hown hK hP hD hS 12 rfl rfl 2 (by decide) (hG _ kw119) (fun _ h9 => h9) rfl (by decide +kernel) rfl rfl (Nat.le_of_ble_eq_true rfl) dX4_followChain_55 rfl (fun H locs hP hD hS => ?_)
          refine lv_aload_n hx hb dX4_followChain_58 rfl (lv_at hl 2 rfl) ?_
          refine lv_lload_n hx hb dX4_followChain_59 rfl (lv_at hl 0 rfl) ?_
          refine kFi (As := [.long (r2)]) (rest := []) hx hb hml hown hG hl (okX4_followWord l D cI cJ cP ad H.size (u0.1, u0.2.1, u0.2.2.1, u0.2.2.2.1, u0.2.2.2.2.1, (u0.2.2.2.2.2.1.1, u0.2.2.2.2.2.1.2.1, (if u0.2.2.2.2.2.1.2.2 < u2.2.2.2.2.2.2.2.1 then u2.2.2.2.2.2.2.2.1 else u0.2.2.2.2.2.1.2.2)), u0.2.2.2.2.2.2.1, u2) r2 ⟨hI.1, hI.2.1, hI.2.2.1, hI.2.2.2.1, hI.2.2.2.2.1, ⟨hI.2.2.2.2.2.1.1, hI.2.2.2.2.2.1.2.1, (mx3 hI.2.2.2.2.2.1.2.2 j2.2.2.2.2.1)⟩, hI.2.2.2.2.2.2.1, j2.2⟩) (cV 1 hG kw195 kw196 kw197 kw198 kw5 hdX4_followWord ⟨by decide, by decide⟩) 0 4 rfl rfl hK hP hD hS hA hN rfl rfl (Nat.le_of_ble_eq_true rfl) dX4_followChain_60 ⟨Nat.zero_le _, Nat.zero_le _⟩ (fun r4 u4 q4 H locs hP hD hS => ?_)
          have j4 : ivX4_followWordP (r4, u4) := by rw [q4]; exact ivX4_followWord (u0.1, u0.2.1, u0.2.2.1, u0.2.2.2.1, u0.2.2.2.2.1, (u0.2.2.2.2.2.1.1, u0.2.2.2.2.2.1.2.1, (if u0.2.2.2.2.2.1.2.2 < u2.2.2.2.2.2.2.2.1 then u2.2.2.2.2.2.2.2.1 else u0.2.2.2.2.2.1.2.2)), u0.2.2.2.2.2.2.1, u2) r2 ⟨hI.1, hI.2.1, hI.2.2.1, hI.2.2.2.1, hI.2.2.2.2.1, ⟨hI.2.2.2.2.2.1.1, hI.2.2.2.2.2.1.2.1, (mx3 hI.2.2.2.2.2.1.2.2 j2.2.2.2.2.1)⟩, hI.2.2.2.2.2.2.1, j2.2⟩
          refine lv_if_ne (tgt := 69) hx hb dX4_followChain_63 (by decide) (fun h5 => ?_) (fun h5 => ?_)
          · refine lv_lload_n hx hb dX4_followChain_69 rfl (lv_at hl 0 rfl) ?_
            refine lv_ldc2 (v := 1048576) hx hb hown (hG _ kw199) dX4_followChain_70 ?_
            refine lv_land hx hb dX4_followChain_73 ?_
            refine lv_lconst (v := 0) hx hb dX4_followChain_74 (by decide) ?_
            refine lq_ne (tgt := 81) hx hb dX4_followChain_75 dX4_followChain_76 (by decide) (fun h6 => ?_) (fun h6 => ?_)
            · refine lv_iinc (k := 1) (v := (k + (1 : Int32))) (lv' := [(1, .int ((k + (1 : Int32)))), (2, .long (r2)), (0, .ref (ad 0))]) hx hb dX4_followChain_81 hl rfl (by rfl) (by decide) rfl (fun ls hl => ?_)
              refine lv_goto (tgt := 2) hx hb dX4_followChain_84 (by decide) ?_
              exact ih (k + (1 : Int32)) u4 _ _ _ (lpM (Int32.not_le.mp h1) hn) j4 (lpK (Int32.not_le.mp h1) hk) hP hD hS (lv_sub hl [0, 2] rfl) (by rw [hE, lpX4_followChain_s]; (try dsimp only); rw [if_neg h1]; rw [← q2]; (try dsimp only); rw [if_pos h3]; rw [← q4]; (try dsimp only); rw [if_neg h5]; rw [if_neg h6]; (try exact rfl))
            · refine lv_iconst (v := 0) hx hb dX4_followChain_79 (by decide) ?_
              exact reti (u := u4) hx hb hr hlocks hK hP hD hS dX4_followChain_80 (by rw [hE, lpX4_followChain_s]; (try dsimp only); rw [if_neg h1]; rw [← q2]; (try dsimp only); rw [if_pos h3]; rw [← q4]; (try dsimp only); rw [if_neg h5]; rw [if_pos h6]; (try exact rfl))
          · refine lv_bipush (v := 6) hx hb dX4_followChain_66 (by decide) ?_
            exact reti (u := u4) hx hb hr hlocks hK hP hD hS dX4_followChain_68 (by rw [hE, lpX4_followChain_s]; (try dsimp only); rw [if_neg h1]; rw [← q2]; (try dsimp only); rw [if_pos h3]; rw [← q4]; (try dsimp only); rw [if_pos h5]; (try exact rfl))
        · refine lv_lload_n hx hb dX4_followChain_26 rfl (lv_at hl 0 rfl) ?_
          refine k0Si (As := [.long (r2)]) (rest := []) hx hb hml hown hG hl (okX4_faultOf l D cI cJ cP  H.size r2 ) (cS 1 hG kw85 kw136 kw86 kw5 hdX4_faultOf ⟨by decide, by decide⟩) hK hP hD hS hA hN rfl rfl (Nat.le_of_ble_eq_true rfl) dX4_followChain_27 ⟨Nat.zero_le _, Nat.zero_le _⟩ (fun r7 q7 H locs hP hD hS => ?_)
          have j7 : i4 r7 := by rw [q7]; exact (fltI j2.1 (Int64.not_le.mp h3))
          exact reti (u := (u0.1, u0.2.1, u0.2.2.1, u0.2.2.2.1, u0.2.2.2.2.1, u0.2.2.2.2.2.1, u0.2.2.2.2.2.2.1, u2)) hx hb hr hlocks hK hP hD hS dX4_followChain_30 (by rw [hE, lpX4_followChain_s]; (try dsimp only); rw [if_neg h1]; rw [← q2]; (try dsimp only); rw [if_neg h3]; rw [← q7]; (try dsimp only); (try exact rfl))
  exact loop2 6 (0 : Int32) x _ _ _ (by decide) hI (by decide) hP hD hS (lv_sub hl [0, 1] rfl) (by unfold fnX4_followChain; (try dsimp only); (try exact rfl))
def fnX4_perform (x : TR)  : Int32 × TR :=
  let p1 := fnX2_become x.2.2.2.2.2.1 x.2.2.2.2.1
  let p2 := fnX3_read x.2.2.2.2.2.2.2 p1 (2 : Int32)
  if (0 : Int64) ≤ p2.1 then
   let p4 := fnX4_field p2.1 (30 : Int32) (6 : Int32)
   if p4 = (0 : Int32) then
    let p6 := fnX4_performWithoutAddress (x.1, x.2.1, x.2.2.1, x.2.2.2.1, x.2.2.2.2.1, p1, x.2.2.2.2.2.2.1, p2.2) p4
    (p6.1, p6.2)
   else
    if p4 = (33 : Int32) then
     let p8 := fnX4_performWithoutAddress (x.1, x.2.1, x.2.2.1, x.2.2.2.1, x.2.2.2.2.1, p1, x.2.2.2.2.2.2.1, p2.2) p4
     (p8.1, p8.2)
    else
     if p4 ≤ (35 : Int32) then
      let p10 := fnX4_startAddress (x.1, x.2.1, x.2.2.1, x.2.2.2.1, x.2.2.2.2.1, p1, x.2.2.2.2.2.2.1, p2.2) p2.1
      if (p2.1 &&& (67108864 : Int64)) = (0 : Int64) then
       let p12 := fnX4_performAtAddress p10 p4
       (p12.1, p12.2)
      else
       let p13 := fnX4_followChain p10
       if p13.1 = (0 : Int32) then
        let p15 := fnX4_performAtAddress p13.2 p4
        (p15.1, p15.2)
       else
        (p13.1, p13.2)
     else
      let p16 := fnX4_performWithoutAddress (x.1, x.2.1, x.2.2.1, x.2.2.2.1, x.2.2.2.2.1, p1, x.2.2.2.2.2.2.1, p2.2) p4
      (p16.1, p16.2)
  else
   let p17 := fnX4_faultOf p2.1
   (p17, (x.1, x.2.1, x.2.2.1, x.2.2.2.1, x.2.2.2.2.1, p1, x.2.2.2.2.2.2.1, p2.2))
abbrev ivX4_performP (z : Int32 × TR) : Prop := i4 z.1 ∧ iR z.2
set_option maxRecDepth 100000 in
set_option maxHeartbeats 4000000 in
theorem ivX4_perform (x : TR)  (hI : iR x) : ivX4_performP (fnX4_perform x) := by
  unfold fnX4_perform
  try dsimp only
  have j1 : ivX2_becomeP (fnX2_become x.2.2.2.2.2.1 x.2.2.2.2.1) := ivX2_become x.2.2.2.2.2.1 x.2.2.2.2.1 hI.2.2.2.2.2.1 hI.2.2.2.2.1
  generalize fnX2_become x.2.2.2.2.2.1 x.2.2.2.2.1 = p1 at j1 ⊢
  have j2 : ivX3_readP (fnX3_read x.2.2.2.2.2.2.2 p1 (2 : Int32)) := ivX3_read x.2.2.2.2.2.2.2 p1 (2 : Int32) hI.2.2.2.2.2.2.2 j1
  generalize fnX3_read x.2.2.2.2.2.2.2 p1 (2 : Int32) = p2 at j2 ⊢
  refine iteI (fun h3 => ?_) (fun h3 => ?_)
  · generalize fnX4_field p2.1 (30 : Int32) (6 : Int32) = p4
    refine iteI (fun h5 => ?_) (fun h5 => ?_)
    · have j6 : ivX4_performWithoutAddressP (fnX4_performWithoutAddress (x.1, x.2.1, x.2.2.1, x.2.2.2.1, x.2.2.2.2.1, p1, x.2.2.2.2.2.2.1, p2.2) p4) := ivX4_performWithoutAddress (x.1, x.2.1, x.2.2.1, x.2.2.2.1, x.2.2.2.2.1, p1, x.2.2.2.2.2.2.1, p2.2) p4 ⟨hI.1, hI.2.1, hI.2.2.1, hI.2.2.2.1, hI.2.2.2.2.1, j1, hI.2.2.2.2.2.2.1, j2.2⟩
      generalize fnX4_performWithoutAddress (x.1, x.2.1, x.2.2.1, x.2.2.2.1, x.2.2.2.2.1, p1, x.2.2.2.2.2.2.1, p2.2) p4 = p6 at j6 ⊢
      exact ⟨j6.1, j6.2⟩
    · refine iteI (fun h7 => ?_) (fun h7 => ?_)
      · have j8 : ivX4_performWithoutAddressP (fnX4_performWithoutAddress (x.1, x.2.1, x.2.2.1, x.2.2.2.1, x.2.2.2.2.1, p1, x.2.2.2.2.2.2.1, p2.2) p4) := ivX4_performWithoutAddress (x.1, x.2.1, x.2.2.1, x.2.2.2.1, x.2.2.2.2.1, p1, x.2.2.2.2.2.2.1, p2.2) p4 ⟨hI.1, hI.2.1, hI.2.2.1, hI.2.2.2.1, hI.2.2.2.2.1, j1, hI.2.2.2.2.2.2.1, j2.2⟩
        generalize fnX4_performWithoutAddress (x.1, x.2.1, x.2.2.1, x.2.2.2.1, x.2.2.2.2.1, p1, x.2.2.2.2.2.2.1, p2.2) p4 = p8 at j8 ⊢
        exact ⟨j8.1, j8.2⟩
      · refine iteI (fun h9 => ?_) (fun h9 => ?_)
        · have j10 : ivX4_startAddressP (fnX4_startAddress (x.1, x.2.1, x.2.2.1, x.2.2.2.1, x.2.2.2.2.1, p1, x.2.2.2.2.2.2.1, p2.2) p2.1) := ivX4_startAddress (x.1, x.2.1, x.2.2.1, x.2.2.2.1, x.2.2.2.2.1, p1, x.2.2.2.2.2.2.1, p2.2) p2.1 ⟨hI.1, hI.2.1, hI.2.2.1, hI.2.2.2.1, hI.2.2.2.2.1, j1, hI.2.2.2.2.2.2.1, j2.2⟩
          generalize fnX4_startAddress (x.1, x.2.1, x.2.2.1, x.2.2.2.1, x.2.2.2.2.1, p1, x.2.2.2.2.2.2.1, p2.2) p2.1 = p10 at j10 ⊢
          refine iteI (fun h11 => ?_) (fun h11 => ?_)
          · have j12 : ivX4_performAtAddressP (fnX4_performAtAddress p10 p4) := ivX4_performAtAddress p10 p4 j10
            generalize fnX4_performAtAddress p10 p4 = p12 at j12 ⊢
            exact ⟨j12.1, j12.2⟩
          · have j13 : ivX4_followChainP (fnX4_followChain p10) := ivX4_followChain p10 j10
            generalize fnX4_followChain p10 = p13 at j13 ⊢
            refine iteI (fun h14 => ?_) (fun h14 => ?_)
            · have j15 : ivX4_performAtAddressP (fnX4_performAtAddress p13.2 p4) := ivX4_performAtAddress p13.2 p4 j13.2
              generalize fnX4_performAtAddress p13.2 p4 = p15 at j15 ⊢
              exact ⟨j15.1, j15.2⟩
            · exact ⟨j13.1, j13.2⟩
        · have j16 : ivX4_performWithoutAddressP (fnX4_performWithoutAddress (x.1, x.2.1, x.2.2.1, x.2.2.2.1, x.2.2.2.2.1, p1, x.2.2.2.2.2.2.1, p2.2) p4) := ivX4_performWithoutAddress (x.1, x.2.1, x.2.2.1, x.2.2.2.1, x.2.2.2.2.1, p1, x.2.2.2.2.2.2.1, p2.2) p4 ⟨hI.1, hI.2.1, hI.2.2.1, hI.2.2.2.1, hI.2.2.2.2.1, j1, hI.2.2.2.2.2.2.1, j2.2⟩
          generalize fnX4_performWithoutAddress (x.1, x.2.1, x.2.2.1, x.2.2.2.1, x.2.2.2.2.1, p1, x.2.2.2.2.2.2.1, p2.2) p4 = p16 at j16 ⊢
          exact ⟨j16.1, j16.2⟩
  · have j17 : i4 (fnX4_faultOf p2.1) := (fltI j2.1 (Int64.not_le.mp h3))
    generalize fnX4_faultOf p2.1 = p17 at j17 ⊢
    exact ⟨j17, ⟨hI.1, hI.2.1, hI.2.2.1, hI.2.2.2.1, hI.2.2.2.2.1, j1, hI.2.2.2.2.2.2.1, j2.2⟩⟩
set_option maxRecDepth 100000 in
set_option maxHeartbeats 4000000 in
theorem okX4_perform (l : Launch) (D : va_G) (cI cJ cP : ClassId) (ad : Nat → Nat) (sz : Nat) (x : TR)  (hI : iR x) : Met l yX4_perform (Cond.code yX4_perform cX4_perform 5 (some .int) :: gG) { frames := 6, cells := 0, slots := 0, locals := 151 } (va_Pc [.ref (ad 0)] (PRE D (tz cI cJ cP) sz (wR cI cJ cP ad x))) (va_Qi (fun (r : Int32) (u : TR) => (r, u) = fnX4_perform x) (AT D (tz cI cJ cP) (va_A (wR cI cJ cP ad x) sz) (fun (u : TR) => (wR cI cJ cP ad u))) (va_A (wR cI cJ cP ad x) sz)) 0 0 (va_A (wR cI cJ cP ad x) sz) := by
  refine mo (QA := fun A => va_Qi (fun (r : Int32) (u : TR) => (r, u) = fnX4_perform x) (AT D (tz cI cJ cP) A (fun (u : TR) => (wR cI cJ cP ad u))) A) (by decide) (Nat.le_of_ble_eq_true rfl) ?_
  intro p e s m below meth c A ls H hx hb hr hml hown hG hlocks hnm hA hS hP hK hD hl hN
  have hown : s.vm.findClass RX4 = some m.cls := hown
  have hl : lv_has ls 5 [(0, .ref (ad 0))] := hl
  refine lv_aload_n hx hb dX4_perform_0 rfl (lv_at hl 0 rfl) ?_
  refine va_get (D := D) (ci := 4) (v := .ref (ad 12)) hx hb hG inX4 hown hK hP 0 rfl rfl 6 (by decide) (hG _ kw124) (fun _ h9 => h9) rfl dX4_perform_1 ?_
  refine lv_aload_n hx hb dX4_perform_4 rfl (lv_at hl 0 rfl) ?_
  refine va_get (D := D) (ci := 4) (v := .ref (ad 19)) hx hb hG inX4 hown hK hP 0 rfl rfl 5 (by decide) (hG _ kw87) (fun _ h9 => h9) rfl dX4_perform_5 ?_
  refine kVv (As := [.ref (ad 19)]) (rest := []) (W' := (fun u1 => (wR cI cJ cP ad (x.1, x.2.1, x.2.2.1, x.2.2.2.1, x.2.2.2.2.1, u1, x.2.2.2.2.2.2.1, x.2.2.2.2.2.2.2)))) hx hb hml hown hG hl (okX2_become l D cI cJ cP (ad 12) (ad 19) H.size x.2.2.2.2.2.1 x.2.2.2.2.1 hI.2.2.2.2.2.1 hI.2.2.2.2.1) (cV 1 hG kw98 kw100 kw101 kw102 kw99 hdX2_become ⟨by decide, by decide⟩) 12 2 rfl rfl hK hP hD hS hA hN [12, 19] rfl rfl rfl (fun _ => rfl) (fun _ => rfl) rfl rfl (Nat.le_of_ble_eq_true rfl) dX4_perform_8 ⟨Nat.zero_le _, Nat.zero_le _⟩ (fun u1 q1 H locs hP hD hS => ?_)
  have j1 : ivX2_becomeP u1 := by rw [q1]; exact ivX2_become x.2.2.2.2.2.1 x.2.2.2.2.1 hI.2.2.2.2.2.1 hI.2.2.2.2.1
  refine lv_aload_n hx hb dX4_perform_11 rfl (lv_at hl 0 rfl) ?_
  refine va_get (D := D) (ci := 4) (v := .ref (ad 1)) hx hb hG inX4 hown hK hP 0 rfl rfl 0 (by decide) (hG _ kw104) (fun _ h9 => h9) rfl dX4_perform_12 ?_
  refine lv_aload_n hx hb dX4_perform_15 rfl (lv_at hl 0 rfl) ?_
  refine va_get (D := D) (ci := 4) (v := .ref (ad 12)) hx hb hG inX4 hown hK hP 0 rfl rfl 6 (by decide) (hG _ kw124) (fun _ h9 => h9) rfl dX4_perform_16 ?_
  refine lv_iconst (v := 2) hx hb dX4_perform_19 (by decide) ?_
  refine kVl (As := [.ref (ad 12), .int ((2 : Int32))]) (rest := []) (W' := (fun u2 => (wR cI cJ cP ad (x.1, x.2.1, x.2.2.1, x.2.2.2.1, x.2.2.2.2.1, u1, x.2.2.2.2.2.2.1, u2)))) hx hb hml hown hG hl (okX3_read l D cI cJ cP (fun i => ad (i + 1)) H.size x.2.2.2.2.2.2.2 u1 (2 : Int32) hI.2.2.2.2.2.2.2 j1) (cV 2 hG kw125 kw126 kw127 kw128 kw60 hdX3_read ⟨by decide, by decide⟩) 1 3 rfl rfl hK hP hD hS hA hN [1, 2, 3, 4, 5, 6, 7, 8, 9, 10, 11, 12] rfl rfl rfl (fun _ => rfl) (fun _ => rfl) rfl rfl (Nat.le_of_ble_eq_true rfl) dX4_perform_20 ⟨Nat.zero_le _, Nat.zero_le _⟩ (fun r2 u2 q2 H locs hP hD hS => ?_)
  have j2 : ivX3_readP (r2, u2) := by rw [q2]; exact ivX3_read x.2.2.2.2.2.2.2 u1 (2 : Int32) hI.2.2.2.2.2.2.2 j1
  refine lv_lstore_n (lv' := [(1, .long (r2)), (0, .ref (ad 0))]) hx hb dX4_perform_23 rfl hl (by decide) rfl (fun ls hl => ?_)
  refine lv_lload_n hx hb dX4_perform_24 rfl (lv_at hl 0 rfl) ?_
  refine lv_lconst (v := 0) hx hb dX4_perform_25 (by decide) ?_
  refine lq_ge (tgt := 35) hx hb dX4_perform_26 dX4_perform_27 (by decide) (fun h3 => ?_) (fun h3 => ?_)
  · refine lv_lload_n hx hb dX4_perform_35 rfl (lv_at hl 0 rfl) ?_
    refine lv_bipush (v := 30) hx hb dX4_perform_36 (by decide) ?_
    refine lv_bipush (v := 6) hx hb dX4_perform_38 (by decide) ?_
    refine k0Si (As := [.long (r2), .int ((30 : Int32)), .int ((6 : Int32))]) (rest := []) hx hb hml hown hG hl (okX4_field l D cI cJ cP  H.size r2 (30 : Int32) (6 : Int32) ) (cS 3 hG kw4 kw135 kw6 kw5 hdX4_field ⟨by decide, by decide⟩) hK hP hD hS hA hN rfl rfl (Nat.le_of_ble_eq_true rfl) dX4_perform_40 ⟨Nat.zero_le _, Nat.zero_le _⟩ (fun r4 q4 H locs hP hD hS => ?_)
    refine lv_istore_n (lv' := [(3, .int (r4)), (1, .long (r2)), (0, .ref (ad 0))]) hx hb dX4_perform_43 rfl hl (by decide) rfl (fun ls hl => ?_)
    refine lv_iload_n hx hb dX4_perform_44 rfl (lv_at hl 0 rfl) ?_
    refine lv_if_eq (tgt := 60) hx hb dX4_perform_45 (by decide) (fun h5 => ?_) (fun h5 => ?_)
    · refine lv_aload_n hx hb dX4_perform_60 rfl (lv_at hl 2 rfl) ?_
      refine lv_iload_n hx hb dX4_perform_61 rfl (lv_at hl 0 rfl) ?_
      refine kFi (As := [.int (r4)]) (rest := []) hx hb hml hown hG hl (okX4_performWithoutAddress l D cI cJ cP ad H.size (x.1, x.2.1, x.2.2.1, x.2.2.2.1, x.2.2.2.2.1, u1, x.2.2.2.2.2.2.1, u2) r4 ⟨hI.1, hI.2.1, hI.2.2.1, hI.2.2.2.1, hI.2.2.2.2.1, j1, hI.2.2.2.2.2.2.1, j2.2⟩) (cV 1 hG kw200 kw201 kw202 kw203 kw5 hdX4_performWithoutAddress ⟨by decide, by decide⟩) 0 4 rfl rfl hK hP hD hS hA hN rfl rfl (Nat.le_of_ble_eq_true rfl) dX4_perform_62 ⟨Nat.zero_le _, Nat.zero_le _⟩ (fun r6 u6 q6 H locs hP hD hS => ?_)
      have j6 : ivX4_performWithoutAddressP (r6, u6) := by rw [q6]; exact ivX4_performWithoutAddress (x.1, x.2.1, x.2.2.1, x.2.2.2.1, x.2.2.2.2.1, u1, x.2.2.2.2.2.2.1, u2) r4 ⟨hI.1, hI.2.1, hI.2.2.1, hI.2.2.2.1, hI.2.2.2.2.1, j1, hI.2.2.2.2.2.2.1, j2.2⟩
      exact reti (u := u6) hx hb hr hlocks hK hP hD hS dX4_perform_65 (by unfold fnX4_perform; rw [← q1]; (try dsimp only); rw [← q2]; (try dsimp only); rw [if_pos h3]; rw [← q4]; (try dsimp only); rw [if_pos h5]; rw [← q6]; (try dsimp only); (try exact rfl))
    · refine lv_iload_n hx hb dX4_perform_48 rfl (lv_at hl 0 rfl) ?_
      refine lv_bipush (v := 33) hx hb dX4_perform_49 (by decide) ?_
      refine lv_icmp_eq (tgt := 60) hx hb dX4_perform_51 (by decide) (fun h7 => ?_) (fun h7 => ?_)
      · refine lv_aload_n hx hb dX4_perform_60 rfl (lv_at hl 2 rfl) ?_
        refine lv_iload_n hx hb dX4_perform_61 rfl (lv_at hl 0 rfl) ?_
        refine kFi (As := [.int (r4)]) (rest := []) hx hb hml hown hG hl (okX4_performWithoutAddress l D cI cJ cP ad H.size (x.1, x.2.1, x.2.2.1, x.2.2.2.1, x.2.2.2.2.1, u1, x.2.2.2.2.2.2.1, u2) r4 ⟨hI.1, hI.2.1, hI.2.2.1, hI.2.2.2.1, hI.2.2.2.2.1, j1, hI.2.2.2.2.2.2.1, j2.2⟩) (cV 1 hG kw200 kw201 kw202 kw203 kw5 hdX4_performWithoutAddress ⟨by decide, by decide⟩) 0 4 rfl rfl hK hP hD hS hA hN rfl rfl (Nat.le_of_ble_eq_true rfl) dX4_perform_62 ⟨Nat.zero_le _, Nat.zero_le _⟩ (fun r8 u8 q8 H locs hP hD hS => ?_)
        have j8 : ivX4_performWithoutAddressP (r8, u8) := by rw [q8]; exact ivX4_performWithoutAddress (x.1, x.2.1, x.2.2.1, x.2.2.2.1, x.2.2.2.2.1, u1, x.2.2.2.2.2.2.1, u2) r4 ⟨hI.1, hI.2.1, hI.2.2.1, hI.2.2.2.1, hI.2.2.2.2.1, j1, hI.2.2.2.2.2.2.1, j2.2⟩
        exact reti (u := u8) hx hb hr hlocks hK hP hD hS dX4_perform_65 (by unfold fnX4_perform; rw [← q1]; (try dsimp only); rw [← q2]; (try dsimp only); rw [if_pos h3]; rw [← q4]; (try dsimp only); rw [if_neg h5]; rw [if_pos h7]; rw [← q8]; (try dsimp only); (try exact rfl))
      · refine lv_iload_n hx hb dX4_perform_54 rfl (lv_at hl 0 rfl) ?_
        refine lv_bipush (v := 35) hx hb dX4_perform_55 (by decide) ?_
        refine lv_icmp_le (tgt := 66) hx hb dX4_perform_57 (by decide) (fun h9 => ?_) (fun h9 => ?_)
        · refine lv_aload_n hx hb dX4_perform_66 rfl (lv_at hl 2 rfl) ?_
          refine lv_lload_n hx hb dX4_perform_67 rfl (lv_at hl 1 rfl) ?_
          refine kFv (As := [.long (r2)]) (rest := []) hx hb hml hown hG hl (okX4_startAddress l D cI cJ cP ad H.size (x.1, x.2.1, x.2.2.1, x.2.2.2.1, x.2.2.2.2.1, u1, x.2.2.2.2.2.2.1, u2) r2 ⟨hI.1, hI.2.1, hI.2.2.1, hI.2.2.2.1, hI.2.2.2.2.1, j1, hI.2.2.2.2.2.2.1, j2.2⟩) (cV 1 hG kw204 kw205 kw206 kw207 kw5 hdX4_startAddress ⟨by decide, by decide⟩) 0 4 rfl rfl hK hP hD hS hA hN rfl rfl (Nat.le_of_ble_eq_true rfl) dX4_perform_68 ⟨Nat.zero_le _, Nat.zero_le _⟩ (fun u10 q10 H locs hP hD hS => ?_)
          have j10 : ivX4_startAddressP u10 := by rw [q10]; exact ivX4_startAddress (x.1, x.2.1, x.2.2.1, x.2.2.2.1, x.2.2.2.2.1, u1, x.2.2.2.2.2.2.1, u2) r2 ⟨hI.1, hI.2.1, hI.2.2.1, hI.2.2.2.1, hI.2.2.2.2.1, j1, hI.2.2.2.2.2.2.1, j2.2⟩
          refine lv_lload_n hx hb dX4_perform_71 rfl (lv_at hl 1 rfl) ?_
          refine lv_ldc2 (v := 67108864) hx hb hown (hG _ kw208) dX4_perform_72 ?_
          refine lv_land hx hb dX4_perform_75 ?_
          refine lv_lconst (v := 0) hx hb dX4_perform_76 (by decide) ?_
          refine lq_eq (tgt := 95) hx hb dX4_perform_77 dX4_perform_78 (by decide) (fun h11 => ?_) (fun h11 => ?_)
          · refine lv_aload_n hx hb dX4_perform_95 rfl (lv_at hl 2 rfl) ?_
            refine lv_iload_n hx hb dX4_perform_96 rfl (lv_at hl 0 rfl) ?_
            refine kFi (As := [.int (r4)]) (rest := []) hx hb hml hown hG hl (okX4_performAtAddress l D cI cJ cP ad H.size u10 r4 j10) (cV 1 hG kw209 kw210 kw211 kw212 kw5 hdX4_performAtAddress ⟨by decide, by decide⟩) 0 4 rfl rfl hK hP hD hS hA hN rfl rfl (Nat.le_of_ble_eq_true rfl) dX4_perform_97 ⟨Nat.zero_le _, Nat.zero_le _⟩ (fun r12 u12 q12 H locs hP hD hS => ?_)
            have j12 : ivX4_performAtAddressP (r12, u12) := by rw [q12]; exact ivX4_performAtAddress u10 r4 j10
            exact reti (u := u12) hx hb hr hlocks hK hP hD hS dX4_perform_100 (by unfold fnX4_perform; rw [← q1]; (try dsimp only); rw [← q2]; (try dsimp only); rw [if_pos h3]; rw [← q4]; (try dsimp only); rw [if_neg h5]; rw [if_neg h7]; rw [if_pos h9]; rw [← q10]; (try dsimp only); rw [if_pos h11]; rw [← q12]; (try dsimp only); (try exact rfl))
          · refine lv_aload_n hx hb dX4_perform_81 rfl (lv_at hl 2 rfl) ?_
            refine kFi (As := []) (rest := []) hx hb hml hown hG hl (okX4_followChain l D cI cJ cP ad H.size u10 j10) (cV 0 hG kw213 kw214 kw215 kw216 kw5 hdX4_followChain ⟨by decide, by decide⟩) 0 4 rfl rfl hK hP hD hS hA hN rfl rfl (Nat.le_of_ble_eq_true rfl) dX4_perform_82 ⟨Nat.zero_le _, Nat.zero_le _⟩ (fun r13 u13 q13 H locs hP hD hS => ?_)
            have j13 : ivX4_followChainP (r13, u13) := by rw [q13]; exact ivX4_followChain u10 j10
            refine lv_istore (lv' := [(4, .int (r13)), (3, .int (r4)), (1, .long (r2)), (0, .ref (ad 0))]) hx hb dX4_perform_85 hl (by decide) rfl (fun ls hl => ?_)
            refine lv_iload hx hb dX4_perform_87 (lv_at hl 0 rfl) ?_
            refine lv_if_eq (tgt := 95) hx hb dX4_perform_89 (by decide) (fun h14 => ?_) (fun h14 => ?_)
            · refine lv_aload_n hx hb dX4_perform_95 rfl (lv_at hl 3 rfl) ?_
              refine lv_iload_n hx hb dX4_perform_96 rfl (lv_at hl 1 rfl) ?_
              refine kFi (As := [.int (r4)]) (rest := []) hx hb hml hown hG hl (okX4_performAtAddress l D cI cJ cP ad H.size u13 r4 j13.2) (cV 1 hG kw209 kw210 kw211 kw212 kw5 hdX4_performAtAddress ⟨by decide, by decide⟩) 0 4 rfl rfl hK hP hD hS hA hN rfl rfl (Nat.le_of_ble_eq_true rfl) dX4_perform_97 ⟨Nat.zero_le _, Nat.zero_le _⟩ (fun r15 u15 q15 H locs hP hD hS => ?_)
              have j15 : ivX4_performAtAddressP (r15, u15) := by rw [q15]; exact ivX4_performAtAddress u13 r4 j13.2
              exact reti (u := u15) hx hb hr hlocks hK hP hD hS dX4_perform_100 (by unfold fnX4_perform; rw [← q1]; (try dsimp only); rw [← q2]; (try dsimp only); rw [if_pos h3]; rw [← q4]; (try dsimp only); rw [if_neg h5]; rw [if_neg h7]; rw [if_pos h9]; rw [← q10]; (try dsimp only); rw [if_neg h11]; rw [← q13]; (try dsimp only); rw [if_pos h14]; rw [← q15]; (try dsimp only); (try exact rfl))
            · refine lv_iload hx hb dX4_perform_92 (lv_at hl 0 rfl) ?_
              exact reti (u := u13) hx hb hr hlocks hK hP hD hS dX4_perform_94 (by unfold fnX4_perform; rw [← q1]; (try dsimp only); rw [← q2]; (try dsimp only); rw [if_pos h3]; rw [← q4]; (try dsimp only); rw [if_neg h5]; rw [if_neg h7]; rw [if_pos h9]; rw [← q10]; (try dsimp only); rw [if_neg h11]; rw [← q13]; (try dsimp only); rw [if_neg h14]; (try exact rfl))
        · refine lv_aload_n hx hb dX4_perform_60 rfl (lv_at hl 2 rfl) ?_
          refine lv_iload_n hx hb dX4_perform_61 rfl (lv_at hl 0 rfl) ?_
          refine kFi (As := [.int (r4)]) (rest := []) hx hb hml hown hG hl (okX4_performWithoutAddress l D cI cJ cP ad H.size (x.1, x.2.1, x.2.2.1, x.2.2.2.1, x.2.2.2.2.1, u1, x.2.2.2.2.2.2.1, u2) r4 ⟨hI.1, hI.2.1, hI.2.2.1, hI.2.2.2.1, hI.2.2.2.2.1, j1, hI.2.2.2.2.2.2.1, j2.2⟩) (cV 1 hG kw200 kw201 kw202 kw203 kw5 hdX4_performWithoutAddress ⟨by decide, by decide⟩) 0 4 rfl rfl hK hP hD hS hA hN rfl rfl (Nat.le_of_ble_eq_true rfl) dX4_perform_62 ⟨Nat.zero_le _, Nat.zero_le _⟩ (fun r16 u16 q16 H locs hP hD hS => ?_)
          have j16 : ivX4_performWithoutAddressP (r16, u16) := by rw [q16]; exact ivX4_performWithoutAddress (x.1, x.2.1, x.2.2.1, x.2.2.2.1, x.2.2.2.2.1, u1, x.2.2.2.2.2.2.1, u2) r4 ⟨hI.1, hI.2.1, hI.2.2.1, hI.2.2.2.1, hI.2.2.2.2.1, j1, hI.2.2.2.2.2.2.1, j2.2⟩
          exact reti (u := u16) hx hb hr hlocks hK hP hD hS dX4_perform_65 (by unfold fnX4_perform; rw [← q1]; (try dsimp only); rw [← q2]; (try dsimp only); rw [if_pos h3]; rw [← q4]; (try dsimp only); rw [if_neg h5]; rw [if_neg h7]; rw [if_neg h9]; rw [← q16]; (try dsimp only); (try exact rfl))
  · refine lv_lload_n hx hb dX4_perform_30 rfl (lv_at hl 0 rfl) ?_
    refine k0Si (As := [.long (r2)]) (rest := []) hx hb hml hown hG hl (okX4_faultOf l D cI cJ cP  H.size r2 ) (cS 1 hG kw85 kw136 kw86 kw5 hdX4_faultOf ⟨by decide, by decide⟩) hK hP hD hS hA hN rfl rfl (Nat.le_of_ble_eq_true rfl) dX4_perform_31 ⟨Nat.zero_le _, Nat.zero_le _⟩ (fun r17 q17 H locs hP hD hS => ?_)
    have j17 : i4 r17 := by rw [q17]; exact (fltI j2.1 (Int64.not_le.mp h3))
    exact reti (u := (x.1, x.2.1, x.2.2.1, x.2.2.2.1, x.2.2.2.2.1, u1, x.2.2.2.2.2.2.1, u2)) hx hb hr hlocks hK hP hD hS dX4_perform_34 (by unfold fnX4_perform; rw [← q1]; (try dsimp only); rw [← q2]; (try dsimp only); rw [if_neg h3]; rw [← q17]; (try dsimp only); (try exact rfl))
end
section
theorem dX4_run_0 : decode cX4_run 0 = .ok (.iload_n 1, 1) := by decide +kernel
theorem dX4_run_1 : decode cX4_run 1 = .ok (.ifCond .lt 9, 3) := by decide +kernel
theorem dX4_run_4 : decode cX4_run 4 = .ok (.iload_n 1, 1) := by decide +kernel
theorem dX4_run_5 : decode cX4_run 5 = .ok (.bipush 100, 2) := by decide +kernel
theorem dX4_run_7 : decode cX4_run 7 = .ok (.if_icmp .le 11, 3) := by decide +kernel
theorem dX4_run_10 : decode cX4_run 10 = .ok (.new 65, 3) := by decide +kernel
theorem dX4_run_13 : decode cX4_run 13 = .ok (.dup, 1) := by decide +kernel
theorem dX4_run_14 : decode cX4_run 14 = .ok (.invokespecial 67, 3) := by decide +kernel
theorem dX4_run_17 : decode cX4_run 17 = .ok (.athrow, 1) := by decide +kernel
theorem dX4_run_18 : decode cX4_run 18 = .ok (.iconst 0, 1) := by decide +kernel
theorem dX4_run_19 : decode cX4_run 19 = .ok (.istore_n 2, 1) := by decide +kernel
theorem dX4_run_20 : decode cX4_run 20 = .ok (.iload_n 2, 1) := by decide +kernel
theorem dX4_run_21 : decode cX4_run 21 = .ok (.iload_n 1, 1) := by decide +kernel
theorem dX4_run_22 : decode cX4_run 22 = .ok (.if_icmp .ge 41, 3) := by decide +kernel
theorem dX4_run_25 : decode cX4_run 25 = .ok (.aload_n 0, 1) := by decide +kernel
theorem dX4_run_26 : decode cX4_run 26 = .ok (.getfield 68, 3) := by decide +kernel
theorem dX4_run_29 : decode cX4_run 29 = .ok (.ifCond .eq 5, 3) := by decide +kernel
theorem dX4_run_32 : decode cX4_run 32 = .ok (.iload_n 2, 1) := by decide +kernel
theorem dX4_run_33 : decode cX4_run 33 = .ok (.ireturn, 1) := by decide +kernel
theorem dX4_run_34 : decode cX4_run 34 = .ok (.aload_n 0, 1) := by decide +kernel
theorem dX4_run_35 : decode cX4_run 35 = .ok (.invokevirtual 72, 3) := by decide +kernel
theorem dX4_run_38 : decode cX4_run 38 = .ok (.istore_n 3, 1) := by decide +kernel
theorem dX4_run_39 : decode cX4_run 39 = .ok (.iload_n 3, 1) := by decide +kernel
theorem dX4_run_40 : decode cX4_run 40 = .ok (.ifCond .ne 8, 3) := by decide +kernel
theorem dX4_run_43 : decode cX4_run 43 = .ok (.aload_n 0, 1) := by decide +kernel
theorem dX4_run_44 : decode cX4_run 44 = .ok (.invokevirtual 76, 3) := by decide +kernel
theorem dX4_run_47 : decode cX4_run 47 = .ok (.istore_n 3, 1) := by decide +kernel
theorem dX4_run_48 : decode cX4_run 48 = .ok (.iload_n 3, 1) := by decide +kernel
theorem dX4_run_49 : decode cX4_run 49 = .ok (.ifCond .eq 8, 3) := by decide +kernel
theorem dX4_run_52 : decode cX4_run 52 = .ok (.aload_n 0, 1) := by decide +kernel
theorem dX4_run_53 : decode cX4_run 53 = .ok (.iload_n 3, 1) := by decide +kernel
theorem dX4_run_54 : decode cX4_run 54 = .ok (.invokevirtual 79, 3) := by decide +kernel
theorem dX4_run_57 : decode cX4_run 57 = .ok (.iinc 2 1, 3) := by decide +kernel
theorem dX4_run_60 : decode cX4_run 60 = .ok (.goto (-40), 3) := by decide +kernel
theorem dX4_run_63 : decode cX4_run 63 = .ok (.iload_n 1, 1) := by decide +kernel
theorem dX4_run_64 : decode cX4_run 64 = .ok (.ireturn, 1) := by decide +kernel
theorem dX4_go_0 : decode cX4_go 0 = .ok (.aload_n 0, 1) := by decide +kernel
theorem dX4_go_1 : decode cX4_go 1 = .ok (.iconst 0, 1) := by decide +kernel
theorem dX4_go_2 : decode cX4_go 2 = .ok (.putfield 68, 3) := by decide +kernel
theorem dX4_go_5 : decode cX4_go 5 = .ok (.aload_n 0, 1) := by decide +kernel
theorem dX4_go_6 : decode cX4_go 6 = .ok (.iconst 0, 1) := by decide +kernel
theorem dX4_go_7 : decode cX4_go 7 = .ok (.putfield 83, 3) := by decide +kernel
theorem dX4_go_10 : decode cX4_go 10 = .ok (.return_, 1) := by decide +kernel
theorem dX4_state_0 : decode cX4_state 0 = .ok (.iload_n 1, 1) := by decide +kernel
theorem dX4_state_1 : decode cX4_state 1 = .ok (.tableswitch 85 0 5 #[39, 52, 65, 70, 75, 80], 39) := by decide +kernel
theorem dX4_state_40 : decode cX4_state 40 = .ok (.aload_n 0, 1) := by decide +kernel
theorem dX4_state_41 : decode cX4_state 41 = .ok (.getfield 68, 3) := by decide +kernel
theorem dX4_state_44 : decode cX4_state 44 = .ok (.ifCond .eq 7, 3) := by decide +kernel
theorem dX4_state_47 : decode cX4_state 47 = .ok (.iconst 1, 1) := by decide +kernel
theorem dX4_state_48 : decode cX4_state 48 = .ok (.goto 4, 3) := by decide +kernel
theorem dX4_state_51 : decode cX4_state 51 = .ok (.iconst 0, 1) := by decide +kernel
theorem dX4_state_52 : decode cX4_state 52 = .ok (.ireturn, 1) := by decide +kernel
theorem dX4_state_53 : decode cX4_state 53 = .ok (.aload_n 0, 1) := by decide +kernel
theorem dX4_state_54 : decode cX4_state 54 = .ok (.getfield 83, 3) := by decide +kernel
theorem dX4_state_57 : decode cX4_state 57 = .ok (.ifCond .eq 7, 3) := by decide +kernel
theorem dX4_state_60 : decode cX4_state 60 = .ok (.iconst 1, 1) := by decide +kernel
theorem dX4_state_61 : decode cX4_state 61 = .ok (.goto 4, 3) := by decide +kernel
theorem dX4_state_64 : decode cX4_state 64 = .ok (.iconst 0, 1) := by decide +kernel
theorem dX4_state_65 : decode cX4_state 65 = .ok (.ireturn, 1) := by decide +kernel
theorem dX4_state_66 : decode cX4_state 66 = .ok (.aload_n 0, 1) := by decide +kernel
theorem dX4_state_67 : decode cX4_state 67 = .ok (.getfield 90, 3) := by decide +kernel
theorem dX4_state_70 : decode cX4_state 70 = .ok (.ireturn, 1) := by decide +kernel
theorem dX4_state_71 : decode cX4_state 71 = .ok (.aload_n 0, 1) := by decide +kernel
theorem dX4_state_72 : decode cX4_state 72 = .ok (.getfield 93, 3) := by decide +kernel
theorem dX4_state_75 : decode cX4_state 75 = .ok (.ireturn, 1) := by decide +kernel
theorem dX4_state_76 : decode cX4_state 76 = .ok (.aload_n 0, 1) := by decide +kernel
theorem dX4_state_77 : decode cX4_state 77 = .ok (.getfield 96, 3) := by decide +kernel
theorem dX4_state_80 : decode cX4_state 80 = .ok (.ireturn, 1) := by decide +kernel
theorem dX4_state_81 : decode cX4_state 81 = .ok (.aload_n 0, 1) := by decide +kernel
theorem dX4_state_82 : decode cX4_state 82 = .ok (.getfield 86, 3) := by decide +kernel
theorem dX4_state_85 : decode cX4_state 85 = .ok (.ireturn, 1) := by decide +kernel
theorem dX4_state_86 : decode cX4_state 86 = .ok (.iconst (-1), 1) := by decide +kernel
theorem dX4_state_87 : decode cX4_state 87 = .ok (.ireturn, 1) := by decide +kernel
theorem dX4_saved_0 : decode cX4_saved 0 = .ok (.aload_n 0, 1) := by decide +kernel
theorem dX4_saved_1 : decode cX4_saved 1 = .ok (.getfield 99, 3) := by decide +kernel
theorem dX4_saved_4 : decode cX4_saved 4 = .ok (.ifCond .eq 13, 3) := by decide +kernel
theorem dX4_saved_7 : decode cX4_saved 7 = .ok (.aload_n 0, 1) := by decide +kernel
theorem dX4_saved_8 : decode cX4_saved 8 = .ok (.getfield 34, 3) := by decide +kernel
theorem dX4_saved_11 : decode cX4_saved 11 = .ok (.invokevirtual 61, 3) := by decide +kernel
theorem dX4_saved_14 : decode cX4_saved 14 = .ok (.goto 4, 3) := by decide +kernel
theorem dX4_saved_17 : decode cX4_saved 17 = .ok (.lconst 0, 1) := by decide +kernel
theorem dX4_saved_18 : decode cX4_saved 18 = .ok (.lreturn, 1) := by decide +kernel
theorem dX4_copy_0 : decode cX4_copy 0 = .ok (.iload_n 2, 1) := by decide +kernel
theorem dX4_copy_1 : decode cX4_copy 1 = .ok (.lookupswitch 51 #[(0, 27), (1, 39)], 27) := by decide +kernel
theorem dX4_copy_28 : decode cX4_copy 28 = .ok (.aload_n 0, 1) := by decide +kernel
theorem dX4_copy_29 : decode cX4_copy 29 = .ok (.getfield 10, 3) := by decide +kernel
theorem dX4_copy_32 : decode cX4_copy 32 = .ok (.getfield 102, 3) := by decide +kernel
theorem dX4_copy_35 : decode cX4_copy 35 = .ok (.iload_n 1, 1) := by decide +kernel
theorem dX4_copy_36 : decode cX4_copy 36 = .ok (.invokevirtual 106, 3) := by decide +kernel
theorem dX4_copy_39 : decode cX4_copy 39 = .ok (.ireturn, 1) := by decide +kernel
theorem dX4_copy_40 : decode cX4_copy 40 = .ok (.aload_n 0, 1) := by decide +kernel
theorem dX4_copy_41 : decode cX4_copy 41 = .ok (.getfield 10, 3) := by decide +kernel
theorem dX4_copy_44 : decode cX4_copy 44 = .ok (.getfield 112, 3) := by decide +kernel
theorem dX4_copy_47 : decode cX4_copy 47 = .ok (.iload_n 1, 1) := by decide +kernel
theorem dX4_copy_48 : decode cX4_copy 48 = .ok (.invokevirtual 106, 3) := by decide +kernel
theorem dX4_copy_51 : decode cX4_copy 51 = .ok (.ireturn, 1) := by decide +kernel
theorem dX4_copy_52 : decode cX4_copy 52 = .ok (.iconst (-1), 1) := by decide +kernel
theorem dX4_copy_53 : decode cX4_copy 53 = .ok (.ireturn, 1) := by decide +kernel
theorem dX4_poke_0 : decode cX4_poke 0 = .ok (.iload_n 1, 1) := by decide +kernel
theorem dX4_poke_1 : decode cX4_poke 1 = .ok (.ifCond .lt 10, 3) := by decide +kernel
theorem dX4_poke_4 : decode cX4_poke 4 = .ok (.iload_n 1, 1) := by decide +kernel
theorem dX4_poke_5 : decode cX4_poke 5 = .ok (.sipush 4095, 3) := by decide +kernel
theorem dX4_poke_8 : decode cX4_poke 8 = .ok (.if_icmp .le 11, 3) := by decide +kernel
theorem dX4_poke_11 : decode cX4_poke 11 = .ok (.new 37, 3) := by decide +kernel
theorem dX4_poke_14 : decode cX4_poke 14 = .ok (.dup, 1) := by decide +kernel
theorem dX4_poke_15 : decode cX4_poke 15 = .ok (.invokespecial 39, 3) := by decide +kernel
theorem dX4_poke_18 : decode cX4_poke 18 = .ok (.athrow, 1) := by decide +kernel
theorem dX4_poke_19 : decode cX4_poke 19 = .ok (.aload_n 0, 1) := by decide +kernel
theorem dX4_poke_20 : decode cX4_poke 20 = .ok (.getfield 10, 3) := by decide +kernel
theorem dX4_poke_23 : decode cX4_poke 23 = .ok (.getfield 40, 3) := by decide +kernel
theorem dX4_poke_26 : decode cX4_poke 26 = .ok (.iload_n 1, 1) := by decide +kernel
theorem dX4_poke_27 : decode cX4_poke 27 = .ok (.lload_n 2, 1) := by decide +kernel
theorem dX4_poke_28 : decode cX4_poke 28 = .ok (.ldc2_w 44, 3) := by decide +kernel
theorem dX4_poke_31 : decode cX4_poke 31 = .ok (.land, 1) := by decide +kernel
theorem dX4_poke_32 : decode cX4_poke 32 = .ok (.lastore, 1) := by decide +kernel
theorem dX4_poke_33 : decode cX4_poke 33 = .ok (.return_, 1) := by decide +kernel
theorem dX4_peek_0 : decode cX4_peek 0 = .ok (.iload_n 1, 1) := by decide +kernel
theorem dX4_peek_1 : decode cX4_peek 1 = .ok (.ifCond .lt 10, 3) := by decide +kernel
theorem dX4_peek_4 : decode cX4_peek 4 = .ok (.iload_n 1, 1) := by decide +kernel
theorem dX4_peek_5 : decode cX4_peek 5 = .ok (.sipush 4095, 3) := by decide +kernel
theorem dX4_peek_8 : decode cX4_peek 8 = .ok (.if_icmp .le 11, 3) := by decide +kernel
theorem dX4_peek_11 : decode cX4_peek 11 = .ok (.new 37, 3) := by decide +kernel
theorem dX4_peek_14 : decode cX4_peek 14 = .ok (.dup, 1) := by decide +kernel
theorem dX4_peek_15 : decode cX4_peek 15 = .ok (.invokespecial 39, 3) := by decide +kernel
theorem dX4_peek_18 : decode cX4_peek 18 = .ok (.athrow, 1) := by decide +kernel
theorem dX4_peek_19 : decode cX4_peek 19 = .ok (.aload_n 0, 1) := by decide +kernel
theorem dX4_peek_20 : decode cX4_peek 20 = .ok (.getfield 10, 3) := by decide +kernel
theorem dX4_peek_23 : decode cX4_peek 23 = .ok (.getfield 40, 3) := by decide +kernel
theorem dX4_peek_26 : decode cX4_peek 26 = .ok (.iload_n 1, 1) := by decide +kernel
theorem dX4_peek_27 : decode cX4_peek 27 = .ok (.laload, 1) := by decide +kernel
theorem dX4_peek_28 : decode cX4_peek 28 = .ok (.lreturn, 1) := by decide +kernel
theorem dX4_set_0 : decode cX4_set 0 = .ok (.iload_n 1, 1) := by decide +kernel
theorem dX4_set_1 : decode cX4_set 1 = .ok (.ifCond .lt 9, 3) := by decide +kernel
theorem dX4_set_4 : decode cX4_set 4 = .ok (.iload_n 1, 1) := by decide +kernel
theorem dX4_set_5 : decode cX4_set 5 = .ok (.bipush 10, 2) := by decide +kernel
theorem dX4_set_7 : decode cX4_set 7 = .ok (.if_icmp .le 11, 3) := by decide +kernel
theorem dX4_set_10 : decode cX4_set 10 = .ok (.new 37, 3) := by decide +kernel
theorem dX4_set_13 : decode cX4_set 13 = .ok (.dup, 1) := by decide +kernel
theorem dX4_set_14 : decode cX4_set 14 = .ok (.invokespecial 39, 3) := by decide +kernel
theorem dX4_set_17 : decode cX4_set 17 = .ok (.athrow, 1) := by decide +kernel
theorem dX4_set_18 : decode cX4_set 18 = .ok (.iload_n 1, 1) := by decide +kernel
theorem dX4_set_19 : decode cX4_set 19 = .ok (.ifCond .ne 15, 3) := by decide +kernel
theorem dX4_set_22 : decode cX4_set 22 = .ok (.aload_n 0, 1) := by decide +kernel
theorem dX4_set_23 : decode cX4_set 23 = .ok (.lload_n 2, 1) := by decide +kernel
theorem dX4_set_24 : decode cX4_set 24 = .ok (.ldc2_w 44, 3) := by decide +kernel
theorem dX4_set_27 : decode cX4_set 27 = .ok (.land, 1) := by decide +kernel
theorem dX4_set_28 : decode cX4_set 28 = .ok (.putfield 46, 3) := by decide +kernel
theorem dX4_set_31 : decode cX4_set 31 = .ok (.goto 73, 3) := by decide +kernel
theorem dX4_set_34 : decode cX4_set 34 = .ok (.iload_n 1, 1) := by decide +kernel
theorem dX4_set_35 : decode cX4_set 35 = .ok (.iconst 1, 1) := by decide +kernel
theorem dX4_set_36 : decode cX4_set 36 = .ok (.if_icmp .ne 15, 3) := by decide +kernel
theorem dX4_set_39 : decode cX4_set 39 = .ok (.aload_n 0, 1) := by decide +kernel
theorem dX4_set_40 : decode cX4_set 40 = .ok (.lload_n 2, 1) := by decide +kernel
theorem dX4_set_41 : decode cX4_set 41 = .ok (.ldc2_w 44, 3) := by decide +kernel
theorem dX4_set_44 : decode cX4_set 44 = .ok (.land, 1) := by decide +kernel
theorem dX4_set_45 : decode cX4_set 45 = .ok (.putfield 50, 3) := by decide +kernel
theorem dX4_set_48 : decode cX4_set 48 = .ok (.goto 56, 3) := by decide +kernel
theorem dX4_set_51 : decode cX4_set 51 = .ok (.iload_n 1, 1) := by decide +kernel
theorem dX4_set_52 : decode cX4_set 52 = .ok (.iconst 5, 1) := by decide +kernel
theorem dX4_set_53 : decode cX4_set 53 = .ok (.if_icmp .gt 21, 3) := by decide +kernel
theorem dX4_set_56 : decode cX4_set 56 = .ok (.aload_n 0, 1) := by decide +kernel
theorem dX4_set_57 : decode cX4_set 57 = .ok (.getfield 16, 3) := by decide +kernel
theorem dX4_set_60 : decode cX4_set 60 = .ok (.iload_n 1, 1) := by decide +kernel
theorem dX4_set_61 : decode cX4_set 61 = .ok (.iconst 2, 1) := by decide +kernel
theorem dX4_set_62 : decode cX4_set 62 = .ok (.isub, 1) := by decide +kernel
theorem dX4_set_63 : decode cX4_set 63 = .ok (.lload_n 2, 1) := by decide +kernel
theorem dX4_set_64 : decode cX4_set 64 = .ok (.iconst 0, 1) := by decide +kernel
theorem dX4_set_65 : decode cX4_set 65 = .ok (.bipush 12, 2) := by decide +kernel
theorem dX4_set_67 : decode cX4_set 67 = .ok (.invokestatic 53, 3) := by decide +kernel
theorem dX4_set_70 : decode cX4_set 70 = .ok (.iastore, 1) := by decide +kernel
theorem dX4_set_71 : decode cX4_set 71 = .ok (.goto 33, 3) := by decide +kernel
theorem dX4_set_74 : decode cX4_set 74 = .ok (.iload_n 1, 1) := by decide +kernel
theorem dX4_set_75 : decode cX4_set 75 = .ok (.bipush 9, 2) := by decide +kernel
theorem dX4_set_77 : decode cX4_set 77 = .ok (.if_icmp .gt 19, 3) := by decide +kernel
theorem dX4_set_80 : decode cX4_set 80 = .ok (.aload_n 0, 1) := by decide +kernel
theorem dX4_set_81 : decode cX4_set 81 = .ok (.getfield 23, 3) := by decide +kernel
theorem dX4_set_84 : decode cX4_set 84 = .ok (.iload_n 1, 1) := by decide +kernel
theorem dX4_set_85 : decode cX4_set 85 = .ok (.bipush 6, 2) := by decide +kernel
theorem dX4_set_87 : decode cX4_set 87 = .ok (.isub, 1) := by decide +kernel
theorem dX4_set_88 : decode cX4_set 88 = .ok (.aaload, 1) := by decide +kernel
theorem dX4_set_89 : decode cX4_set 89 = .ok (.lload_n 2, 1) := by decide +kernel
theorem dX4_set_90 : decode cX4_set 90 = .ok (.invokevirtual 57, 3) := by decide +kernel
theorem dX4_set_93 : decode cX4_set 93 = .ok (.goto 11, 3) := by decide +kernel
theorem dX4_set_96 : decode cX4_set 96 = .ok (.aload_n 0, 1) := by decide +kernel
theorem dX4_set_97 : decode cX4_set 97 = .ok (.getfield 27, 3) := by decide +kernel
theorem dX4_set_100 : decode cX4_set 100 = .ok (.lload_n 2, 1) := by decide +kernel
theorem dX4_set_101 : decode cX4_set 101 = .ok (.invokevirtual 57, 3) := by decide +kernel
theorem dX4_set_104 : decode cX4_set 104 = .ok (.return_, 1) := by decide +kernel
theorem dX4_get_0 : decode cX4_get 0 = .ok (.iload_n 1, 1) := by decide +kernel
theorem dX4_get_1 : decode cX4_get 1 = .ok (.ifCond .lt 9, 3) := by decide +kernel
theorem dX4_get_4 : decode cX4_get 4 = .ok (.iload_n 1, 1) := by decide +kernel
theorem dX4_get_5 : decode cX4_get 5 = .ok (.bipush 10, 2) := by decide +kernel
theorem dX4_get_7 : decode cX4_get 7 = .ok (.if_icmp .le 11, 3) := by decide +kernel
theorem dX4_get_10 : decode cX4_get 10 = .ok (.new 37, 3) := by decide +kernel
theorem dX4_get_13 : decode cX4_get 13 = .ok (.dup, 1) := by decide +kernel
theorem dX4_get_14 : decode cX4_get 14 = .ok (.invokespecial 39, 3) := by decide +kernel
theorem dX4_get_17 : decode cX4_get 17 = .ok (.athrow, 1) := by decide +kernel
theorem dX4_get_18 : decode cX4_get 18 = .ok (.iload_n 1, 1) := by decide +kernel
theorem dX4_get_19 : decode cX4_get 19 = .ok (.ifCond .ne 8, 3) := by decide +kernel
theorem dX4_get_22 : decode cX4_get 22 = .ok (.aload_n 0, 1) := by decide +kernel
theorem dX4_get_23 : decode cX4_get 23 = .ok (.getfield 46, 3) := by decide +kernel
theorem dX4_get_26 : decode cX4_get 26 = .ok (.lreturn, 1) := by decide +kernel
theorem dX4_get_27 : decode cX4_get 27 = .ok (.iload_n 1, 1) := by decide +kernel
theorem dX4_get_28 : decode cX4_get 28 = .ok (.iconst 1, 1) := by decide +kernel
theorem dX4_get_29 : decode cX4_get 29 = .ok (.if_icmp .ne 8, 3) := by decide +kernel
theorem dX4_get_32 : decode cX4_get 32 = .ok (.aload_n 0, 1) := by decide +kernel
theorem dX4_get_33 : decode cX4_get 33 = .ok (.getfield 50, 3) := by decide +kernel
theorem dX4_get_36 : decode cX4_get 36 = .ok (.lreturn, 1) := by decide +kernel
theorem dX4_get_37 : decode cX4_get 37 = .ok (.iload_n 1, 1) := by decide +kernel
theorem dX4_get_38 : decode cX4_get 38 = .ok (.iconst 5, 1) := by decide +kernel
theorem dX4_get_39 : decode cX4_get 39 = .ok (.if_icmp .gt 13, 3) := by decide +kernel
theorem dX4_get_42 : decode cX4_get 42 = .ok (.aload_n 0, 1) := by decide +kernel
theorem dX4_get_43 : decode cX4_get 43 = .ok (.getfield 16, 3) := by decide +kernel
theorem dX4_get_46 : decode cX4_get 46 = .ok (.iload_n 1, 1) := by decide +kernel
theorem dX4_get_47 : decode cX4_get 47 = .ok (.iconst 2, 1) := by decide +kernel
theorem dX4_get_48 : decode cX4_get 48 = .ok (.isub, 1) := by decide +kernel
theorem dX4_get_49 : decode cX4_get 49 = .ok (.iaload, 1) := by decide +kernel
theorem dX4_get_50 : decode cX4_get 50 = .ok (.i2l, 1) := by decide +kernel
theorem dX4_get_51 : decode cX4_get 51 = .ok (.lreturn, 1) := by decide +kernel
theorem dX4_get_52 : decode cX4_get 52 = .ok (.iload_n 1, 1) := by decide +kernel
theorem dX4_get_53 : decode cX4_get 53 = .ok (.bipush 9, 2) := by decide +kernel
theorem dX4_get_55 : decode cX4_get 55 = .ok (.if_icmp .gt 18, 3) := by decide +kernel
theorem dX4_get_58 : decode cX4_get 58 = .ok (.aload_n 0, 1) := by decide +kernel
theorem dX4_get_59 : decode cX4_get 59 = .ok (.getfield 23, 3) := by decide +kernel
theorem dX4_get_62 : decode cX4_get 62 = .ok (.iload_n 1, 1) := by decide +kernel
theorem dX4_get_63 : decode cX4_get 63 = .ok (.bipush 6, 2) := by decide +kernel
theorem dX4_get_65 : decode cX4_get 65 = .ok (.isub, 1) := by decide +kernel
theorem dX4_get_66 : decode cX4_get 66 = .ok (.aaload, 1) := by decide +kernel
theorem dX4_get_67 : decode cX4_get 67 = .ok (.invokevirtual 61, 3) := by decide +kernel
theorem dX4_get_70 : decode cX4_get 70 = .ok (.goto 10, 3) := by decide +kernel
theorem dX4_get_73 : decode cX4_get 73 = .ok (.aload_n 0, 1) := by decide +kernel
theorem dX4_get_74 : decode cX4_get 74 = .ok (.getfield 27, 3) := by decide +kernel
theorem dX4_get_77 : decode cX4_get 77 = .ok (.invokevirtual 61, 3) := by decide +kernel
theorem dX4_get_80 : decode cX4_get 80 = .ok (.lreturn, 1) := by decide +kernel
theorem dX4_interrupt_0 : decode cX4_interrupt 0 = .ok (.iload_n 1, 1) := by decide +kernel
theorem dX4_interrupt_1 : decode cX4_interrupt 1 = .ok (.ifCond .lt 8, 3) := by decide +kernel
theorem dX4_interrupt_4 : decode cX4_interrupt 4 = .ok (.iload_n 1, 1) := by decide +kernel
theorem dX4_interrupt_5 : decode cX4_interrupt 5 = .ok (.iconst 3, 1) := by decide +kernel
theorem dX4_interrupt_6 : decode cX4_interrupt 6 = .ok (.if_icmp .le 11, 3) := by decide +kernel
theorem dX4_interrupt_9 : decode cX4_interrupt 9 = .ok (.new 37, 3) := by decide +kernel
theorem dX4_interrupt_12 : decode cX4_interrupt 12 = .ok (.dup, 1) := by decide +kernel
theorem dX4_interrupt_13 : decode cX4_interrupt 13 = .ok (.invokespecial 39, 3) := by decide +kernel
theorem dX4_interrupt_16 : decode cX4_interrupt 16 = .ok (.athrow, 1) := by decide +kernel
theorem dX4_interrupt_17 : decode cX4_interrupt 17 = .ok (.aload_n 0, 1) := by decide +kernel
theorem dX4_interrupt_18 : decode cX4_interrupt 18 = .ok (.dup, 1) := by decide +kernel
theorem dX4_interrupt_19 : decode cX4_interrupt 19 = .ok (.getfield 86, 3) := by decide +kernel
theorem dX4_interrupt_22 : decode cX4_interrupt 22 = .ok (.iconst 1, 1) := by decide +kernel
theorem dX4_interrupt_23 : decode cX4_interrupt 23 = .ok (.iload_n 1, 1) := by decide +kernel
theorem dX4_interrupt_24 : decode cX4_interrupt 24 = .ok (.ishl, 1) := by decide +kernel
theorem dX4_interrupt_25 : decode cX4_interrupt 25 = .ok (.ior, 1) := by decide +kernel
theorem dX4_interrupt_26 : decode cX4_interrupt 26 = .ok (.putfield 86, 3) := by decide +kernel
theorem dX4_interrupt_29 : decode cX4_interrupt 29 = .ok (.return_, 1) := by decide +kernel
theorem dX4_reach_0 : decode cX4_reach 0 = .ok (.iload_n 1, 1) := by decide +kernel
theorem dX4_reach_1 : decode cX4_reach 1 = .ok (.ifCond .lt 9, 3) := by decide +kernel
theorem dX4_reach_4 : decode cX4_reach 4 = .ok (.iload_n 1, 1) := by decide +kernel
theorem dX4_reach_5 : decode cX4_reach 5 = .ok (.bipush 15, 2) := by decide +kernel
theorem dX4_reach_7 : decode cX4_reach 7 = .ok (.if_icmp .le 11, 3) := by decide +kernel
theorem dX4_reach_10 : decode cX4_reach 10 = .ok (.new 37, 3) := by decide +kernel
theorem dX4_reach_13 : decode cX4_reach 13 = .ok (.dup, 1) := by decide +kernel
theorem dX4_reach_14 : decode cX4_reach 14 = .ok (.invokespecial 39, 3) := by decide +kernel
theorem dX4_reach_17 : decode cX4_reach 17 = .ok (.athrow, 1) := by decide +kernel
theorem dX4_reach_18 : decode cX4_reach 18 = .ok (.iload_n 3, 1) := by decide +kernel
theorem dX4_reach_19 : decode cX4_reach 19 = .ok (.ifCond .lt 31, 3) := by decide +kernel
theorem dX4_reach_22 : decode cX4_reach 22 = .ok (.iload_n 3, 1) := by decide +kernel
theorem dX4_reach_23 : decode cX4_reach 23 = .ok (.bipush 7, 2) := by decide +kernel
theorem dX4_reach_25 : decode cX4_reach 25 = .ok (.if_icmp .gt 25, 3) := by decide +kernel
theorem dX4_reach_28 : decode cX4_reach 28 = .ok (.iload_n 2, 1) := by decide +kernel
theorem dX4_reach_29 : decode cX4_reach 29 = .ok (.ifCond .lt 21, 3) := by decide +kernel
theorem dX4_reach_32 : decode cX4_reach 32 = .ok (.iload_n 2, 1) := by decide +kernel
theorem dX4_reach_33 : decode cX4_reach 33 = .ok (.sipush 4095, 3) := by decide +kernel
theorem dX4_reach_36 : decode cX4_reach 36 = .ok (.if_icmp .gt 14, 3) := by decide +kernel
theorem dX4_reach_39 : decode cX4_reach 39 = .ok (.iload 4, 2) := by decide +kernel
theorem dX4_reach_41 : decode cX4_reach 41 = .ok (.ifCond .lt 9, 3) := by decide +kernel
theorem dX4_reach_44 : decode cX4_reach 44 = .ok (.iload 4, 2) := by decide +kernel
theorem dX4_reach_46 : decode cX4_reach 46 = .ok (.iconst 2, 1) := by decide +kernel
theorem dX4_reach_47 : decode cX4_reach 47 = .ok (.if_icmp .le 11, 3) := by decide +kernel
theorem dX4_reach_50 : decode cX4_reach 50 = .ok (.new 65, 3) := by decide +kernel
theorem dX4_reach_53 : decode cX4_reach 53 = .ok (.dup, 1) := by decide +kernel
theorem dX4_reach_54 : decode cX4_reach 54 = .ok (.invokespecial 67, 3) := by decide +kernel
theorem dX4_reach_57 : decode cX4_reach 57 = .ok (.athrow, 1) := by decide +kernel
theorem dX4_reach_58 : decode cX4_reach 58 = .ok (.aload_n 0, 1) := by decide +kernel
theorem dX4_reach_59 : decode cX4_reach 59 = .ok (.getfield 10, 3) := by decide +kernel
theorem dX4_reach_62 : decode cX4_reach 62 = .ok (.iload_n 1, 1) := by decide +kernel
theorem dX4_reach_63 : decode cX4_reach 63 = .ok (.iload_n 2, 1) := by decide +kernel
theorem dX4_reach_64 : decode cX4_reach 64 = .ok (.iload_n 3, 1) := by decide +kernel
theorem dX4_reach_65 : decode cX4_reach 65 = .ok (.iload 4, 2) := by decide +kernel
theorem dX4_reach_67 : decode cX4_reach 67 = .ok (.iconst 0, 1) := by decide +kernel
theorem dX4_reach_68 : decode cX4_reach 68 = .ok (.invokevirtual 115, 3) := by decide +kernel
theorem dX4_reach_71 : decode cX4_reach 71 = .ok (.ireturn, 1) := by decide +kernel
theorem kw217 : Cond.code yX4_takeInterrupt cX4_takeInterrupt 2 (some .int) ∈ gG := inG 375 (by decide +kernel) (by decide +kernel)
theorem kw218 : Cond.methodLink RX4 72 yX4_takeInterrupt ∈ gG := inG 372 (by decide +kernel) (by decide +kernel)
theorem kw219 : Cond.instanceMethod yX4_takeInterrupt ∈ gG := inG 374 (by decide +kernel) (by decide +kernel)
theorem kw220 : Cond.selects RX4 yX4_takeInterrupt yX4_takeInterrupt ∈ gG := inG 1 (by decide +kernel) (by decide +kernel)
theorem kw221 : Cond.code yX4_enter cX4_enter 3 none ∈ gG := inG 529 (by decide +kernel) (by decide +kernel)
theorem kw222 : Cond.methodLink RX4 79 yX4_enter ∈ gG := inG 526 (by decide +kernel) (by decide +kernel)
theorem kw223 : Cond.instanceMethod yX4_enter ∈ gG := inG 528 (by decide +kernel) (by decide +kernel)
theorem kw224 : Cond.selects RX4 yX4_enter yX4_enter ∈ gG := inG 21 (by decide +kernel) (by decide +kernel)
theorem kw225 : Cond.code yX4_perform cX4_perform 5 (some .int) ∈ gG := inG 379 (by decide +kernel) (by decide +kernel)
theorem kw226 : Cond.methodLink RX4 76 yX4_perform ∈ gG := inG 376 (by decide +kernel) (by decide +kernel)
theorem kw227 : Cond.instanceMethod yX4_perform ∈ gG := inG 378 (by decide +kernel) (by decide +kernel)
theorem kw228 : Cond.selects RX4 yX4_perform yX4_perform ∈ gG := inG 2 (by decide +kernel) (by decide +kernel)
theorem kw229 : Cond.code yX0_nameAt cX0_nameAt 2 (some .int) ∈ gG := inG 248 (by decide +kernel) (by decide +kernel)
theorem kw230 : Cond.methodLink RX4 106 yX0_nameAt ∈ gG := inG 245 (by decide +kernel) (by decide +kernel)
theorem kw231 : Cond.instanceMethod yX0_nameAt ∈ gG := inG 246 (by decide +kernel) (by decide +kernel)
theorem kw232 : Cond.selects RX0 yX0_nameAt yX0_nameAt ∈ gG := inG 247 (by decide +kernel) (by decide +kernel)
theorem kw233 : Cond.fieldLink RX4 40 RX3 "words" "[J" ∈ gG := inG 139 (by decide +kernel) (by decide +kernel)
theorem kw234 : Cond.methodLink RX4 115 yX3_locate ∈ gG := inG 544 (by decide +kernel) (by decide +kernel)
theorem hdX4_takeInterrupt : yX4_takeInterrupt.cls ≠ "java/lang/invoke/MethodHandle" ∧ yX4_takeInterrupt.cls ≠ "java/lang/invoke/VarHandle" ∧ (parseMethodDescriptor yX4_takeInterrupt.desc).map (fun d => d.parameters.length) = some 0 := by decide +kernel
theorem hdX4_enter : yX4_enter.cls ≠ "java/lang/invoke/MethodHandle" ∧ yX4_enter.cls ≠ "java/lang/invoke/VarHandle" ∧ (parseMethodDescriptor yX4_enter.desc).map (fun d => d.parameters.length) = some 1 := by decide +kernel
theorem hdX4_perform : yX4_perform.cls ≠ "java/lang/invoke/MethodHandle" ∧ yX4_perform.cls ≠ "java/lang/invoke/VarHandle" ∧ (parseMethodDescriptor yX4_perform.desc).map (fun d => d.parameters.length) = some 0 := by decide +kernel
theorem hdX0_nameAt : yX0_nameAt.cls ≠ "java/lang/invoke/MethodHandle" ∧ yX0_nameAt.cls ≠ "java/lang/invoke/VarHandle" ∧ (parseMethodDescriptor yX0_nameAt.desc).map (fun d => d.parameters.length) = some 1 := by decide +kernel
end
section
abbrev ivX4_runP (z : Int32 × TR) : Prop := iR z.2
def lpX4_run (a0 : Int32) : Nat → Int32 → TR → Int32 × TR
  | 0, k, u0 => (k, u0)
  | n + 1, k, u0 =>
    if a0 ≤ k then
     (a0, u0)
    else
     if u0.2.1.2.2.1 = (0 : Int32) then
      let p3 := fnX4_takeInterrupt u0
      if p3.1 = (0 : Int32) then
       let p6 := fnX4_perform p3.2
       if p6.1 = (0 : Int32) then
        lpX4_run a0 n (k + (1 : Int32)) p6.2
       else
        let p8 := fnX4_enter p6.2 p6.1
        lpX4_run a0 n (k + (1 : Int32)) p8
      else
       let p5 := fnX4_enter p3.2 p3.1
       lpX4_run a0 n (k + (1 : Int32)) p5
     else
      (k, u0)
theorem lpX4_run_s (a0 : Int32) (n : Nat) (k : Int32) (u0 : TR) : lpX4_run a0 (n + 1) k u0 =
    (if a0 ≤ k then
     (a0, u0)
    else
     if u0.2.1.2.2.1 = (0 : Int32) then
      let p3 := fnX4_takeInterrupt u0
      if p3.1 = (0 : Int32) then
       let p6 := fnX4_perform p3.2
       if p6.1 = (0 : Int32) then
        lpX4_run a0 n (k + (1 : Int32)) p6.2
       else
        let p8 := fnX4_enter p6.2 p6.1
        lpX4_run a0 n (k + (1 : Int32)) p8
      else
       let p5 := fnX4_enter p3.2 p3.1
       lpX4_run a0 n (k + (1 : Int32)) p5
     else
      (k, u0)) := rfl
set_option maxRecDepth 100000 in
set_option maxHeartbeats 4000000 in
theorem ivlpX4_run (a0 : Int32)  : ∀ (n : Nat) (k : Int32) (u0 : TR), iR u0 → ivX4_runP (lpX4_run a0 n k u0) := by
  intro n
  induction n with
  | zero => intro k u0 hI; exact hI
  | succ n ih =>
    intro k u0 hI
    rw [lpX4_run_s]
    try dsimp only
    refine iteI (fun h1 => ?_) (fun h1 => ?_)
    · exact hI
    · refine iteI (fun h2 => ?_) (fun h2 => ?_)
      · have j3 : ivX4_takeInterruptP (fnX4_takeInterrupt u0) := ivX4_takeInterrupt u0 hI
        generalize fnX4_takeInterrupt u0 = p3 at j3 ⊢
        refine iteI (fun h4 => ?_) (fun h4 => ?_)
        · have j6 : ivX4_performP (fnX4_perform p3.2) := ivX4_perform p3.2 j3.2
          generalize fnX4_perform p3.2 = p6 at j6 ⊢
          refine iteI (fun h7 => ?_) (fun h7 => ?_)
          · exact ih (k + (1 : Int32)) p6.2 j6.2
          · have j8 : ivX4_enterP (fnX4_enter p6.2 p6.1) := ivX4_enter p6.2 p6.1 j6.2 j6.1
            generalize fnX4_enter p6.2 p6.1 = p8 at j8 ⊢
            exact ih (k + (1 : Int32)) p8 j8
        · have j5 : ivX4_enterP (fnX4_enter p3.2 p3.1) := ivX4_enter p3.2 p3.1 j3.2 j3.1
          generalize fnX4_enter p3.2 p3.1 = p5 at j5 ⊢
          exact ih (k + (1 : Int32)) p5 j5
      · exact hI
def fnX4_run (x : TR) (a0 : Int32) : Int32 × TR :=
  lpX4_run a0 101 (0 : Int32) x
set_option maxRecDepth 100000 in
set_option maxHeartbeats 4000000 in
theorem ivX4_run (x : TR) (a0 : Int32) (hI : iR x) (g0 : i100 a0) : ivX4_runP (fnX4_run x a0) := by
  unfold fnX4_run
  try dsimp only
  exact ivlpX4_run a0  101 (0 : Int32) x hI
set_option maxRecDepth 100000 in
set_option maxHeartbeats 4000000 in
theorem okX4_run (l : Launch) (D : va_G) (cI cJ cP : ClassId) (ad : Nat → Nat) (sz : Nat) (x : TR) (a0 : Int32) (hI : iR x) (g0 : i100 a0) : Met l yX4_run (Cond.code yX4_run cX4_run 4 (some .int) :: gG) { frames := 7, cells := 0, slots := 0, locals := 175 } (va_Pc [.ref (ad 0), .int a0] (PRE D (tz cI cJ cP) sz (wR cI cJ cP ad x))) (va_Qi (fun (r : Int32) (u : TR) => (r, u) = fnX4_run x a0) (AT D (tz cI cJ cP) (va_A (wR cI cJ cP ad x) sz) (fun (u : TR) => (wR cI cJ cP ad u))) (va_A (wR cI cJ cP ad x) sz)) 0 0 (va_A (wR cI cJ cP ad x) sz) := by
  refine mo (QA := fun A => va_Qi (fun (r : Int32) (u : TR) => (r, u) = fnX4_run x a0) (AT D (tz cI cJ cP) A (fun (u : TR) => (wR cI cJ cP ad u))) A) (by decide) (Nat.le_of_ble_eq_true rfl) ?_
  intro p e s m below meth c A ls H hx hb hr hml hown hG hlocks hnm hA hS hP hK hD hl hN
  have hown : s.vm.findClass RX4 = some m.cls := hown
  have hl : lv_has ls 4 [(0, .ref (ad 0)), (1, .int a0)] := hl
  refine lv_iload_n hx hb dX4_run_0 rfl (lv_at hl 1 rfl) ?_
  refine lv_if_lt (tgt := 10) hx hb dX4_run_1 (by decide) (fun h9 => absurd h9 (nn_i100 g0)) (fun _ => ?_)
  refine lv_iload_n hx hb dX4_run_4 rfl (lv_at hl 1 rfl) ?_
  refine lv_bipush (v := 100) hx hb dX4_run_5 (by decide) ?_
  refine lv_icmp_le (tgt := 18) hx hb dX4_run_7 (by decide) (fun _ => ?_) (fun h9 => absurd (leK_i100 g0 (by decide)) h9)
  refine lv_iconst (v := 0) hx hb dX4_run_18 (by decide) ?_
  refine lv_istore_n (lv' := [(2, .int ((0 : Int32))), (0, .ref (ad 0)), (1, .int (a0))]) hx hb dX4_run_19 rfl hl (by decide) rfl (fun ls hl => ?_)
  have loop20 : ∀ (n : Nat) (k : Int32) (u0 : TR) (H : Heap) (locs : List Loc) (ls : Array Slot), (a0.toInt - k.toInt).toNat < n → iR u0 → 0 ≤ k.toInt → va_P D vwCl (wR cI cJ cP ad u0) H → va_D A (wR cI cJ cP ad u0) → va_S A s.heap H locs → lv_has ls 4 [(2, .int (k)), (0, .ref (ad 0)), (1, .int (a0))] → fnX4_run x a0 = lpX4_run a0 n k u0 → W p l e { frames := 7, cells := 0, slots := 0, locals := 175 } s m ([.ref (ad 0), .int a0]).toArray below meth c H locs 0 0 (MQ below (va_Qi (fun (r : Int32) (u : TR) => (r, u) = fnX4_run x a0) (AT D (tz cI cJ cP) A (fun (u : TR) => (wR cI cJ cP ad u))) A) ([.ref (ad 0), .int a0]).toArray s 0 0 A) (F0 m 20 ls []) := by
    intro n
    induction n with
    | zero => intro k u0 H locs ls hn; exact absurd hn (Nat.not_lt_zero _)
    | succ n ih =>
      intro k u0 H locs ls hn hI hk hP hD hS hl hE
      refine lv_iload_n hx hb dX4_run_20 rfl (lv_at hl 0 rfl) ?_
      refine lv_iload_n hx hb dX4_run_21 rfl (lv_at hl 2 rfl) ?_
      refine lv_icmp_ge (tgt := 63) hx hb dX4_run_22 (by decide) (fun h1 => ?_) (fun h1 => ?_)
      · refine lv_iload_n hx hb dX4_run_63 rfl (lv_at hl 2 rfl) ?_
        exact reti (u := u0) hx hb hr hlocks hK hP hD hS dX4_run_64 (by rw [hE, lpX4_run_s]; (try dsimp only); rw [if_pos h1]; (try exact rfl))
      · refine lv_aload_n hx hb dX4_run_25 rfl (lv_at hl 1 rfl) ?_
        refine va_get (D := D) (ci := 4) (v := .int (u0.2.1.2.2.1)) hx hb hG inX4 hown hK hP 0 rfl rfl 10 (by decide) (hG _ kw103) (fun _ h9 => h9) rfl dX4_run_26 ?_
        refine lv_if_eq (tgt := 34) hx hb dX4_run_29 (by decide) (fun h2 => ?_) (fun h2 => ?_)
        · refine lv_aload_n hx hb dX4_run_34 rfl (lv_at hl 1 rfl) ?_
          refine kFi (As := []) (rest := []) hx hb hml hown hG hl (okX4_takeInterrupt l D cI cJ cP ad H.size u0 hI) (cV 0 hG kw217 kw218 kw219 kw220 kw5 hdX4_takeInterrupt ⟨by decide, by decide⟩) 0 4 rfl rfl hK hP hD hS hA hN rfl rfl (Nat.le_of_ble_eq_true rfl) dX4_run_35 ⟨Nat.zero_le _, Nat.zero_le _⟩ (fun r3 u3 q3 H locs hP hD hS => ?_)
          have j3 : ivX4_takeInterruptP (r3, u3) := by rw [q3]; exact ivX4_takeInterrupt u0 hI
          refine lv_istore_n (lv' := [(3, .int (r3)), (2, .int (k)), (0, .ref (ad 0)), (1, .int (a0))]) hx hb dX4_run_38 rfl hl (by decide) rfl (fun ls hl => ?_)
          refine lv_iload_n hx hb dX4_run_39 rfl (lv_at hl 0 rfl) ?_
          refine lv_if_ne (tgt := 48) hx hb dX4_run_40 (by decide) (fun h4 => ?_) (fun h4 => ?_)
          · refine lv_iload_n hx hb dX4_run_48 rfl (lv_at hl 0 rfl) ?_
            refine lv_if_eq (tgt := 57) hx hb dX4_run_49 (by decide) (fun h9 => absurd h9 h4) (fun _ => ?_)
            refine lv_aload_n hx hb dX4_run_52 rfl (lv_at hl 2 rfl) ?_
            refine lv_iload_n hx hb dX4_run_53 rfl (lv_at hl 0 rfl) ?_
            refine kFv (As := [.int (r3)]) (rest := []) hx hb hml hown hG hl (okX4_enter l D cI cJ cP ad H.size u3 r3 j3.2 j3.1) (cV 1 hG kw221 kw222 kw223 kw224 kw5 hdX4_enter ⟨by decide, by decide⟩) 0 4 rfl rfl hK hP hD hS hA hN rfl rfl (Nat.le_of_ble_eq_true rfl) dX4_run_54 ⟨Nat.zero_le _, Nat.zero_le _⟩ (fun u5 q5 H locs hP hD hS => ?_)
            have j5 : ivX4_enterP u5 := by rw [q5]; exact ivX4_enter u3 r3 j3.2 j3.1
            refine lv_iinc (k := 1) (v := (k + (1 : Int32))) (lv' := [(2, .int ((k + (1 : Int32)))), (3, .int (r3)), (0, .ref (ad 0)), (1, .int (a0))]) hx hb dX4_run_57 hl rfl (by rfl) (by decide) rfl (fun ls hl => ?_)
            refine lv_goto (tgt := 20) hx hb dX4_run_60 (by decide) ?_
            exact ih (k + (1 : Int32)) u5 _ _ _ (lpM (Int32.not_le.mp h1) hn) j5 (lpK (Int32.not_le.mp h1) hk) hP hD hS (lv_sub hl [0, 2, 3] rfl) (by rw [hE, lpX4_run_s]; (try dsimp only); rw [if_neg h1]; rw [if_pos h2]; rw [← q3]; (try dsimp only); rw [if_neg h4]; rw [← q5]; (try dsimp only); (try exact rfl))
          · refine lv_aload_n hx hb dX4_run_43 rfl (lv_at hl 2 rfl) ?_
            refine kFi (As := []) (rest := []) hx hb hml hown hG hl (okX4_perform l D cI cJ cP ad H.size u3 j3.2) (cV 0 hG kw225 kw226 kw227 kw228 kw5 hdX4_perform ⟨by decide, by decide⟩) 0 4 rfl rfl hK hP hD hS hA hN rfl rfl (Nat.le_of_ble_eq_true rfl) dX4_run_44 ⟨Nat.zero_le _, Nat.zero_le _⟩ (fun r6 u6 q6 H locs hP hD hS => ?_)
            have j6 : ivX4_performP (r6, u6) := by rw [q6]; exact ivX4_perform u3 j3.2
            refine lv_istore_n (lv' := [(3, .int (r6)), (2, .int (k)), (0, .ref (ad 0)), (1, .int (a0))]) hx hb dX4_run_47 rfl hl (by decide) rfl (fun ls hl => ?_)
            refine lv_iload_n hx hb dX4_run_48 rfl (lv_at hl 0 rfl) ?_
            refine lv_if_eq (tgt := 57) hx hb dX4_run_49 (by decide) (fun h7 => ?_) (fun h7 => ?_)
            · refine lv_iinc (k := 1) (v := (k + (1 : Int32))) (lv' := [(2, .int ((k + (1 : Int32)))), (3, .int (r6)), (0, .ref (ad 0)), (1, .int (a0))]) hx hb dX4_run_57 hl rfl (by rfl) (by decide) rfl (fun ls hl => ?_)
              refine lv_goto (tgt := 20) hx hb dX4_run_60 (by decide) ?_
              exact ih (k + (1 : Int32)) u6 _ _ _ (lpM (Int32.not_le.mp h1) hn) j6.2 (lpK (Int32.not_le.mp h1) hk) hP hD hS (lv_sub hl [0, 2, 3] rfl) (by rw [hE, lpX4_run_s]; (try dsimp only); rw [if_neg h1]; rw [if_pos h2]; rw [← q3]; (try dsimp only); rw [if_pos h4]; rw [← q6]; (try dsimp only); rw [if_pos h7]; (try exact rfl))
            · refine lv_aload_n hx hb dX4_run_52 rfl (lv_at hl 2 rfl) ?_
              refine lv_iload_n hx hb dX4_run_53 rfl (lv_at hl 0 rfl) ?_
              refine kFv (As := [.int (r6)]) (rest := []) hx hb hml hown hG hl (okX4_enter l D cI cJ cP ad H.size u6 r6 j6.2 j6.1) (cV 1 hG kw221 kw222 kw223 kw224 kw5 hdX4_enter ⟨by decide, by decide⟩) 0 4 rfl rfl hK hP hD hS hA hN rfl rfl (Nat.le_of_ble_eq_true rfl) dX4_run_54 ⟨Nat.zero_le _, Nat.zero_le _⟩ (fun u8 q8 H locs hP hD hS => ?_)
              have j8 : ivX4_enterP u8 := by rw [q8]; exact ivX4_enter u6 r6 j6.2 j6.1
              refine lv_iinc (k := 1) (v := (k + (1 : Int32))) (lv' := [(2, .int ((k + (1 : Int32)))), (3, .int (r6)), (0, .ref (ad 0)), (1, .int (a0))]) hx hb dX4_run_57 hl rfl (by rfl) (by decide) rfl (fun ls hl => ?_)
              refine lv_goto (tgt := 20) hx hb dX4_run_60 (by decide) ?_
              exact ih (k + (1 : Int32)) u8 _ _ _ (lpM (Int32.not_le.mp h1) hn) j8 (lpK (Int32.not_le.mp h1) hk) hP hD hS (lv_sub hl [0, 2, 3] rfl) (by rw [hE, lpX4_run_s]; (try dsimp only); rw [if_neg h1]; rw [if_pos h2]; rw [← q3]; (try dsimp only); rw [if_pos h4]; rw [← q6]; (try dsimp only); rw [if_neg h7]; rw [← q8]; (try dsimp only); (try exact rfl))
        · refine lv_iload_n hx hb dX4_run_32 rfl (lv_at hl 0 rfl) ?_
          exact reti (u := u0) hx hb hr hlocks hK hP hD hS dX4_run_33 (by rw [hE, lpX4_run_s]; (try dsimp only); rw [if_neg h1]; rw [if_neg h2]; (try exact rfl))
  exact loop20 101 (0 : Int32) x _ _ _ (lp0 g0) hI (by decide) hP hD hS (lv_sub hl [0, 1, 2] rfl) (by unfold fnX4_run; (try dsimp only); (try exact rfl))
def fnX4_go (x : TR)  : TR :=
  (x.1, (x.2.1.1, (0 : Int32), (0 : Int32), x.2.1.2.2.2.1, x.2.1.2.2.2.2.1, x.2.1.2.2.2.2.2.1, x.2.1.2.2.2.2.2.2), x.2.2.1, x.2.2.2.1, x.2.2.2.2.1, x.2.2.2.2.2.1, x.2.2.2.2.2.2.1, x.2.2.2.2.2.2.2)
abbrev ivX4_goP (z : TR) : Prop := iR z
set_option maxRecDepth 100000 in
set_option maxHeartbeats 4000000 in
theorem ivX4_go (x : TR)  (hI : iR x) : ivX4_goP (fnX4_go x) := by
  unfold fnX4_go
  try dsimp only
  exact ⟨hI.1, hI.2.1, hI.2.2.1, hI.2.2.2.1, hI.2.2.2.2.1, hI.2.2.2.2.2.1, hI.2.2.2.2.2.2.1, hI.2.2.2.2.2.2.2⟩
set_option maxRecDepth 100000 in
set_option maxHeartbeats 4000000 in
theorem okX4_go (l : Launch) (D : va_G) (cI cJ cP : ClassId) (ad : Nat → Nat) (sz : Nat) (x : TR)  (hI : iR x) : Met l yX4_go (Cond.code yX4_go cX4_go 1 none :: gG) { frames := 0, cells := 0, slots := 0, locals := 0 } (va_Pc [.ref (ad 0)] (PRE D (tz cI cJ cP) sz (wR cI cJ cP ad x))) (va_Qv (fun (u : TR) => u = fnX4_go x) (AT D (tz cI cJ cP) (va_A (wR cI cJ cP ad x) sz) (fun (u : TR) => (wR cI cJ cP ad u))) (va_A (wR cI cJ cP ad x) sz)) 0 0 (va_A (wR cI cJ cP ad x) sz) := by
  refine mo (QA := fun A => va_Qv (fun (u : TR) => u = fnX4_go x) (AT D (tz cI cJ cP) A (fun (u : TR) => (wR cI cJ cP ad u))) A) (by decide) (Nat.le_of_ble_eq_true rfl) ?_
  intro p e s m below meth c A ls H hx hb hr hml hown hG hlocks hnm hA hS hP hK hD hl hN
  have hown : s.vm.findClass RX4 = some m.cls := hown
  have hl : lv_has ls 1 [(0, .ref (ad 0))] := hl
  refine lv_aload_n hx hb dX4_go_0 rfl (lv_at hl 0 rfl) ?_
  refine lv_iconst (v := 0) hx hb dX4_go_1 (by decide) ?_
  refine pu (D := D) (ci := 4) (v := .int ((0 : Int32))) (ty := .boolean) (W' := (wR cI cJ cP ad (x.1, (x.2.1.1, x.2.1.2.1, (0 : Int32), x.2.1.2.2.2.1, x.2.1.2.2.2.2.1, x.2.1.2.2.2.2.2.1, x.2.1.2.2.2.2.2.2), x.2.2.1, x.2.2.2.1, x.2.2.2.2.1, x.2.2.2.2.2.1, x.2.2.2.2.2.2.1, x.2.2.2.2.2.2.2))) hx hb hG inX4 tyX4 tyokX4 nmX4 hown hK hP hD hS 0 rfl rfl 10 (by decide) (hG _ kw103) (fun _ h9 => h9) rfl (by decide +kernel) rfl rfl (Nat.le_of_ble_eq_true rfl) dX4_go_2 rfl (fun H locs hP hD hS => ?_)
  refine lv_aload_n hx hb dX4_go_5 rfl (lv_at hl 0 rfl) ?_
  refine lv_iconst (v := 0) hx hb dX4_go_6 (by decide) ?_
  refine pu (D := D) (ci := 4) (v := .int ((0 : Int32))) (ty := .boolean) (W' := (wR cI cJ cP ad (x.1, (x.2.1.1, (0 : Int32), (0 : Int32), x.2.1.2.2.2.1, x.2.1.2.2.2.2.1, x.2.1.2.2.2.2.2.1, x.2.1.2.2.2.2.2.2), x.2.2.1, x.2.2.2.1, x.2.2.2.2.1, x.2.2.2.2.2.1, x.2.2.2.2.2.2.1, x.2.2.2.2.2.2.2))) hx hb hG inX4 tyX4 tyokX4 nmX4 hown hK hP hD hS 0 rfl rfl 9 (by decide) (hG _ kw96) (fun _ h9 => h9) rfl (by decide +kernel) rfl rfl (Nat.le_of_ble_eq_true rfl) dX4_go_7 rfl (fun H locs hP hD hS => ?_)
  exact retv (u := (x.1, (x.2.1.1, (0 : Int32), (0 : Int32), x.2.1.2.2.2.1, x.2.1.2.2.2.2.1, x.2.1.2.2.2.2.2.1, x.2.1.2.2.2.2.2.2), x.2.2.1, x.2.2.2.1, x.2.2.2.2.1, x.2.2.2.2.2.1, x.2.2.2.2.2.2.1, x.2.2.2.2.2.2.2)) hx hb hr hlocks hK hP hD hS dX4_go_10 (by unfold fnX4_go; (try exact rfl))
def fnX4_state (x : TR) (a0 : Int32) : Int32 :=
  if a0 = (0 : Int32) then
   if x.2.1.2.2.1 = (0 : Int32) then
    (0 : Int32)
   else
    (1 : Int32)
  else
   if a0 = (1 : Int32) then
    if x.2.1.2.1 = (0 : Int32) then
     (0 : Int32)
    else
     (1 : Int32)
   else
    if a0 = (2 : Int32) then
     x.2.1.2.2.2.1
    else
     if a0 = (3 : Int32) then
      x.2.1.2.2.2.2.1
     else
      if a0 = (4 : Int32) then
       x.2.1.2.2.2.2.2.1
      else
       if a0 = (5 : Int32) then
        x.2.1.2.2.2.2.2.2
       else
        (-1 : Int32)
set_option maxRecDepth 100000 in
set_option maxHeartbeats 4000000 in
theorem okX4_state (l : Launch) (D : va_G) (cI cJ cP : ClassId) (ad : Nat → Nat) (sz : Nat) (x : TR) (a0 : Int32) (hI : iR x) : Met l yX4_state (Cond.code yX4_state cX4_state 2 (some .int) :: gG) { frames := 0, cells := 0, slots := 0, locals := 0 } (va_Pc [.ref (ad 0), .int a0] (PRE D (tz cI cJ cP) sz (wR cI cJ cP ad x))) (va_Qi (fun (r : Int32) (_ : Unit) => r = fnX4_state x a0) (AT D (tz cI cJ cP) (va_A (wR cI cJ cP ad x) sz) (fun (_ : Unit) => (wR cI cJ cP ad x))) (va_A (wR cI cJ cP ad x) sz)) 0 0 (va_A (wR cI cJ cP ad x) sz) := by
  refine mo (QA := fun A => va_Qi (fun (r : Int32) (_ : Unit) => r = fnX4_state x a0) (AT D (tz cI cJ cP) A (fun (_ : Unit) => (wR cI cJ cP ad x))) A) (by decide) (Nat.le_of_ble_eq_true rfl) ?_
  intro p e s m below meth c A ls H hx hb hr hml hown hG hlocks hnm hA hS hP hK hD hl hN
  have hown : s.vm.findClass RX4 = some m.cls := hown
  have hl : lv_has ls 2 [(0, .ref (ad 0)), (1, .int a0)] := hl
  refine lv_iload_n hx hb dX4_state_0 rfl (lv_at hl 1 rfl) ?_
  by_cases h1 : a0 = (0 : Int32)
  · refine lv_tableIn (off := 39) (tgt := 40) hx hb dX4_state_1 (by rw [h1]; decide) (by rw [h1]; decide) (by rw [h1]; decide) (by decide) ?_
    refine lv_aload_n hx hb dX4_state_40 rfl (lv_at hl 0 rfl) ?_
    refine va_get (D := D) (ci := 4) (v := .int (x.2.1.2.2.1)) hx hb hG inX4 hown hK hP 0 rfl rfl 10 (by decide) (hG _ kw103) (fun _ h9 => h9) rfl dX4_state_41 ?_
    refine lv_if_eq (tgt := 51) hx hb dX4_state_44 (by decide) (fun h2 => ?_) (fun h2 => ?_)
    · refine lv_iconst (v := 0) hx hb dX4_state_51 (by decide) ?_
      exact reti (u := ()) hx hb hr hlocks hK hP hD hS dX4_state_52 (by unfold fnX4_state; (try dsimp only); rw [if_pos h1]; rw [if_pos h2]; (try exact rfl))
    · refine lv_iconst (v := 1) hx hb dX4_state_47 (by decide) ?_
      refine lv_goto (tgt := 52) hx hb dX4_state_48 (by decide) ?_
      exact reti (u := ()) hx hb hr hlocks hK hP hD hS dX4_state_52 (by unfold fnX4_state; (try dsimp only); rw [if_pos h1]; rw [if_neg h2]; (try exact rfl))
  by_cases h3 : a0 = (1 : Int32)
  · refine lv_tableIn (off := 52) (tgt := 53) hx hb dX4_state_1 (by rw [h3]; decide) (by rw [h3]; decide) (by rw [h3]; decide) (by decide) ?_
    refine lv_aload_n hx hb dX4_state_53 rfl (lv_at hl 0 rfl) ?_
    refine va_get (D := D) (ci := 4) (v := .int (x.2.1.2.1)) hx hb hG inX4 hown hK hP 0 rfl rfl 9 (by decide) (hG _ kw96) (fun _ h9 => h9) rfl dX4_state_54 ?_
    refine lv_if_eq (tgt := 64) hx hb dX4_state_57 (by decide) (fun h4 => ?_) (fun h4 => ?_)
    · refine lv_iconst (v := 0) hx hb dX4_state_64 (by decide) ?_
      exact reti (u := ()) hx hb hr hlocks hK hP hD hS dX4_state_65 (by unfold fnX4_state; (try dsimp only); rw [if_neg h1]; rw [if_pos h3]; rw [if_pos h4]; (try exact rfl))
    · refine lv_iconst (v := 1) hx hb dX4_state_60 (by decide) ?_
      refine lv_goto (tgt := 65) hx hb dX4_state_61 (by decide) ?_
      exact reti (u := ()) hx hb hr hlocks hK hP hD hS dX4_state_65 (by unfold fnX4_state; (try dsimp only); rw [if_neg h1]; rw [if_pos h3]; rw [if_neg h4]; (try exact rfl))
  by_cases h5 : a0 = (2 : Int32)
  · refine lv_tableIn (off := 65) (tgt := 66) hx hb dX4_state_1 (by rw [h5]; decide) (by rw [h5]; decide) (by rw [h5]; decide) (by decide) ?_
    refine lv_aload_n hx hb dX4_state_66 rfl (lv_at hl 0 rfl) ?_
    refine va_get (D := D) (ci := 4) (v := .int (x.2.1.2.2.2.1)) hx hb hG inX4 hown hK hP 0 rfl rfl 11 (by decide) (hG _ kw160) (fun _ h9 => h9) rfl dX4_state_67 ?_
    exact reti (u := ()) hx hb hr hlocks hK hP hD hS dX4_state_70 (by unfold fnX4_state; (try dsimp only); rw [if_neg h1]; rw [if_neg h3]; rw [if_pos h5]; (try exact rfl))
  by_cases h6 : a0 = (3 : Int32)
  · refine lv_tableIn (off := 70) (tgt := 71) hx hb dX4_state_1 (by rw [h6]; decide) (by rw [h6]; decide) (by rw [h6]; decide) (by decide) ?_
    refine lv_aload_n hx hb dX4_state_71 rfl (lv_at hl 0 rfl) ?_
    refine va_get (D := D) (ci := 4) (v := .int (x.2.1.2.2.2.2.1)) hx hb hG inX4 hown hK hP 0 rfl rfl 12 (by decide) (hG _ kw161) (fun _ h9 => h9) rfl dX4_state_72 ?_
    exact reti (u := ()) hx hb hr hlocks hK hP hD hS dX4_state_75 (by unfold fnX4_state; (try dsimp only); rw [if_neg h1]; rw [if_neg h3]; rw [if_neg h5]; rw [if_pos h6]; (try exact rfl))
  by_cases h7 : a0 = (4 : Int32)
  · refine lv_tableIn (off := 75) (tgt := 76) hx hb dX4_state_1 (by rw [h7]; decide) (by rw [h7]; decide) (by rw [h7]; decide) (by decide) ?_
    refine lv_aload_n hx hb dX4_state_76 rfl (lv_at hl 0 rfl) ?_
    refine va_get (D := D) (ci := 4) (v := .int (x.2.1.2.2.2.2.2.1)) hx hb hG inX4 hown hK hP 0 rfl rfl 13 (by decide) (hG _ kw162) (fun _ h9 => h9) rfl dX4_state_77 ?_
    exact reti (u := ()) hx hb hr hlocks hK hP hD hS dX4_state_80 (by unfold fnX4_state; (try dsimp only); rw [if_neg h1]; rw [if_neg h3]; rw [if_neg h5]; rw [if_neg h6]; rw [if_pos h7]; (try exact rfl))
  by_cases h8 : a0 = (5 : Int32)
  · refine lv_tableIn (off := 80) (tgt := 81) hx hb dX4_state_1 (by rw [h8]; decide) (by rw [h8]; decide) (by rw [h8]; decide) (by decide) ?_
    refine lv_aload_n hx hb dX4_state_81 rfl (lv_at hl 0 rfl) ?_
    refine va_get (D := D) (ci := 4) (v := .int (x.2.1.2.2.2.2.2.2)) hx hb hG inX4 hown hK hP 0 rfl rfl 14 (by decide) (hG _ kw159) (fun _ h9 => h9) rfl dX4_state_82 ?_
    exact reti (u := ()) hx hb hr hlocks hK hP hD hS dX4_state_85 (by unfold fnX4_state; (try dsimp only); rw [if_neg h1]; rw [if_neg h3]; rw [if_neg h5]; rw [if_neg h6]; rw [if_neg h7]; rw [if_pos h8]; (try exact rfl))
  refine lv_tableOut (tgt := 86) hx hb dX4_state_1 (by have a0 := neI (n := 0) h1 (by decide); have a1 := neI (n := 1) h3 (by decide); have a2 := neI (n := 2) h5 (by decide); have a3 := neI (n := 3) h6 (by decide); have a4 := neI (n := 4) h7 (by decide); have a5 := neI (n := 5) h8 (by decide); omega) (by decide) ?_
  refine lv_iconst (v := (-1)) hx hb dX4_state_86 (by decide) ?_
  exact reti (u := ()) hx hb hr hlocks hK hP hD hS dX4_state_87 (by unfold fnX4_state; (try dsimp only); rw [if_neg h1]; rw [if_neg h3]; rw [if_neg h5]; rw [if_neg h6]; rw [if_neg h7]; rw [if_neg h8]; (try exact rfl))
def fnX4_saved (x : TR)  : Int64 :=
  if x.2.1.1 = (0 : Int32) then
   (0 : Int64)
  else
   let p2 := fnX2_asWord x.2.2.2.2.2.2.1
   p2
set_option maxRecDepth 100000 in
set_option maxHeartbeats 4000000 in
theorem okX4_saved (l : Launch) (D : va_G) (cI cJ cP : ClassId) (ad : Nat → Nat) (sz : Nat) (x : TR)  (hI : iR x) : Met l yX4_saved (Cond.code yX4_saved cX4_saved 1 (some .long) :: gG) { frames := 1, cells := 0, slots := 0, locals := 20 } (va_Pc [.ref (ad 0)] (PRE D (tz cI cJ cP) sz (wR cI cJ cP ad x))) (va_Ql (fun (r : Int64) (_ : Unit) => r = fnX4_saved x) (AT D (tz cI cJ cP) (va_A (wR cI cJ cP ad x) sz) (fun (_ : Unit) => (wR cI cJ cP ad x))) (va_A (wR cI cJ cP ad x) sz)) 0 0 (va_A (wR cI cJ cP ad x) sz) := by
  refine mo (QA := fun A => va_Ql (fun (r : Int64) (_ : Unit) => r = fnX4_saved x) (AT D (tz cI cJ cP) A (fun (_ : Unit) => (wR cI cJ cP ad x))) A) (by decide) (Nat.le_of_ble_eq_true rfl) ?_
  intro p e s m below meth c A ls H hx hb hr hml hown hG hlocks hnm hA hS hP hK hD hl hN
  have hown : s.vm.findClass RX4 = some m.cls := hown
  have hl : lv_has ls 1 [(0, .ref (ad 0))] := hl
  refine lv_aload_n hx hb dX4_saved_0 rfl (lv_at hl 0 rfl) ?_
  refine va_get (D := D) (ci := 4) (v := .int (x.2.1.1)) hx hb hG inX4 hown hK hP 0 rfl rfl 8 (by decide) (hG _ kw163) (fun _ h9 => h9) rfl dX4_saved_1 ?_
  refine lv_if_eq (tgt := 17) hx hb dX4_saved_4 (by decide) (fun h1 => ?_) (fun h1 => ?_)
  · refine lv_lconst (v := 0) hx hb dX4_saved_17 (by decide) ?_
    exact retl (u := ()) hx hb hr hlocks hK hP hD hS dX4_saved_18 (by unfold fnX4_saved; (try dsimp only); rw [if_pos h1]; (try exact rfl))
  · refine lv_aload_n hx hb dX4_saved_7 rfl (lv_at hl 0 rfl) ?_
    refine va_get (D := D) (ci := 4) (v := .ref (ad 20)) hx hb hG inX4 hown hK hP 0 rfl rfl 7 (by decide) (hG _ kw97) (fun _ h9 => h9) rfl dX4_saved_8 ?_
    refine kVl (As := []) (rest := []) (W' := (fun _ => (wR cI cJ cP ad x))) hx hb hml hown hG hl (okX2_asWord l D cI cJ cP (ad 20) H.size x.2.2.2.2.2.2.1 hI.2.2.2.2.2.2.1) (cV 0 hG kw181 kw182 kw183 kw184 kw99 hdX2_asWord ⟨by decide, by decide⟩) 20 2 rfl rfl hK hP hD hS hA hN [20] rfl rfl rfl (fun _ => rfl) (fun _ => rfl) rfl rfl (Nat.le_of_ble_eq_true rfl) dX4_saved_11 ⟨Nat.zero_le _, Nat.zero_le _⟩ (fun r2 _ q2 H locs hP hD hS => ?_)
    have j2 : ivX2_asWordP r2 := by rw [q2]; exact ivX2_asWord x.2.2.2.2.2.2.1 hI.2.2.2.2.2.2.1
    refine lv_goto (tgt := 18) hx hb dX4_saved_14 (by decide) ?_
    exact retl (u := ()) hx hb hr hlocks hK hP hD hS dX4_saved_18 (by unfold fnX4_saved; (try dsimp only); rw [if_neg h1]; rw [← q2]; (try dsimp only); (try exact rfl))
def fnX4_copy (x : TR) (a0 : Int32) (a1 : Int32) : Int32 :=
  if a1 = (0 : Int32) then
   let p2 := fnX0_nameAt x.2.2.2.2.2.2.2.2.1 a0
   p2
  else
   if a1 = (1 : Int32) then
    let p4 := fnX0_nameAt x.2.2.2.2.2.2.2.2.2.1 a0
    p4
   else
    (-1 : Int32)
set_option maxRecDepth 100000 in
set_option maxHeartbeats 4000000 in
theorem okX4_copy (l : Launch) (D : va_G) (cI cJ cP : ClassId) (ad : Nat → Nat) (sz : Nat) (x : TR) (a0 : Int32) (a1 : Int32) (hI : iR x) : Met l yX4_copy (Cond.code yX4_copy cX4_copy 3 (some .int) :: gG) { frames := 1, cells := 0, slots := 0, locals := 21 } (va_Pc [.ref (ad 0), .int a0, .int a1] (PRE D (tz cI cJ cP) sz (wR cI cJ cP ad x))) (va_Qi (fun (r : Int32) (_ : Unit) => r = fnX4_copy x a0 a1) (AT D (tz cI cJ cP) (va_A (wR cI cJ cP ad x) sz) (fun (_ : Unit) => (wR cI cJ cP ad x))) (va_A (wR cI cJ cP ad x) sz)) 0 0 (va_A (wR cI cJ cP ad x) sz) := by
  refine mo (QA := fun A => va_Qi (fun (r : Int32) (_ : Unit) => r = fnX4_copy x a0 a1) (AT D (tz cI cJ cP) A (fun (_ : Unit) => (wR cI cJ cP ad x))) A) (by decide) (Nat.le_of_ble_eq_true rfl) ?_
  intro p e s m below meth c A ls H hx hb hr hml hown hG hlocks hnm hA hS hP hK hD hl hN
  have hown : s.vm.findClass RX4 = some m.cls := hown
  have hl : lv_has ls 3 [(0, .ref (ad 0)), (1, .int a0), (2, .int a1)] := hl
  refine lv_iload_n hx hb dX4_copy_0 rfl (lv_at hl 2 rfl) ?_
  by_cases h1 : a1 = (0 : Int32)
  · refine lv_lookup (off := 27) (tgt := 28) hx hb dX4_copy_1 (by decide) (by rw [h1]; decide) (by decide) ?_
    refine lv_aload_n hx hb dX4_copy_28 rfl (lv_at hl 0 rfl) ?_
    refine va_get (D := D) (ci := 4) (v := .ref (ad 1)) hx hb hG inX4 hown hK hP 0 rfl rfl 0 (by decide) (hG _ kw104) (fun _ h9 => h9) rfl dX4_copy_29 ?_
    refine va_get (D := D) (ci := 3) (v := .ref (ad 3)) hx hb hG inX3 hown hK hP 1 rfl rfl 1 (by decide) (hG _ kw105) (fun _ h9 => h9) rfl dX4_copy_32 ?_
    refine lv_iload_n hx hb dX4_copy_35 rfl (lv_at hl 1 rfl) ?_
    refine kVi (As := [.int (a0)]) (rest := []) (W' := (fun _ => (wR cI cJ cP ad x))) hx hb hml hown hG hl (okX0_nameAt l D cI cJ cP (ad 3) (ad 4) (ad 5) (ad 6) H.size x.2.2.2.2.2.2.2.2.1 a0 hI.2.2.2.2.2.2.2.2.1) (cV 1 hG kw229 kw230 kw231 kw232 kw38 hdX0_nameAt ⟨by decide, by decide⟩) 3 0 rfl rfl hK hP hD hS hA hN [3, 4, 5, 6] rfl rfl rfl (fun _ => rfl) (fun _ => rfl) rfl rfl (Nat.le_of_ble_eq_true rfl) dX4_copy_36 ⟨Nat.zero_le _, Nat.zero_le _⟩ (fun r2 _ q2 H locs hP hD hS => ?_)
    exact reti (u := ()) hx hb hr hlocks hK hP hD hS dX4_copy_39 (by unfold fnX4_copy; (try dsimp only); rw [if_pos h1]; rw [← q2]; (try dsimp only); (try exact rfl))
  by_cases h3 : a1 = (1 : Int32)
  · refine lv_lookup (off := 39) (tgt := 40) hx hb dX4_copy_1 (by decide) (by rw [h3]; decide) (by decide) ?_
    refine lv_aload_n hx hb dX4_copy_40 rfl (lv_at hl 0 rfl) ?_
    refine va_get (D := D) (ci := 4) (v := .ref (ad 1)) hx hb hG inX4 hown hK hP 0 rfl rfl 0 (by decide) (hG _ kw104) (fun _ h9 => h9) rfl dX4_copy_41 ?_
    refine va_get (D := D) (ci := 3) (v := .ref (ad 7)) hx hb hG inX3 hown hK hP 1 rfl rfl 2 (by decide) (hG _ kw110) (fun _ h9 => h9) rfl dX4_copy_44 ?_
    refine lv_iload_n hx hb dX4_copy_47 rfl (lv_at hl 1 rfl) ?_
    refine kVi (As := [.int (a0)]) (rest := []) (W' := (fun _ => (wR cI cJ cP ad x))) hx hb hml hown hG hl (okX0_nameAt l D cI cJ cP (ad 7) (ad 8) (ad 9) (ad 10) H.size x.2.2.2.2.2.2.2.2.2.1 a0 hI.2.2.2.2.2.2.2.2.2.1) (cV 1 hG kw229 kw230 kw231 kw232 kw38 hdX0_nameAt ⟨by decide, by decide⟩) 7 0 rfl rfl hK hP hD hS hA hN [7, 8, 9, 10] rfl rfl rfl (fun _ => rfl) (fun _ => rfl) rfl rfl (Nat.le_of_ble_eq_true rfl) dX4_copy_48 ⟨Nat.zero_le _, Nat.zero_le _⟩ (fun r4 _ q4 H locs hP hD hS => ?_)
    exact reti (u := ()) hx hb hr hlocks hK hP hD hS dX4_copy_51 (by unfold fnX4_copy; (try dsimp only); rw [if_neg h1]; rw [if_pos h3]; rw [← q4]; (try dsimp only); (try exact rfl))
  refine lv_lookup (off := 51) (tgt := 52) hx hb dX4_copy_1 (by decide) ((lv_osw h1 (by decide)).trans ((lv_osw h3 (by decide)).trans (rfl))) (by decide) ?_
  refine lv_iconst (v := (-1)) hx hb dX4_copy_52 (by decide) ?_
  exact reti (u := ()) hx hb hr hlocks hK hP hD hS dX4_copy_53 (by unfold fnX4_copy; (try dsimp only); rw [if_neg h1]; rw [if_neg h3]; (try exact rfl))
def fnX4_poke (x : TR) (a0 : Int32) (a1 : Int64) : TR :=
  (x.1, x.2.1, x.2.2.1, x.2.2.2.1, x.2.2.2.2.1, x.2.2.2.2.2.1, x.2.2.2.2.2.2.1, ((vp_updL x.2.2.2.2.2.2.2.1 (a0).toNatClampNeg (a1 &&& (68719476735 : Int64))), x.2.2.2.2.2.2.2.2.1, x.2.2.2.2.2.2.2.2.2.1, x.2.2.2.2.2.2.2.2.2.2))
abbrev ivX4_pokeP (z : TR) : Prop := iR z
set_option maxRecDepth 100000 in
set_option maxHeartbeats 4000000 in
theorem ivX4_poke (x : TR) (a0 : Int32) (a1 : Int64) (hI : iR x) (g0 : i12 a0) : ivX4_pokeP (fnX4_poke x a0 a1) := by
  unfold fnX4_poke
  try dsimp only
  exact ⟨hI.1, hI.2.1, hI.2.2.1, hI.2.2.2.1, hI.2.2.2.2.1, hI.2.2.2.2.2.1, hI.2.2.2.2.2.2.1, ⟨(upW hI.2.2.2.2.2.2.2.1 (mkW _)), hI.2.2.2.2.2.2.2.2.1, hI.2.2.2.2.2.2.2.2.2.1, hI.2.2.2.2.2.2.2.2.2.2⟩⟩
set_option maxRecDepth 100000 in
set_option maxHeartbeats 4000000 in
theorem okX4_poke (l : Launch) (D : va_G) (cI cJ cP : ClassId) (ad : Nat → Nat) (sz : Nat) (x : TR) (a0 : Int32) (a1 : Int64) (hI : iR x) (g0 : i12 a0) : Met l yX4_poke (Cond.code yX4_poke cX4_poke 4 none :: gG) { frames := 0, cells := 0, slots := 0, locals := 0 } (va_Pc [.ref (ad 0), .int a0, .long a1] (PRE D (tz cI cJ cP) sz (wR cI cJ cP ad x))) (va_Qv (fun (u : TR) => u = fnX4_poke x a0 a1) (AT D (tz cI cJ cP) (va_A (wR cI cJ cP ad x) sz) (fun (u : TR) => (wR cI cJ cP ad u))) (va_A (wR cI cJ cP ad x) sz)) 0 0 (va_A (wR cI cJ cP ad x) sz) := by
  refine mo (QA := fun A => va_Qv (fun (u : TR) => u = fnX4_poke x a0 a1) (AT D (tz cI cJ cP) A (fun (u : TR) => (wR cI cJ cP ad u))) A) (by decide) (Nat.le_of_ble_eq_true rfl) ?_
  intro p e s m below meth c A ls H hx hb hr hml hown hG hlocks hnm hA hS hP hK hD hl hN
  have hown : s.vm.findClass RX4 = some m.cls := hown
  have hl : lv_has ls 4 [(0, .ref (ad 0)), (1, .int a0), (2, .long a1)] := hl
  refine lv_iload_n hx hb dX4_poke_0 rfl (lv_at hl 1 rfl) ?_
  refine lv_if_lt (tgt := 11) hx hb dX4_poke_1 (by decide) (fun h9 => absurd h9 (nn_i12 g0)) (fun _ => ?_)
  refine lv_iload_n hx hb dX4_poke_4 rfl (lv_at hl 1 rfl) ?_
  refine lv_sipush (v := 4095) hx hb dX4_poke_5 (by decide) ?_
  refine lv_icmp_le (tgt := 19) hx hb dX4_poke_8 (by decide) (fun _ => ?_) (fun h9 => absurd (leK_i12 g0 (by decide)) h9)
  refine lv_aload_n hx hb dX4_poke_19 rfl (lv_at hl 0 rfl) ?_
  refine va_get (D := D) (ci := 4) (v := .ref (ad 1)) hx hb hG inX4 hown hK hP 0 rfl rfl 0 (by decide) (hG _ kw104) (fun _ h9 => h9) rfl dX4_poke_20 ?_
  refine va_get (D := D) (ci := 3) (v := .ref (ad 2)) hx hb hG inX3 hown hK hP 1 rfl rfl 0 (by decide) (hG _ kw233) (fun _ h9 => h9) rfl dX4_poke_23 ?_
  refine lv_iload_n hx hb dX4_poke_26 rfl (lv_at hl 1 rfl) ?_
  refine lv_lload_n hx hb dX4_poke_27 rfl (lv_at hl 2 rfl) ?_
  refine lv_ldc2 (v := 68719476735) hx hb hown (hG _ kw133) dX4_poke_28 ?_
  refine lv_land hx hb dX4_poke_31 ?_
  refine sl (D := D) (j := (a0).toNatClampNeg) (f := x.2.2.2.2.2.2.2.1) (x := (a1 &&& (68719476735 : Int64))) (W' := (wR cI cJ cP ad (x.1, x.2.1, x.2.2.1, x.2.2.2.1, x.2.2.2.2.1, x.2.2.2.2.2.1, x.2.2.2.2.2.2.1, ((vp_updL x.2.2.2.2.2.2.2.1 (a0).toNatClampNeg (a1 &&& (68719476735 : Int64))), x.2.2.2.2.2.2.2.2.1, x.2.2.2.2.2.2.2.2.2.1, x.2.2.2.2.2.2.2.2.2.2)))) hx hb hK hP hD hS 2 1 rfl rfl (in12 g0) rfl dX4_poke_32 rfl (fun H locs hP hD hS => ?_)
  exact retv (u := (x.1, x.2.1, x.2.2.1, x.2.2.2.1, x.2.2.2.2.1, x.2.2.2.2.2.1, x.2.2.2.2.2.2.1, ((vp_updL x.2.2.2.2.2.2.2.1 (a0).toNatClampNeg (a1 &&& (68719476735 : Int64))), x.2.2.2.2.2.2.2.2.1, x.2.2.2.2.2.2.2.2.2.1, x.2.2.2.2.2.2.2.2.2.2))) hx hb hr hlocks hK hP hD hS dX4_poke_33 (by unfold fnX4_poke; (try exact rfl))
def fnX4_peek (x : TR) (a0 : Int32) : Int64 :=
  (x.2.2.2.2.2.2.2.1 (a0).toNatClampNeg)
set_option maxRecDepth 100000 in
set_option maxHeartbeats 4000000 in
theorem okX4_peek (l : Launch) (D : va_G) (cI cJ cP : ClassId) (ad : Nat → Nat) (sz : Nat) (x : TR) (a0 : Int32) (hI : iR x) (g0 : i12 a0) : Met l yX4_peek (Cond.code yX4_peek cX4_peek 2 (some .long) :: gG) { frames := 0, cells := 0, slots := 0, locals := 0 } (va_Pc [.ref (ad 0), .int a0] (PRE D (tz cI cJ cP) sz (wR cI cJ cP ad x))) (va_Ql (fun (r : Int64) (_ : Unit) => r = fnX4_peek x a0) (AT D (tz cI cJ cP) (va_A (wR cI cJ cP ad x) sz) (fun (_ : Unit) => (wR cI cJ cP ad x))) (va_A (wR cI cJ cP ad x) sz)) 0 0 (va_A (wR cI cJ cP ad x) sz) := by
  refine mo (QA := fun A => va_Ql (fun (r : Int64) (_ : Unit) => r = fnX4_peek x a0) (AT D (tz cI cJ cP) A (fun (_ : Unit) => (wR cI cJ cP ad x))) A) (by decide) (Nat.le_of_ble_eq_true rfl) ?_
  intro p e s m below meth c A ls H hx hb hr hml hown hG hlocks hnm hA hS hP hK hD hl hN
  have hown : s.vm.findClass RX4 = some m.cls := hown
  have hl : lv_has ls 2 [(0, .ref (ad 0)), (1, .int a0)] := hl
  refine lv_iload_n hx hb dX4_peek_0 rfl (lv_at hl 1 rfl) ?_
  refine lv_if_lt (tgt := 11) hx hb dX4_peek_1 (by decide) (fun h9 => absurd h9 (nn_i12 g0)) (fun _ => ?_)
  refine lv_iload_n hx hb dX4_peek_4 rfl (lv_at hl 1 rfl) ?_
  refine lv_sipush (v := 4095) hx hb dX4_peek_5 (by decide) ?_
  refine lv_icmp_le (tgt := 19) hx hb dX4_peek_8 (by decide) (fun _ => ?_) (fun h9 => absurd (leK_i12 g0 (by decide)) h9)
  refine lv_aload_n hx hb dX4_peek_19 rfl (lv_at hl 0 rfl) ?_
  refine va_get (D := D) (ci := 4) (v := .ref (ad 1)) hx hb hG inX4 hown hK hP 0 rfl rfl 0 (by decide) (hG _ kw104) (fun _ h9 => h9) rfl dX4_peek_20 ?_
  refine va_get (D := D) (ci := 3) (v := .ref (ad 2)) hx hb hG inX3 hown hK hP 1 rfl rfl 0 (by decide) (hG _ kw233) (fun _ h9 => h9) rfl dX4_peek_23 ?_
  refine lv_iload_n hx hb dX4_peek_26 rfl (lv_at hl 1 rfl) ?_
  refine gl (D := D) (j := (a0).toNatClampNeg) (f := x.2.2.2.2.2.2.2.1) hx hb hK hP 2 1 rfl rfl (in12 g0) rfl dX4_peek_27 ?_
  exact retl (u := ()) hx hb hr hlocks hK hP hD hS dX4_peek_28 (by unfold fnX4_peek; (try exact rfl))
def fnX4_set (x : TR) (a0 : Int32) (a1 : Int64) : TR :=
  if a0 = (0 : Int32) then
   (((a1 &&& (68719476735 : Int64)), x.1.2), x.2.1, x.2.2.1, x.2.2.2.1, x.2.2.2.2.1, x.2.2.2.2.2.1, x.2.2.2.2.2.2.1, x.2.2.2.2.2.2.2)
  else
   if a0 = (1 : Int32) then
    ((x.1.1, (a1 &&& (68719476735 : Int64))), x.2.1, x.2.2.1, x.2.2.2.1, x.2.2.2.2.1, x.2.2.2.2.2.1, x.2.2.2.2.2.2.1, x.2.2.2.2.2.2.2)
   else
    if (5 : Int32) < a0 then
     if (9 : Int32) < a0 then
      let p5 := fnX2_takeFrom x.2.2.2.2.1 a1
      (x.1, x.2.1, x.2.2.1, x.2.2.2.1, p5, x.2.2.2.2.2.1, x.2.2.2.2.2.2.1, x.2.2.2.2.2.2.2)
     else
      if (a0 - (6 : Int32)) = (0 : Int32) then
       let p7 := fnX2_takeFrom x.2.2.2.1.1 a1
       (x.1, x.2.1, x.2.2.1, (p7, x.2.2.2.1.2.1, x.2.2.2.1.2.2.1, x.2.2.2.1.2.2.2), x.2.2.2.2.1, x.2.2.2.2.2.1, x.2.2.2.2.2.2.1, x.2.2.2.2.2.2.2)
      else
       if (a0 - (6 : Int32)) = (1 : Int32) then
        let p9 := fnX2_takeFrom x.2.2.2.1.2.1 a1
        (x.1, x.2.1, x.2.2.1, (x.2.2.2.1.1, p9, x.2.2.2.1.2.2.1, x.2.2.2.1.2.2.2), x.2.2.2.2.1, x.2.2.2.2.2.1, x.2.2.2.2.2.2.1, x.2.2.2.2.2.2.2)
       else
        if (a0 - (6 : Int32)) = (2 : Int32) then
         let p11 := fnX2_takeFrom x.2.2.2.1.2.2.1 a1
         (x.1, x.2.1, x.2.2.1, (x.2.2.2.1.1, x.2.2.2.1.2.1, p11, x.2.2.2.1.2.2.2), x.2.2.2.2.1, x.2.2.2.2.2.1, x.2.2.2.2.2.2.1, x.2.2.2.2.2.2.2)
        else
         let p13 := fnX2_takeFrom x.2.2.2.1.2.2.2 a1
         (x.1, x.2.1, x.2.2.1, (x.2.2.2.1.1, x.2.2.2.1.2.1, x.2.2.2.1.2.2.1, p13), x.2.2.2.2.1, x.2.2.2.2.2.1, x.2.2.2.2.2.2.1, x.2.2.2.2.2.2.2)
    else
     let p14 := fnX4_field a1 (0 : Int32) (12 : Int32)
     (x.1, x.2.1, (upd x.2.2.1 ((a0 - (2 : Int32))).toNatClampNeg p14), x.2.2.2.1, x.2.2.2.2.1, x.2.2.2.2.2.1, x.2.2.2.2.2.2.1, x.2.2.2.2.2.2.2)
abbrev ivX4_setP (z : TR) : Prop := iR z
set_option maxRecDepth 100000 in
set_option maxHeartbeats 4000000 in
theorem ivX4_set (x : TR) (a0 : Int32) (a1 : Int64) (hI : iR x) (g0 : i10 a0) : ivX4_setP (fnX4_set x a0 a1) := by
  unfold fnX4_set
  try dsimp only
  refine iteI (fun h1 => ?_) (fun h1 => ?_)
  · exact ⟨⟨(mkW _), hI.1.2⟩, hI.2.1, hI.2.2.1, hI.2.2.2.1, hI.2.2.2.2.1, hI.2.2.2.2.2.1, hI.2.2.2.2.2.2.1, hI.2.2.2.2.2.2.2⟩
  · refine iteI (fun h2 => ?_) (fun h2 => ?_)
    · exact ⟨⟨hI.1.1, (mkW _)⟩, hI.2.1, hI.2.2.1, hI.2.2.2.1, hI.2.2.2.2.1, hI.2.2.2.2.2.1, hI.2.2.2.2.2.2.1, hI.2.2.2.2.2.2.2⟩
    · refine iteI (fun h3 => ?_) (fun h3 => ?_)
      · refine iteI (fun h4 => ?_) (fun h4 => ?_)
        · have j5 : ivX2_takeFromP (fnX2_takeFrom x.2.2.2.2.1 a1) := ivX2_takeFrom x.2.2.2.2.1 a1 hI.2.2.2.2.1
          generalize fnX2_takeFrom x.2.2.2.2.1 a1 = p5 at j5 ⊢
          exact ⟨hI.1, hI.2.1, hI.2.2.1, hI.2.2.2.1, j5, hI.2.2.2.2.2.1, hI.2.2.2.2.2.2.1, hI.2.2.2.2.2.2.2⟩
        · refine iteI (fun h6 => ?_) (fun h6 => ?_)
          · have j7 : ivX2_takeFromP (fnX2_takeFrom x.2.2.2.1.1 a1) := ivX2_takeFrom x.2.2.2.1.1 a1 hI.2.2.2.1.1
            generalize fnX2_takeFrom x.2.2.2.1.1 a1 = p7 at j7 ⊢
            exact ⟨hI.1, hI.2.1, hI.2.2.1, ⟨j7, hI.2.2.2.1.2.1, hI.2.2.2.1.2.2.1, hI.2.2.2.1.2.2.2⟩, hI.2.2.2.2.1, hI.2.2.2.2.2.1, hI.2.2.2.2.2.2.1, hI.2.2.2.2.2.2.2⟩
          · refine iteI (fun h8 => ?_) (fun h8 => ?_)
            · have j9 : ivX2_takeFromP (fnX2_takeFrom x.2.2.2.1.2.1 a1) := ivX2_takeFrom x.2.2.2.1.2.1 a1 hI.2.2.2.1.2.1
              generalize fnX2_takeFrom x.2.2.2.1.2.1 a1 = p9 at j9 ⊢
              exact ⟨hI.1, hI.2.1, hI.2.2.1, ⟨hI.2.2.2.1.1, j9, hI.2.2.2.1.2.2.1, hI.2.2.2.1.2.2.2⟩, hI.2.2.2.2.1, hI.2.2.2.2.2.1, hI.2.2.2.2.2.2.1, hI.2.2.2.2.2.2.2⟩
            · refine iteI (fun h10 => ?_) (fun h10 => ?_)
              · have j11 : ivX2_takeFromP (fnX2_takeFrom x.2.2.2.1.2.2.1 a1) := ivX2_takeFrom x.2.2.2.1.2.2.1 a1 hI.2.2.2.1.2.2.1
                generalize fnX2_takeFrom x.2.2.2.1.2.2.1 a1 = p11 at j11 ⊢
                exact ⟨hI.1, hI.2.1, hI.2.2.1, ⟨hI.2.2.2.1.1, hI.2.2.2.1.2.1, j11, hI.2.2.2.1.2.2.2⟩, hI.2.2.2.2.1, hI.2.2.2.2.2.1, hI.2.2.2.2.2.2.1, hI.2.2.2.2.2.2.2⟩
              · have j13 : ivX2_takeFromP (fnX2_takeFrom x.2.2.2.1.2.2.2 a1) := ivX2_takeFrom x.2.2.2.1.2.2.2 a1 hI.2.2.2.1.2.2.2
                generalize fnX2_takeFrom x.2.2.2.1.2.2.2 a1 = p13 at j13 ⊢
                exact ⟨hI.1, hI.2.1, hI.2.2.1, ⟨hI.2.2.2.1.1, hI.2.2.2.1.2.1, hI.2.2.2.1.2.2.1, j13⟩, hI.2.2.2.2.1, hI.2.2.2.2.2.1, hI.2.2.2.2.2.2.1, hI.2.2.2.2.2.2.2⟩
      · have j14 : i12 (fnX4_field a1 (0 : Int32) (12 : Int32)) := (f12X a1 (0 : Int32))
        generalize fnX4_field a1 (0 : Int32) (12 : Int32) = p14 at j14 ⊢
        exact ⟨hI.1, hI.2.1, (up12 hI.2.2.1 j14), hI.2.2.2.1, hI.2.2.2.2.1, hI.2.2.2.2.2.1, hI.2.2.2.2.2.2.1, hI.2.2.2.2.2.2.2⟩
set_option maxRecDepth 100000 in
set_option maxHeartbeats 4000000 in
theorem okX4_set (l : Launch) (D : va_G) (cI cJ cP : ClassId) (ad : Nat → Nat) (sz : Nat) (x : TR) (a0 : Int32) (a1 : Int64) (hI : iR x) (g0 : i10 a0) : Met l yX4_set (Cond.code yX4_set cX4_set 4 none :: gG) { frames := 2, cells := 0, slots := 0, locals := 45 } (va_Pc [.ref (ad 0), .int a0, .long a1] (PRE D (tz cI cJ cP) sz (wR cI cJ cP ad x))) (va_Qv (fun (u : TR) => u = fnX4_set x a0 a1) (AT D (tz cI cJ cP) (va_A (wR cI cJ cP ad x) sz) (fun (u : TR) => (wR cI cJ cP ad u))) (va_A (wR cI cJ cP ad x) sz)) 0 0 (va_A (wR cI cJ cP ad x) sz) := by
  refine mo (QA := fun A => va_Qv (fun (u : TR) => u = fnX4_set x a0 a1) (AT D (tz cI cJ cP) A (fun (u : TR) => (wR cI cJ cP ad u))) A) (by decide) (Nat.le_of_ble_eq_true rfl) ?_
  intro p e s m below meth c A ls H hx hb hr hml hown hG hlocks hnm hA hS hP hK hD hl hN
  have hown : s.vm.findClass RX4 = some m.cls := hown
  have hl : lv_has ls 4 [(0, .ref (ad 0)), (1, .int a0), (2, .long a1)] := hl
  refine lv_iload_n hx hb dX4_set_0 rfl (lv_at hl 1 rfl) ?_
  refine lv_if_lt (tgt := 10) hx hb dX4_set_1 (by decide) (fun h9 => absurd h9 (nn_i10 g0)) (fun _ => ?_)
  refine lv_iload_n hx hb dX4_set_4 rfl (lv_at hl 1 rfl) ?_
  refine lv_bipush (v := 10) hx hb dX4_set_5 (by decide) ?_
  refine lv_icmp_le (tgt := 18) hx hb dX4_set_7 (by decide) (fun _ => ?_) (fun h9 => absurd (leK_i10 g0 (by decide)) h9)
  refine lv_iload_n hx hb dX4_set_18 rfl (lv_at hl 1 rfl) ?_
  refine lv_if_ne (tgt := 34) hx hb dX4_set_19 (by decide) (fun h1 => ?_) (fun h1 => ?_)
  · refine lv_iload_n hx hb dX4_set_34 rfl (lv_at hl 1 rfl) ?_
    refine lv_iconst (v := 1) hx hb dX4_set_35 (by decide) ?_
    refine lv_icmp_ne (tgt := 51) hx hb dX4_set_36 (by decide) (fun h2 => ?_) (fun h2 => ?_)
    · refine lv_iload_n hx hb dX4_set_51 rfl (lv_at hl 1 rfl) ?_
      refine lv_iconst (v := 5) hx hb dX4_set_52 (by decide) ?_
      refine lv_icmp_gt (tgt := 74) hx hb dX4_set_53 (by decide) (fun h3 => ?_) (fun h3 => ?_)
      · refine lv_iload_n hx hb dX4_set_74 rfl (lv_at hl 1 rfl) ?_
        refine lv_bipush (v := 9) hx hb dX4_set_75 (by decide) ?_
        refine lv_icmp_gt (tgt := 96) hx hb dX4_set_77 (by decide) (fun h4 => ?_) (fun h4 => ?_)
        · refine lv_aload_n hx hb dX4_set_96 rfl (lv_at hl 0 rfl) ?_
          refine va_get (D := D) (ci := 4) (v := .ref (ad 19)) hx hb hG inX4 hown hK hP 0 rfl rfl 5 (by decide) (hG _ kw87) (fun _ h9 => h9) rfl dX4_set_97 ?_
          refine lv_lload_n hx hb dX4_set_100 rfl (lv_at hl 2 rfl) ?_
          refine kVv (As := [.long (a1)]) (rest := []) (W' := (fun u5 => (wR cI cJ cP ad (x.1, x.2.1, x.2.2.1, x.2.2.2.1, u5, x.2.2.2.2.2.1, x.2.2.2.2.2.2.1, x.2.2.2.2.2.2.2)))) hx hb hml hown hG hl (okX2_takeFrom l D cI cJ cP (ad 19) H.size x.2.2.2.2.1 a1 hI.2.2.2.2.1) (cV 1 hG kw154 kw155 kw156 kw157 kw99 hdX2_takeFrom ⟨by decide, by decide⟩) 19 2 rfl rfl hK hP hD hS hA hN [19] rfl rfl rfl (fun _ => rfl) (fun _ => rfl) rfl rfl (Nat.le_of_ble_eq_true rfl) dX4_set_101 ⟨Nat.zero_le _, Nat.zero_le _⟩ (fun u5 q5 H locs hP hD hS => ?_)
          have j5 : ivX2_takeFromP u5 := by rw [q5]; exact ivX2_takeFrom x.2.2.2.2.1 a1 hI.2.2.2.2.1
          exact retv (u := (x.1, x.2.1, x.2.2.1, x.2.2.2.1, u5, x.2.2.2.2.2.1, x.2.2.2.2.2.2.1, x.2.2.2.2.2.2.2)) hx hb hr hlocks hK hP hD hS dX4_set_104 (by unfold fnX4_set; (try dsimp only); rw [if_neg h1]; rw [if_neg h2]; rw [if_pos h3]; rw [if_pos h4]; rw [← q5]; (try dsimp only); (try exact rfl))
        · refine lv_aload_n hx hb dX4_set_80 rfl (lv_at hl 0 rfl) ?_
          refine va_get (D := D) (ci := 4) (v := .ref (ad 14)) hx hb hG inX4 hown hK hP 0 rfl rfl 4 (by decide) (hG _ kw149) (fun _ h9 => h9) rfl dX4_set_81 ?_
          refine lv_iload_n hx hb dX4_set_84 rfl (lv_at hl 1 rfl) ?_
          refine lv_bipush (v := 6) hx hb dX4_set_85 (by decide) ?_
          refine lv_isub hx hb dX4_set_87 ?_
          by_cases h6 : (a0 - (6 : Int32)) = (0 : Int32)
          · refine gq (D := D) (j := 0) (x := ad 15) hx hb hK hP 14 2 rfl rfl (by rw [h6]; exact inL (by decide)) (by rw [h6]; decide) rfl dX4_set_88 ?_
            refine lv_lload_n hx hb dX4_set_89 rfl (lv_at hl 2 rfl) ?_
            refine kVv (As := [.long (a1)]) (rest := []) (W' := (fun u7 => (wR cI cJ cP ad (x.1, x.2.1, x.2.2.1, (u7, x.2.2.2.1.2.1, x.2.2.2.1.2.2.1, x.2.2.2.1.2.2.2), x.2.2.2.2.1, x.2.2.2.2.2.1, x.2.2.2.2.2.2.1, x.2.2.2.2.2.2.2)))) hx hb hml hown hG hl (okX2_takeFrom l D cI cJ cP (ad 15) H.size x.2.2.2.1.1 a1 hI.2.2.2.1.1) (cV 1 hG kw154 kw155 kw156 kw157 kw99 hdX2_takeFrom ⟨by decide, by decide⟩) 15 2 rfl rfl hK hP hD hS hA hN [15] rfl rfl rfl (fun _ => rfl) (fun _ => rfl) rfl rfl (Nat.le_of_ble_eq_true rfl) dX4_set_90 ⟨Nat.zero_le _, Nat.zero_le _⟩ (fun u7 q7 H locs hP hD hS => ?_)
            have j7 : ivX2_takeFromP u7 := by rw [q7]; exact ivX2_takeFrom x.2.2.2.1.1 a1 hI.2.2.2.1.1
            refine lv_goto (tgt := 104) hx hb dX4_set_93 (by decide) ?_
            exact retv (u := (x.1, x.2.1, x.2.2.1, (u7, x.2.2.2.1.2.1, x.2.2.2.1.2.2.1, x.2.2.2.1.2.2.2), x.2.2.2.2.1, x.2.2.2.2.2.1, x.2.2.2.2.2.2.1, x.2.2.2.2.2.2.2)) hx hb hr hlocks hK hP hD hS dX4_set_104 (by unfold fnX4_set; (try dsimp only); rw [if_neg h1]; rw [if_neg h2]; rw [if_pos h3]; rw [if_neg h4]; rw [if_pos h6]; rw [← q7]; (try dsimp only); (try exact rfl))
          by_cases h8 : (a0 - (6 : Int32)) = (1 : Int32)
          · refine gq (D := D) (j := 1) (x := ad 16) hx hb hK hP 14 2 rfl rfl (by rw [h8]; exact inL (by decide)) (by rw [h8]; decide) rfl dX4_set_88 ?_
            refine lv_lload_n hx hb dX4_set_89 rfl (lv_at hl 2 rfl) ?_
            refine kVv (As := [.long (a1)]) (rest := []) (W' := (fun u9 => (wR cI cJ cP ad (x.1, x.2.1, x.2.2.1, (x.2.2.2.1.1, u9, x.2.2.2.1.2.2.1, x.2.2.2.1.2.2.2), x.2.2.2.2.1, x.2.2.2.2.2.1, x.2.2.2.2.2.2.1, x.2.2.2.2.2.2.2)))) hx hb hml hown hG hl (okX2_takeFrom l D cI cJ cP (ad 16) H.size x.2.2.2.1.2.1 a1 hI.2.2.2.1.2.1) (cV 1 hG kw154 kw155 kw156 kw157 kw99 hdX2_takeFrom ⟨by decide, by decide⟩) 16 2 rfl rfl hK hP hD hS hA hN [16] rfl rfl rfl (fun _ => rfl) (fun _ => rfl) rfl rfl (Nat.le_of_ble_eq_true rfl) dX4_set_90 ⟨Nat.zero_le _, Nat.zero_le _⟩ (fun u9 q9 H locs hP hD hS => ?_)
            have j9 : ivX2_takeFromP u9 := by rw [q9]; exact ivX2_takeFrom x.2.2.2.1.2.1 a1 hI.2.2.2.1.2.1
            refine lv_goto (tgt := 104) hx hb dX4_set_93 (by decide) ?_
            exact retv (u := (x.1, x.2.1, x.2.2.1, (x.2.2.2.1.1, u9, x.2.2.2.1.2.2.1, x.2.2.2.1.2.2.2), x.2.2.2.2.1, x.2.2.2.2.2.1, x.2.2.2.2.2.2.1, x.2.2.2.2.2.2.2)) hx hb hr hlocks hK hP hD hS dX4_set_104 (by unfold fnX4_set; (try dsimp only); rw [if_neg h1]; rw [if_neg h2]; rw [if_pos h3]; rw [if_neg h4]; rw [if_neg h6]; rw [if_pos h8]; rw [← q9]; (try dsimp only); (try exact rfl))
          by_cases h10 : (a0 - (6 : Int32)) = (2 : Int32)
          · refine gq (D := D) (j := 2) (x := ad 17) hx hb hK hP 14 2 rfl rfl (by rw [h10]; exact inL (by decide)) (by rw [h10]; decide) rfl dX4_set_88 ?_
            refine lv_lload_n hx hb dX4_set_89 rfl (lv_at hl 2 rfl) ?_
            refine kVv (As := [.long (a1)]) (rest := []) (W' := (fun u11 => (wR cI cJ cP ad (x.1, x.2.1, x.2.2.1, (x.2.2.2.1.1, x.2.2.2.1.2.1, u11, x.2.2.2.1.2.2.2), x.2.2.2.2.1, x.2.2.2.2.2.1, x.2.2.2.2.2.2.1, x.2.2.2.2.2.2.2)))) hx hb hml hown hG hl (okX2_takeFrom l D cI cJ cP (ad 17) H.size x.2.2.2.1.2.2.1 a1 hI.2.2.2.1.2.2.1) (cV 1 hG kw154 kw155 kw156 kw157 kw99 hdX2_takeFrom ⟨by decide, by decide⟩) 17 2 rfl rfl hK hP hD hS hA hN [17] rfl rfl rfl (fun _ => rfl) (fun _ => rfl) rfl rfl (Nat.le_of_ble_eq_true rfl) dX4_set_90 ⟨Nat.zero_le _, Nat.zero_le _⟩ (fun u11 q11 H locs hP hD hS => ?_)
            have j11 : ivX2_takeFromP u11 := by rw [q11]; exact ivX2_takeFrom x.2.2.2.1.2.2.1 a1 hI.2.2.2.1.2.2.1
            refine lv_goto (tgt := 104) hx hb dX4_set_93 (by decide) ?_
            exact retv (u := (x.1, x.2.1, x.2.2.1, (x.2.2.2.1.1, x.2.2.2.1.2.1, u11, x.2.2.2.1.2.2.2), x.2.2.2.2.1, x.2.2.2.2.2.1, x.2.2.2.2.2.2.1, x.2.2.2.2.2.2.2)) hx hb hr hlocks hK hP hD hS dX4_set_104 (by unfold fnX4_set; (try dsimp only); rw [if_neg h1]; rw [if_neg h2]; rw [if_pos h3]; rw [if_neg h4]; rw [if_neg h6]; rw [if_neg h8]; rw [if_pos h10]; rw [← q11]; (try dsimp only); (try exact rfl))
          have h12 : (a0 - (6 : Int32)) = (3 : Int32) := c4l (kp g0 (Int32.not_le.mpr h3) (Int32.not_lt.mp h4)) h6 h8 h10
          refine gq (D := D) (j := 3) (x := ad 18) hx hb hK hP 14 2 rfl rfl (by rw [h12]; exact inL (by decide)) (by rw [h12]; decide) rfl dX4_set_88 ?_
          refine lv_lload_n hx hb dX4_set_89 rfl (lv_at hl 2 rfl) ?_
          refine kVv (As := [.long (a1)]) (rest := []) (W' := (fun u13 => (wR cI cJ cP ad (x.1, x.2.1, x.2.2.1, (x.2.2.2.1.1, x.2.2.2.1.2.1, x.2.2.2.1.2.2.1, u13), x.2.2.2.2.1, x.2.2.2.2.2.1, x.2.2.2.2.2.2.1, x.2.2.2.2.2.2.2)))) hx hb hml hown hG hl (okX2_takeFrom l D cI cJ cP (ad 18) H.size x.2.2.2.1.2.2.2 a1 hI.2.2.2.1.2.2.2) (cV 1 hG kw154 kw155 kw156 kw157 kw99 hdX2_takeFrom ⟨by decide, by decide⟩) 18 2 rfl rfl hK hP hD hS hA hN [18] rfl rfl rfl (fun _ => rfl) (fun _ => rfl) rfl rfl (Nat.le_of_ble_eq_true rfl) dX4_set_90 ⟨Nat.zero_le _, Nat.zero_le _⟩ (fun u13 q13 H locs hP hD hS => ?_)
          have j13 : ivX2_takeFromP u13 := by rw [q13]; exact ivX2_takeFrom x.2.2.2.1.2.2.2 a1 hI.2.2.2.1.2.2.2
          refine lv_goto (tgt := 104) hx hb dX4_set_93 (by decide) ?_
          exact retv (u := (x.1, x.2.1, x.2.2.1, (x.2.2.2.1.1, x.2.2.2.1.2.1, x.2.2.2.1.2.2.1, u13), x.2.2.2.2.1, x.2.2.2.2.2.1, x.2.2.2.2.2.2.1, x.2.2.2.2.2.2.2)) hx hb hr hlocks hK hP hD hS dX4_set_104 (by unfold fnX4_set; (try dsimp only); rw [if_neg h1]; rw [if_neg h2]; rw [if_pos h3]; rw [if_neg h4]; rw [if_neg h6]; rw [if_neg h8]; rw [if_neg h10]; rw [← q13]; (try dsimp only); (try exact rfl))
      · refine lv_aload_n hx hb dX4_set_56 rfl (lv_at hl 0 rfl) ?_
        refine va_get (D := D) (ci := 4) (v := .ref (ad 13)) hx hb hG inX4 hown hK hP 0 rfl rfl 3 (by decide) (hG _ kw134) (fun _ h9 => h9) rfl dX4_set_57 ?_
        refine lv_iload_n hx hb dX4_set_60 rfl (lv_at hl 1 rfl) ?_
        refine lv_iconst (v := 2) hx hb dX4_set_61 (by decide) ?_
        refine lv_isub hx hb dX4_set_62 ?_
        refine lv_lload_n hx hb dX4_set_63 rfl (lv_at hl 2 rfl) ?_
        refine lv_iconst (v := 0) hx hb dX4_set_64 (by decide) ?_
        refine lv_bipush (v := 12) hx hb dX4_set_65 (by decide) ?_
        refine k0Si (As := [.long (a1), .int ((0 : Int32)), .int ((12 : Int32))]) (rest := [.int ((a0 - (2 : Int32))), .ref (ad 13)]) hx hb hml hown hG hl (okX4_field l D cI cJ cP  H.size a1 (0 : Int32) (12 : Int32) ) (cS 3 hG kw4 kw135 kw6 kw5 hdX4_field ⟨by decide, by decide⟩) hK hP hD hS hA hN rfl rfl (Nat.le_of_ble_eq_true rfl) dX4_set_67 ⟨Nat.zero_le _, Nat.zero_le _⟩ (fun r14 q14 H locs hP hD hS => ?_)
        have j14 : i12 r14 := by rw [q14]; exact (f12X a1 (0 : Int32))
        refine si (D := D) (j := ((a0 - (2 : Int32))).toNatClampNeg) (f := x.2.2.1) (x := r14) (W' := (wR cI cJ cP ad (x.1, x.2.1, (upd x.2.2.1 ((a0 - (2 : Int32))).toNatClampNeg r14), x.2.2.2.1, x.2.2.2.2.1, x.2.2.2.2.2.1, x.2.2.2.2.2.2.1, x.2.2.2.2.2.2.2))) hx hb hK hP hD hS 13 0 rfl rfl (in2 (kx g0 h1 h2 (Int32.not_lt.mp h3))) rfl dX4_set_70 rfl (fun H locs hP hD hS => ?_)
        refine lv_goto (tgt := 104) hx hb dX4_set_71 (by decide) ?_
        exact retv (u := (x.1, x.2.1, (upd x.2.2.1 ((a0 - (2 : Int32))).toNatClampNeg r14), x.2.2.2.1, x.2.2.2.2.1, x.2.2.2.2.2.1, x.2.2.2.2.2.2.1, x.2.2.2.2.2.2.2)) hx hb hr hlocks hK hP hD hS dX4_set_104 (by unfold fnX4_set; (try dsimp only); rw [if_neg h1]; rw [if_neg h2]; rw [if_neg h3]; rw [← q14]; (try dsimp only); (try exact rfl))
    · refine lv_aload_n hx hb dX4_set_39 rfl (lv_at hl 0 rfl) ?_
      refine lv_lload_n hx hb dX4_set_40 rfl (lv_at hl 2 rfl) ?_
      refine lv_ldc2 (v := 68719476735) hx hb hown (hG _ kw133) dX4_set_41 ?_
      refine lv_land hx hb dX4_set_44 ?_
      refine pu (D := D) (ci := 4) (v := .long ((a1 &&& (68719476735 : Int64)))) (ty := .long) (W' := (wR cI cJ cP ad ((x.1.1, (a1 &&& (68719476735 : Int64))), x.2.1, x.2.2.1, x.2.2.2.1, x.2.2.2.2.1, x.2.2.2.2.2.1, x.2.2.2.2.2.2.1, x.2.2.2.2.2.2.2))) hx hb hG inX4 tyX4 tyokX4 nmX4 hown hK hP hD hS 0 rfl rfl 2 (by decide) (hG _ kw91) (fun _ h9 => h9) rfl (by decide +kernel) rfl rfl (Nat.le_of_ble_eq_true rfl) dX4_set_45 rfl (fun H locs hP hD hS => ?_)
      refine lv_goto (tgt := 104) hx hb dX4_set_48 (by decide) ?_
      exact retv (u := ((x.1.1, (a1 &&& (68719476735 : Int64))), x.2.1, x.2.2.1, x.2.2.2.1, x.2.2.2.2.1, x.2.2.2.2.2.1, x.2.2.2.2.2.2.1, x.2.2.2.2.2.2.2)) hx hb hr hlocks hK hP hD hS dX4_set_104 (by unfold fnX4_set; (try dsimp only); rw [if_neg h1]; rw [if_pos h2]; (try exact rfl))
  · refine lv_aload_n hx hb dX4_set_22 rfl (lv_at hl 0 rfl) ?_
    refine lv_lload_n hx hb dX4_set_23 rfl (lv_at hl 2 rfl) ?_
    refine lv_ldc2 (v := 68719476735) hx hb hown (hG _ kw133) dX4_set_24 ?_
    refine lv_land hx hb dX4_set_27 ?_
    refine pu (D := D) (ci := 4) (v := .long ((a1 &&& (68719476735 : Int64)))) (ty := .long) (W' := (wR cI cJ cP ad (((a1 &&& (68719476735 : Int64)), x.1.2), x.2.1, x.2.2.1, x.2.2.2.1, x.2.2.2.2.1, x.2.2.2.2.2.1, x.2.2.2.2.2.2.1, x.2.2.2.2.2.2.2))) hx hb hG inX4 tyX4 tyokX4 nmX4 hown hK hP hD hS 0 rfl rfl 1 (by decide) (hG _ kw90) (fun _ h9 => h9) rfl (by decide +kernel) rfl rfl (Nat.le_of_ble_eq_true rfl) dX4_set_28 rfl (fun H locs hP hD hS => ?_)
    refine lv_goto (tgt := 104) hx hb dX4_set_31 (by decide) ?_
    exact retv (u := (((a1 &&& (68719476735 : Int64)), x.1.2), x.2.1, x.2.2.1, x.2.2.2.1, x.2.2.2.2.1, x.2.2.2.2.2.1, x.2.2.2.2.2.2.1, x.2.2.2.2.2.2.2)) hx hb hr hlocks hK hP hD hS dX4_set_104 (by unfold fnX4_set; (try dsimp only); rw [if_pos h1]; (try exact rfl))
def fnX4_get (x : TR) (a0 : Int32) : Int64 :=
  if a0 = (0 : Int32) then
   x.1.1
  else
   if a0 = (1 : Int32) then
    x.1.2
   else
    if (5 : Int32) < a0 then
     if (9 : Int32) < a0 then
      let p5 := fnX2_asWord x.2.2.2.2.1
      p5
     else
      if (a0 - (6 : Int32)) = (0 : Int32) then
       let p7 := fnX2_asWord x.2.2.2.1.1
       p7
      else
       if (a0 - (6 : Int32)) = (1 : Int32) then
        let p9 := fnX2_asWord x.2.2.2.1.2.1
        p9
       else
        if (a0 - (6 : Int32)) = (2 : Int32) then
         let p11 := fnX2_asWord x.2.2.2.1.2.2.1
         p11
        else
         let p13 := fnX2_asWord x.2.2.2.1.2.2.2
         p13
    else
     ((x.2.2.1 ((a0 - (2 : Int32))).toNatClampNeg)).toInt64
set_option maxRecDepth 100000 in
set_option maxHeartbeats 4000000 in
theorem okX4_get (l : Launch) (D : va_G) (cI cJ cP : ClassId) (ad : Nat → Nat) (sz : Nat) (x : TR) (a0 : Int32) (hI : iR x) (g0 : i10 a0) : Met l yX4_get (Cond.code yX4_get cX4_get 2 (some .long) :: gG) { frames := 1, cells := 0, slots := 0, locals := 20 } (va_Pc [.ref (ad 0), .int a0] (PRE D (tz cI cJ cP) sz (wR cI cJ cP ad x))) (va_Ql (fun (r : Int64) (_ : Unit) => r = fnX4_get x a0) (AT D (tz cI cJ cP) (va_A (wR cI cJ cP ad x) sz) (fun (_ : Unit) => (wR cI cJ cP ad x))) (va_A (wR cI cJ cP ad x) sz)) 0 0 (va_A (wR cI cJ cP ad x) sz) := by
  refine mo (QA := fun A => va_Ql (fun (r : Int64) (_ : Unit) => r = fnX4_get x a0) (AT D (tz cI cJ cP) A (fun (_ : Unit) => (wR cI cJ cP ad x))) A) (by decide) (Nat.le_of_ble_eq_true rfl) ?_
  intro p e s m below meth c A ls H hx hb hr hml hown hG hlocks hnm hA hS hP hK hD hl hN
  have hown : s.vm.findClass RX4 = some m.cls := hown
  have hl : lv_has ls 2 [(0, .ref (ad 0)), (1, .int a0)] := hl
  refine lv_iload_n hx hb dX4_get_0 rfl (lv_at hl 1 rfl) ?_
  refine lv_if_lt (tgt := 10) hx hb dX4_get_1 (by decide) (fun h9 => absurd h9 (nn_i10 g0)) (fun _ => ?_)
  refine lv_iload_n hx hb dX4_get_4 rfl (lv_at hl 1 rfl) ?_
  refine lv_bipush (v := 10) hx hb dX4_get_5 (by decide) ?_
  refine lv_icmp_le (tgt := 18) hx hb dX4_get_7 (by decide) (fun _ => ?_) (fun h9 => absurd (leK_i10 g0 (by decide)) h9)
  refine lv_iload_n hx hb dX4_get_18 rfl (lv_at hl 1 rfl) ?_
  refine lv_if_ne (tgt := 27) hx hb dX4_get_19 (by decide) (fun h1 => ?_) (fun h1 => ?_)
  · refine lv_iload_n hx hb dX4_get_27 rfl (lv_at hl 1 rfl) ?_
    refine lv_iconst (v := 1) hx hb dX4_get_28 (by decide) ?_
    refine lv_icmp_ne (tgt := 37) hx hb dX4_get_29 (by decide) (fun h2 => ?_) (fun h2 => ?_)
    · refine lv_iload_n hx hb dX4_get_37 rfl (lv_at hl 1 rfl) ?_
      refine lv_iconst (v := 5) hx hb dX4_get_38 (by decide) ?_
      refine lv_icmp_gt (tgt := 52) hx hb dX4_get_39 (by decide) (fun h3 => ?_) (fun h3 => ?_)
      · refine lv_iload_n hx hb dX4_get_52 rfl (lv_at hl 1 rfl) ?_
        refine lv_bipush (v := 9) hx hb dX4_get_53 (by decide) ?_
        refine lv_icmp_gt (tgt := 73) hx hb dX4_get_55 (by decide) (fun h4 => ?_) (fun h4 => ?_)
        · refine lv_aload_n hx hb dX4_get_73 rfl (lv_at hl 0 rfl) ?_
          refine va_get (D := D) (ci := 4) (v := .ref (ad 19)) hx hb hG inX4 hown hK hP 0 rfl rfl 5 (by decide) (hG _ kw87) (fun _ h9 => h9) rfl dX4_get_74 ?_
          refine kVl (As := []) (rest := []) (W' := (fun _ => (wR cI cJ cP ad x))) hx hb hml hown hG hl (okX2_asWord l D cI cJ cP (ad 19) H.size x.2.2.2.2.1 hI.2.2.2.2.1) (cV 0 hG kw181 kw182 kw183 kw184 kw99 hdX2_asWord ⟨by decide, by decide⟩) 19 2 rfl rfl hK hP hD hS hA hN [19] rfl rfl rfl (fun _ => rfl) (fun _ => rfl) rfl rfl (Nat.le_of_ble_eq_true rfl) dX4_get_77 ⟨Nat.zero_le _, Nat.zero_le _⟩ (fun r5 _ q5 H locs hP hD hS => ?_)
          have j5 : ivX2_asWordP r5 := by rw [q5]; exact ivX2_asWord x.2.2.2.2.1 hI.2.2.2.2.1
          exact retl (u := ()) hx hb hr hlocks hK hP hD hS dX4_get_80 (by unfold fnX4_get; (try dsimp only); rw [if_neg h1]; rw [if_neg h2]; rw [if_pos h3]; rw [if_pos h4]; rw [← q5]; (try dsimp only); (try exact rfl))
        · refine lv_aload_n hx hb dX4_get_58 rfl (lv_at hl 0 rfl) ?_
          refine va_get (D := D) (ci := 4) (v := .ref (ad 14)) hx hb hG inX4 hown hK hP 0 rfl rfl 4 (by decide) (hG _ kw149) (fun _ h9 => h9) rfl dX4_get_59 ?_
          refine lv_iload_n hx hb dX4_get_62 rfl (lv_at hl 1 rfl) ?_
          refine lv_bipush (v := 6) hx hb dX4_get_63 (by decide) ?_
          refine lv_isub hx hb dX4_get_65 ?_
          by_cases h6 : (a0 - (6 : Int32)) = (0 : Int32)
          · refine gq (D := D) (j := 0) (x := ad 15) hx hb hK hP 14 2 rfl rfl (by rw [h6]; exact inL (by decide)) (by rw [h6]; decide) rfl dX4_get_66 ?_
            refine kVl (As := []) (rest := []) (W' := (fun _ => (wR cI cJ cP ad x))) hx hb hml hown hG hl (okX2_asWord l D cI cJ cP (ad 15) H.size x.2.2.2.1.1 hI.2.2.2.1.1) (cV 0 hG kw181 kw182 kw183 kw184 kw99 hdX2_asWord ⟨by decide, by decide⟩) 15 2 rfl rfl hK hP hD hS hA hN [15] rfl rfl rfl (fun _ => rfl) (fun _ => rfl) rfl rfl (Nat.le_of_ble_eq_true rfl) dX4_get_67 ⟨Nat.zero_le _, Nat.zero_le _⟩ (fun r7 _ q7 H locs hP hD hS => ?_)
            have j7 : ivX2_asWordP r7 := by rw [q7]; exact ivX2_asWord x.2.2.2.1.1 hI.2.2.2.1.1
            refine lv_goto (tgt := 80) hx hb dX4_get_70 (by decide) ?_
            exact retl (u := ()) hx hb hr hlocks hK hP hD hS dX4_get_80 (by unfold fnX4_get; (try dsimp only); rw [if_neg h1]; rw [if_neg h2]; rw [if_pos h3]; rw [if_neg h4]; rw [if_pos h6]; rw [← q7]; (try dsimp only); (try exact rfl))
          by_cases h8 : (a0 - (6 : Int32)) = (1 : Int32)
          · refine gq (D := D) (j := 1) (x := ad 16) hx hb hK hP 14 2 rfl rfl (by rw [h8]; exact inL (by decide)) (by rw [h8]; decide) rfl dX4_get_66 ?_
            refine kVl (As := []) (rest := []) (W' := (fun _ => (wR cI cJ cP ad x))) hx hb hml hown hG hl (okX2_asWord l D cI cJ cP (ad 16) H.size x.2.2.2.1.2.1 hI.2.2.2.1.2.1) (cV 0 hG kw181 kw182 kw183 kw184 kw99 hdX2_asWord ⟨by decide, by decide⟩) 16 2 rfl rfl hK hP hD hS hA hN [16] rfl rfl rfl (fun _ => rfl) (fun _ => rfl) rfl rfl (Nat.le_of_ble_eq_true rfl) dX4_get_67 ⟨Nat.zero_le _, Nat.zero_le _⟩ (fun r9 _ q9 H locs hP hD hS => ?_)
            have j9 : ivX2_asWordP r9 := by rw [q9]; exact ivX2_asWord x.2.2.2.1.2.1 hI.2.2.2.1.2.1
            refine lv_goto (tgt := 80) hx hb dX4_get_70 (by decide) ?_
            exact retl (u := ()) hx hb hr hlocks hK hP hD hS dX4_get_80 (by unfold fnX4_get; (try dsimp only); rw [if_neg h1]; rw [if_neg h2]; rw [if_pos h3]; rw [if_neg h4]; rw [if_neg h6]; rw [if_pos h8]; rw [← q9]; (try dsimp only); (try exact rfl))
          by_cases h10 : (a0 - (6 : Int32)) = (2 : Int32)
          · refine gq (D := D) (j := 2) (x := ad 17) hx hb hK hP 14 2 rfl rfl (by rw [h10]; exact inL (by decide)) (by rw [h10]; decide) rfl dX4_get_66 ?_
            refine kVl (As := []) (rest := []) (W' := (fun _ => (wR cI cJ cP ad x))) hx hb hml hown hG hl (okX2_asWord l D cI cJ cP (ad 17) H.size x.2.2.2.1.2.2.1 hI.2.2.2.1.2.2.1) (cV 0 hG kw181 kw182 kw183 kw184 kw99 hdX2_asWord ⟨by decide, by decide⟩) 17 2 rfl rfl hK hP hD hS hA hN [17] rfl rfl rfl (fun _ => rfl) (fun _ => rfl) rfl rfl (Nat.le_of_ble_eq_true rfl) dX4_get_67 ⟨Nat.zero_le _, Nat.zero_le _⟩ (fun r11 _ q11 H locs hP hD hS => ?_)
            have j11 : ivX2_asWordP r11 := by rw [q11]; exact ivX2_asWord x.2.2.2.1.2.2.1 hI.2.2.2.1.2.2.1
            refine lv_goto (tgt := 80) hx hb dX4_get_70 (by decide) ?_
            exact retl (u := ()) hx hb hr hlocks hK hP hD hS dX4_get_80 (by unfold fnX4_get; (try dsimp only); rw [if_neg h1]; rw [if_neg h2]; rw [if_pos h3]; rw [if_neg h4]; rw [if_neg h6]; rw [if_neg h8]; rw [if_pos h10]; rw [← q11]; (try dsimp only); (try exact rfl))
          have h12 : (a0 - (6 : Int32)) = (3 : Int32) := c4l (kp g0 (Int32.not_le.mpr h3) (Int32.not_lt.mp h4)) h6 h8 h10
          refine gq (D := D) (j := 3) (x := ad 18) hx hb hK hP 14 2 rfl rfl (by rw [h12]; exact inL (by decide)) (by rw [h12]; decide) rfl dX4_get_66 ?_
          refine kVl (As := []) (rest := []) (W' := (fun _ => (wR cI cJ cP ad x))) hx hb hml hown hG hl (okX2_asWord l D cI cJ cP (ad 18) H.size x.2.2.2.1.2.2.2 hI.2.2.2.1.2.2.2) (cV 0 hG kw181 kw182 kw183 kw184 kw99 hdX2_asWord ⟨by decide, by decide⟩) 18 2 rfl rfl hK hP hD hS hA hN [18] rfl rfl rfl (fun _ => rfl) (fun _ => rfl) rfl rfl (Nat.le_of_ble_eq_true rfl) dX4_get_67 ⟨Nat.zero_le _, Nat.zero_le _⟩ (fun r13 _ q13 H locs hP hD hS => ?_)
          have j13 : ivX2_asWordP r13 := by rw [q13]; exact ivX2_asWord x.2.2.2.1.2.2.2 hI.2.2.2.1.2.2.2
          refine lv_goto (tgt := 80) hx hb dX4_get_70 (by decide) ?_
          exact retl (u := ()) hx hb hr hlocks hK hP hD hS dX4_get_80 (by unfold fnX4_get; (try dsimp only); rw [if_neg h1]; rw [if_neg h2]; rw [if_pos h3]; rw [if_neg h4]; rw [if_neg h6]; rw [if_neg h8]; rw [if_neg h10]; rw [← q13]; (try dsimp only); (try exact rfl))
      · refine lv_aload_n hx hb dX4_get_42 rfl (lv_at hl 0 rfl) ?_
        refine va_get (D := D) (ci := 4) (v := .ref (ad 13)) hx hb hG inX4 hown hK hP 0 rfl rfl 3 (by decide) (hG _ kw134) (fun _ h9 => h9) rfl dX4_get_43 ?_
        refine lv_iload_n hx hb dX4_get_46 rfl (lv_at hl 1 rfl) ?_
        refine lv_iconst (v := 2) hx hb dX4_get_47 (by decide) ?_
        refine lv_isub hx hb dX4_get_48 ?_
        refine gi (D := D) (j := ((a0 - (2 : Int32))).toNatClampNeg) (f := x.2.2.1) hx hb hK hP 13 0 rfl rfl (in2 (kx g0 h1 h2 (Int32.not_lt.mp h3))) rfl dX4_get_49 ?_
        refine lv_i2l hx hb dX4_get_50 rfl ?_
        exact retl (u := ()) hx hb hr hlocks hK hP hD hS dX4_get_51 (by unfold fnX4_get; (try dsimp only); rw [if_neg h1]; rw [if_neg h2]; rw [if_neg h3]; (try exact rfl))
    · refine lv_aload_n hx hb dX4_get_32 rfl (lv_at hl 0 rfl) ?_
      refine va_get (D := D) (ci := 4) (v := .long (x.1.2)) hx hb hG inX4 hown hK hP 0 rfl rfl 2 (by decide) (hG _ kw91) (fun _ h9 => h9) rfl dX4_get_33 ?_
      exact retl (u := ()) hx hb hr hlocks hK hP hD hS dX4_get_36 (by unfold fnX4_get; (try dsimp only); rw [if_neg h1]; rw [if_pos h2]; (try exact rfl))
  · refine lv_aload_n hx hb dX4_get_22 rfl (lv_at hl 0 rfl) ?_
    refine va_get (D := D) (ci := 4) (v := .long (x.1.1)) hx hb hG inX4 hown hK hP 0 rfl rfl 1 (by decide) (hG _ kw90) (fun _ h9 => h9) rfl dX4_get_23 ?_
    exact retl (u := ()) hx hb hr hlocks hK hP hD hS dX4_get_26 (by unfold fnX4_get; (try dsimp only); rw [if_pos h1]; (try exact rfl))
def fnX4_interrupt (x : TR) (a0 : Int32) : TR :=
  (x.1, (x.2.1.1, x.2.1.2.1, x.2.1.2.2.1, x.2.1.2.2.2.1, x.2.1.2.2.2.2.1, x.2.1.2.2.2.2.2.1, (x.2.1.2.2.2.2.2.2 ||| ((1 : Int32) <<< (a0 &&& 31)))), x.2.2.1, x.2.2.2.1, x.2.2.2.2.1, x.2.2.2.2.2.1, x.2.2.2.2.2.2.1, x.2.2.2.2.2.2.2)
abbrev ivX4_interruptP (z : TR) : Prop := iR z
set_option maxRecDepth 100000 in
set_option maxHeartbeats 4000000 in
theorem ivX4_interrupt (x : TR) (a0 : Int32) (hI : iR x) (g0 : i2 a0) : ivX4_interruptP (fnX4_interrupt x a0) := by
  unfold fnX4_interrupt
  try dsimp only
  exact ⟨hI.1, (askp hI.2.1 g0), hI.2.2.1, hI.2.2.2.1, hI.2.2.2.2.1, hI.2.2.2.2.2.1, hI.2.2.2.2.2.2.1, hI.2.2.2.2.2.2.2⟩
set_option maxRecDepth 100000 in
set_option maxHeartbeats 4000000 in
theorem okX4_interrupt (l : Launch) (D : va_G) (cI cJ cP : ClassId) (ad : Nat → Nat) (sz : Nat) (x : TR) (a0 : Int32) (hI : iR x) (g0 : i2 a0) : Met l yX4_interrupt (Cond.code yX4_interrupt cX4_interrupt 2 none :: gG) { frames := 0, cells := 0, slots := 0, locals := 0 } (va_Pc [.ref (ad 0), .int a0] (PRE D (tz cI cJ cP) sz (wR cI cJ cP ad x))) (va_Qv (fun (u : TR) => u = fnX4_interrupt x a0) (AT D (tz cI cJ cP) (va_A (wR cI cJ cP ad x) sz) (fun (u : TR) => (wR cI cJ cP ad u))) (va_A (wR cI cJ cP ad x) sz)) 0 0 (va_A (wR cI cJ cP ad x) sz) := by
  refine mo (QA := fun A => va_Qv (fun (u : TR) => u = fnX4_interrupt x a0) (AT D (tz cI cJ cP) A (fun (u : TR) => (wR cI cJ cP ad u))) A) (by decide) (Nat.le_of_ble_eq_true rfl) ?_
  intro p e s m below meth c A ls H hx hb hr hml hown hG hlocks hnm hA hS hP hK hD hl hN
  have hown : s.vm.findClass RX4 = some m.cls := hown
  have hl : lv_has ls 2 [(0, .ref (ad 0)), (1, .int a0)] := hl
  refine lv_iload_n hx hb dX4_interrupt_0 rfl (lv_at hl 1 rfl) ?_
  refine lv_if_lt (tgt := 9) hx hb dX4_interrupt_1 (by decide) (fun h9 => absurd h9 (nn_i2 g0)) (fun _ => ?_)
  refine lv_iload_n hx hb dX4_interrupt_4 rfl (lv_at hl 1 rfl) ?_
  refine lv_iconst (v := 3) hx hb dX4_interrupt_5 (by decide) ?_
  refine lv_icmp_le (tgt := 17) hx hb dX4_interrupt_6 (by decide) (fun _ => ?_) (fun h9 => absurd (leK_i2 g0 (by decide)) h9)
  refine lv_aload_n hx hb dX4_interrupt_17 rfl (lv_at hl 0 rfl) ?_
  refine lv_dup hx hb dX4_interrupt_18 rfl ?_
  refine va_get (D := D) (ci := 4) (v := .int (x.2.1.2.2.2.2.2.2)) hx hb hG inX4 hown hK hP 0 rfl rfl 14 (by decide) (hG _ kw159) (fun _ h9 => h9) rfl dX4_interrupt_19 ?_
  refine lv_iconst (v := 1) hx hb dX4_interrupt_22 (by decide) ?_
  refine lv_iload_n hx hb dX4_interrupt_23 rfl (lv_at hl 1 rfl) ?_
  refine lv_ishl hx hb dX4_interrupt_24 ?_
  refine lv_ior hx hb dX4_interrupt_25 ?_
  refine pu (D := D) (ci := 4) (v := .int ((x.2.1.2.2.2.2.2.2 ||| ((1 : Int32) <<< (a0 &&& 31))))) (ty := .int) (W' := (wR cI cJ cP ad (x.1, (x.2.1.1, x.2.1.2.1, x.2.1.2.2.1, x.2.1.2.2.2.1, x.2.1.2.2.2.2.1, x.2.1.2.2.2.2.2.1, (x.2.1.2.2.2.2.2.2 ||| ((1 : Int32) <<< (a0 &&& 31)))), x.2.2.1, x.2.2.2.1, x.2.2.2.2.1, x.2.2.2.2.2.1, x.2.2.2.2.2.2.1, x.2.2.2.2.2.2.2))) hx hb hG inX4 tyX4 tyokX4 nmX4 hown hK hP hD hS 0 rfl rfl 14 (by decide) (hG _ kw159) (fun _ h9 => h9) rfl (by decide +kernel) rfl rfl (Nat.le_of_ble_eq_true rfl) dX4_interrupt_26 rfl (fun H locs hP hD hS => ?_)
  exact retv (u := (x.1, (x.2.1.1, x.2.1.2.1, x.2.1.2.2.1, x.2.1.2.2.2.1, x.2.1.2.2.2.2.1, x.2.1.2.2.2.2.2.1, (x.2.1.2.2.2.2.2.2 ||| ((1 : Int32) <<< (a0 &&& 31)))), x.2.2.1, x.2.2.2.1, x.2.2.2.2.1, x.2.2.2.2.2.1, x.2.2.2.2.2.2.1, x.2.2.2.2.2.2.2)) hx hb hr hlocks hK hP hD hS dX4_interrupt_29 (by unfold fnX4_interrupt; (try exact rfl))
def fnX4_reach (x : TR) (a0 : Int32) (a1 : Int32) (a2 : Int32) (a3 : Int32) : Int32 × TR :=
  let p1 := fnX3_locate x.2.2.2.2.2.2.2 a0 a1 a2 a3 (0 : Int32)
  (p1.1, (x.1, x.2.1, x.2.2.1, x.2.2.2.1, x.2.2.2.2.1, x.2.2.2.2.2.1, x.2.2.2.2.2.2.1, p1.2))
abbrev ivX4_reachP (z : Int32 × TR) : Prop := iR z.2
set_option maxRecDepth 100000 in
set_option maxHeartbeats 4000000 in
theorem ivX4_reach (x : TR) (a0 : Int32) (a1 : Int32) (a2 : Int32) (a3 : Int32) (hI : iR x) (g0 : i4 a0) (g1 : i12 a1) (g2 : i3 a2) (g3 : iw a3) : ivX4_reachP (fnX4_reach x a0 a1 a2 a3) := by
  unfold fnX4_reach
  try dsimp only
  have j1 : ivX3_locateP (fnX3_locate x.2.2.2.2.2.2.2 a0 a1 a2 a3 (0 : Int32)) := ivX3_locate x.2.2.2.2.2.2.2 a0 a1 a2 a3 (0 : Int32) hI.2.2.2.2.2.2.2 g0 g1
  generalize fnX3_locate x.2.2.2.2.2.2.2 a0 a1 a2 a3 (0 : Int32) = p1 at j1 ⊢
  exact ⟨hI.1, hI.2.1, hI.2.2.1, hI.2.2.2.1, hI.2.2.2.2.1, hI.2.2.2.2.2.1, hI.2.2.2.2.2.2.1, j1.2⟩
set_option maxRecDepth 100000 in
set_option maxHeartbeats 4000000 in
theorem okX4_reach (l : Launch) (D : va_G) (cI cJ cP : ClassId) (ad : Nat → Nat) (sz : Nat) (x : TR) (a0 : Int32) (a1 : Int32) (a2 : Int32) (a3 : Int32) (hI : iR x) (g0 : i4 a0) (g1 : i12 a1) (g2 : i3 a2) (g3 : iw a3) : Met l yX4_reach (Cond.code yX4_reach cX4_reach 5 (some .int) :: gG) { frames := 3, cells := 0, slots := 0, locals := 82 } (va_Pc [.ref (ad 0), .int a0, .int a1, .int a2, .int a3] (PRE D (tz cI cJ cP) sz (wR cI cJ cP ad x))) (va_Qi (fun (r : Int32) (u : TR) => (r, u) = fnX4_reach x a0 a1 a2 a3) (AT D (tz cI cJ cP) (va_A (wR cI cJ cP ad x) sz) (fun (u : TR) => (wR cI cJ cP ad u))) (va_A (wR cI cJ cP ad x) sz)) 0 0 (va_A (wR cI cJ cP ad x) sz) := by
  refine mo (QA := fun A => va_Qi (fun (r : Int32) (u : TR) => (r, u) = fnX4_reach x a0 a1 a2 a3) (AT D (tz cI cJ cP) A (fun (u : TR) => (wR cI cJ cP ad u))) A) (by decide) (Nat.le_of_ble_eq_true rfl) ?_
  intro p e s m below meth c A ls H hx hb hr hml hown hG hlocks hnm hA hS hP hK hD hl hN
  have hown : s.vm.findClass RX4 = some m.cls := hown
  have hl : lv_has ls 5 [(0, .ref (ad 0)), (1, .int a0), (2, .int a1), (3, .int a2), (4, .int a3)] := hl
  refine lv_iload_n hx hb dX4_reach_0 rfl (lv_at hl 1 rfl) ?_
  refine lv_if_lt (tgt := 10) hx hb dX4_reach_1 (by decide) (fun h9 => absurd h9 (nn_i4 g0)) (fun _ => ?_)
  refine lv_iload_n hx hb dX4_reach_4 rfl (lv_at hl 1 rfl) ?_
  refine lv_bipush (v := 15) hx hb dX4_reach_5 (by decide) ?_
  refine lv_icmp_le (tgt := 18) hx hb dX4_reach_7 (by decide) (fun _ => ?_) (fun h9 => absurd (leK_i4 g0 (by decide)) h9)
  refine lv_iload_n hx hb dX4_reach_18 rfl (lv_at hl 3 rfl) ?_
  refine lv_if_lt (tgt := 50) hx hb dX4_reach_19 (by decide) (fun h9 => absurd h9 (nn_i3 g2)) (fun _ => ?_)
  refine lv_iload_n hx hb dX4_reach_22 rfl (lv_at hl 3 rfl) ?_
  refine lv_bipush (v := 7) hx hb dX4_reach_23 (by decide) ?_
  refine lv_icmp_gt (tgt := 50) hx hb dX4_reach_25 (by decide) (fun h9 => absurd h9 (Int32.not_lt.mpr (leK_i3 g2 (by decide)))) (fun _ => ?_)
  refine lv_iload_n hx hb dX4_reach_28 rfl (lv_at hl 2 rfl) ?_
  refine lv_if_lt (tgt := 50) hx hb dX4_reach_29 (by decide) (fun h9 => absurd h9 (nn_i12 g1)) (fun _ => ?_)
  refine lv_iload_n hx hb dX4_reach_32 rfl (lv_at hl 2 rfl) ?_
  refine lv_sipush (v := 4095) hx hb dX4_reach_33 (by decide) ?_
  refine lv_icmp_gt (tgt := 50) hx hb dX4_reach_36 (by decide) (fun h9 => absurd h9 (Int32.not_lt.mpr (leK_i12 g1 (by decide)))) (fun _ => ?_)
  refine lv_iload hx hb dX4_reach_39 (lv_at hl 4 rfl) ?_
  refine lv_if_lt (tgt := 50) hx hb dX4_reach_41 (by decide) (fun h9 => absurd h9 (nn_iw g3)) (fun _ => ?_)
  refine lv_iload hx hb dX4_reach_44 (lv_at hl 4 rfl) ?_
  refine lv_iconst (v := 2) hx hb dX4_reach_46 (by decide) ?_
  refine lv_icmp_le (tgt := 58) hx hb dX4_reach_47 (by decide) (fun _ => ?_) (fun h9 => absurd (leK_iw g3 (by decide)) h9)
  refine lv_aload_n hx hb dX4_reach_58 rfl (lv_at hl 0 rfl) ?_
  refine va_get (D := D) (ci := 4) (v := .ref (ad 1)) hx hb hG inX4 hown hK hP 0 rfl rfl 0 (by decide) (hG _ kw104) (fun _ h9 => h9) rfl dX4_reach_59 ?_
  refine lv_iload_n hx hb dX4_reach_62 rfl (lv_at hl 1 rfl) ?_
  refine lv_iload_n hx hb dX4_reach_63 rfl (lv_at hl 2 rfl) ?_
  refine lv_iload_n hx hb dX4_reach_64 rfl (lv_at hl 3 rfl) ?_
  refine lv_iload hx hb dX4_reach_65 (lv_at hl 4 rfl) ?_
  refine lv_iconst (v := 0) hx hb dX4_reach_67 (by decide) ?_
  refine kVi (As := [.int (a0), .int (a1), .int (a2), .int (a3), .int ((0 : Int32))]) (rest := []) (W' := (fun u1 => (wR cI cJ cP ad (x.1, x.2.1, x.2.2.1, x.2.2.2.1, x.2.2.2.2.1, x.2.2.2.2.2.1, x.2.2.2.2.2.2.1, u1)))) hx hb hml hown hG hl (okX3_locate l D cI cJ cP (fun i => ad (i + 1)) H.size x.2.2.2.2.2.2.2 a0 a1 a2 a3 (0 : Int32) hI.2.2.2.2.2.2.2 g0 g1) (cV 5 hG kw77 kw234 kw79 kw80 kw60 hdX3_locate ⟨by decide, by decide⟩) 1 3 rfl rfl hK hP hD hS hA hN [1, 2, 3, 4, 5, 6, 7, 8, 9, 10, 11] rfl rfl rfl (fun _ => rfl) (fun _ => rfl) rfl rfl (Nat.le_of_ble_eq_true rfl) dX4_reach_68 ⟨Nat.zero_le _, Nat.zero_le _⟩ (fun r1 u1 q1 H locs hP hD hS => ?_)
  have j1 : ivX3_locateP (r1, u1) := by rw [q1]; exact ivX3_locate x.2.2.2.2.2.2.2 a0 a1 a2 a3 (0 : Int32) hI.2.2.2.2.2.2.2 g0 g1
  exact reti (u := (x.1, x.2.1, x.2.2.1, x.2.2.2.1, x.2.2.2.2.1, x.2.2.2.2.2.1, x.2.2.2.2.2.2.1, u1)) hx hb hr hlocks hK hP hD hS dX4_reach_71 (by unfold fnX4_reach; rw [← q1]; (try dsimp only); (try exact rfl))
end
