section
-- ===== PART A: goes FIRST, ahead of the names: the tables' words, and 'selects' of the private methods out of them =====
/-- a private method of a class that the tables say can be made, by its rows of tables_1 -/
def lw_okq (q : MethodName × Nat) : Prop := (q.1.cls ≠ "java/lang/invoke/MethodHandle" ∧ q.1.cls ≠ "java/lang/invoke/VarHandle") ∧ Cond.instantiable q.1.cls q.2 ∈ tables_1 ∧ Cond.privateMethod q.1 ∈ tables_1 ∧ Cond.instanceMethod q.1 ∈ tables_1
theorem lw_p0 : lw_okq (⟨"OrganWind", "remember", "()V"⟩, 9) := ⟨⟨by decide +kernel, by decide +kernel⟩, List.mem_of_getElem? (i := 10) (by decide +kernel), List.mem_of_getElem? (i := 220) (by decide +kernel), List.mem_of_getElem? (i := 221) (by decide +kernel)⟩
theorem lw_p1 : lw_okq (⟨"OrganWind", "letPass", "(LOrganWind$State;I)I"⟩, 9) := ⟨⟨by decide +kernel, by decide +kernel⟩, List.mem_of_getElem? (i := 10) (by decide +kernel), List.mem_of_getElem? (i := 289) (by decide +kernel), List.mem_of_getElem? (i := 290) (by decide +kernel)⟩
theorem lw_p2 : lw_okq (⟨"OrganWind$State", "beginStroke", "()V"⟩, 20) := ⟨⟨by decide +kernel, by decide +kernel⟩, List.mem_of_getElem? (i := 18) (by decide +kernel), List.mem_of_getElem? (i := 317) (by decide +kernel), List.mem_of_getElem? (i := 318) (by decide +kernel)⟩
theorem lw_p3 : lw_okq (⟨"OrganWind$State", "makePart", "()V"⟩, 20) := ⟨⟨by decide +kernel, by decide +kernel⟩, List.mem_of_getElem? (i := 18) (by decide +kernel), List.mem_of_getElem? (i := 327) (by decide +kernel), List.mem_of_getElem? (i := 328) (by decide +kernel)⟩
theorem lw_p4 : lw_okq (⟨"OrganWind$Text", "letterHere", "()I"⟩, 7) := ⟨⟨by decide +kernel, by decide +kernel⟩, List.mem_of_getElem? (i := 114) (by decide +kernel), List.mem_of_getElem? (i := 394) (by decide +kernel), List.mem_of_getElem? (i := 395) (by decide +kernel)⟩
theorem lw_p5 : lw_okq (⟨"OrganWind$Text", "readDigit", "(I)I"⟩, 7) := ⟨⟨by decide +kernel, by decide +kernel⟩, List.mem_of_getElem? (i := 114) (by decide +kernel), List.mem_of_getElem? (i := 398) (by decide +kernel), List.mem_of_getElem? (i := 399) (by decide +kernel)⟩
theorem lw_p6 : lw_okq (⟨"OrganWind$Text", "readNumber", "(II)I"⟩, 7) := ⟨⟨by decide +kernel, by decide +kernel⟩, List.mem_of_getElem? (i := 114) (by decide +kernel), List.mem_of_getElem? (i := 402) (by decide +kernel), List.mem_of_getElem? (i := 403) (by decide +kernel)⟩
theorem lw_p7 : lw_okq (⟨"OrganWind$Text", "isDigitHere", "()Z"⟩, 7) := ⟨⟨by decide +kernel, by decide +kernel⟩, List.mem_of_getElem? (i := 114) (by decide +kernel), List.mem_of_getElem? (i := 406) (by decide +kernel), List.mem_of_getElem? (i := 407) (by decide +kernel)⟩
theorem lw_p8 : lw_okq (⟨"OrganWind", "carryOutAct", "()V"⟩, 9) := ⟨⟨by decide +kernel, by decide +kernel⟩, List.mem_of_getElem? (i := 10) (by decide +kernel), List.mem_of_getElem? (i := 418) (by decide +kernel), List.mem_of_getElem? (i := 419) (by decide +kernel)⟩
theorem lw_p9 : lw_okq (⟨"OrganWind", "readWind", "()V"⟩, 9) := ⟨⟨by decide +kernel, by decide +kernel⟩, List.mem_of_getElem? (i := 10) (by decide +kernel), List.mem_of_getElem? (i := 426) (by decide +kernel), List.mem_of_getElem? (i := 427) (by decide +kernel)⟩
theorem lw_p10 : lw_okq (⟨"OrganWind", "numberTold", "(I)I"⟩, 9) := ⟨⟨by decide +kernel, by decide +kernel⟩, List.mem_of_getElem? (i := 10) (by decide +kernel), List.mem_of_getElem? (i := 438) (by decide +kernel), List.mem_of_getElem? (i := 439) (by decide +kernel)⟩
theorem lw_p11 : lw_okq (⟨"OrganWind", "chestTold", "(II)I"⟩, 9) := ⟨⟨by decide +kernel, by decide +kernel⟩, List.mem_of_getElem? (i := 10) (by decide +kernel), List.mem_of_getElem? (i := 449) (by decide +kernel), List.mem_of_getElem? (i := 450) (by decide +kernel)⟩
theorem lw_p12 : lw_okq (⟨"OrganWind", "pipeTold", "(III)I"⟩, 9) := ⟨⟨by decide +kernel, by decide +kernel⟩, List.mem_of_getElem? (i := 10) (by decide +kernel), List.mem_of_getElem? (i := 462) (by decide +kernel), List.mem_of_getElem? (i := 463) (by decide +kernel)⟩
theorem lw_p13 : lw_okq (⟨"OrganWind", "pitch", "(II)I"⟩, 9) := ⟨⟨by decide +kernel, by decide +kernel⟩, List.mem_of_getElem? (i := 10) (by decide +kernel), List.mem_of_getElem? (i := 468) (by decide +kernel), List.mem_of_getElem? (i := 469) (by decide +kernel)⟩
theorem lw_p14 : lw_okq (⟨"OrganWind", "detuning", "(I)I"⟩, 9) := ⟨⟨by decide +kernel, by decide +kernel⟩, List.mem_of_getElem? (i := 10) (by decide +kernel), List.mem_of_getElem? (i := 472) (by decide +kernel), List.mem_of_getElem? (i := 473) (by decide +kernel)⟩
theorem lw_p15 : lw_okq (⟨"OrganWind", "reasonTold", "(II)I"⟩, 9) := ⟨⟨by decide +kernel, by decide +kernel⟩, List.mem_of_getElem? (i := 10) (by decide +kernel), List.mem_of_getElem? (i := 482) (by decide +kernel), List.mem_of_getElem? (i := 483) (by decide +kernel)⟩
def lw_privs_1 : List (MethodName × Nat) := [(⟨"OrganWind", "remember", "()V"⟩, 9), (⟨"OrganWind", "letPass", "(LOrganWind$State;I)I"⟩, 9), (⟨"OrganWind$State", "beginStroke", "()V"⟩, 20), (⟨"OrganWind$State", "makePart", "()V"⟩, 20), (⟨"OrganWind$Text", "letterHere", "()I"⟩, 7), (⟨"OrganWind$Text", "readDigit", "(I)I"⟩, 7), (⟨"OrganWind$Text", "readNumber", "(II)I"⟩, 7), (⟨"OrganWind$Text", "isDigitHere", "()Z"⟩, 7), (⟨"OrganWind", "carryOutAct", "()V"⟩, 9), (⟨"OrganWind", "readWind", "()V"⟩, 9), (⟨"OrganWind", "numberTold", "(I)I"⟩, 9), (⟨"OrganWind", "chestTold", "(II)I"⟩, 9), (⟨"OrganWind", "pipeTold", "(III)I"⟩, 9), (⟨"OrganWind", "pitch", "(II)I"⟩, 9), (⟨"OrganWind", "detuning", "(I)I"⟩, 9), (⟨"OrganWind", "reasonTold", "(II)I"⟩, 9)]
theorem lw_r1 : ∀ q ∈ lw_privs_1, lw_okq q := List.forall_mem_cons.mpr ⟨lw_p0, List.forall_mem_cons.mpr ⟨lw_p1, List.forall_mem_cons.mpr ⟨lw_p2, List.forall_mem_cons.mpr ⟨lw_p3, List.forall_mem_cons.mpr ⟨lw_p4, List.forall_mem_cons.mpr ⟨lw_p5, List.forall_mem_cons.mpr ⟨lw_p6, List.forall_mem_cons.mpr ⟨lw_p7, List.forall_mem_cons.mpr ⟨lw_p8, List.forall_mem_cons.mpr ⟨lw_p9, List.forall_mem_cons.mpr ⟨lw_p10, List.forall_mem_cons.mpr ⟨lw_p11, List.forall_mem_cons.mpr ⟨lw_p12, List.forall_mem_cons.mpr ⟨lw_p13, List.forall_mem_cons.mpr ⟨lw_p14, List.forall_mem_cons.mpr ⟨lw_p15, fun _ h => absurd h List.not_mem_nil⟩⟩⟩⟩⟩⟩⟩⟩⟩⟩⟩⟩⟩⟩⟩⟩
theorem lw_p16 : lw_okq (⟨"OrganWind", "greatestDifference", "()I"⟩, 9) := ⟨⟨by decide +kernel, by decide +kernel⟩, List.mem_of_getElem? (i := 10) (by decide +kernel), List.mem_of_getElem? (i := 494) (by decide +kernel), List.mem_of_getElem? (i := 495) (by decide +kernel)⟩
theorem lw_p17 : lw_okq (⟨"OrganWind", "cipheringStop", "()I"⟩, 9) := ⟨⟨by decide +kernel, by decide +kernel⟩, List.mem_of_getElem? (i := 10) (by decide +kernel), List.mem_of_getElem? (i := 504) (by decide +kernel), List.mem_of_getElem? (i := 505) (by decide +kernel)⟩
theorem lw_p18 : lw_okq (⟨"OrganWind", "isHeard", "(I)Z"⟩, 9) := ⟨⟨by decide +kernel, by decide +kernel⟩, List.mem_of_getElem? (i := 10) (by decide +kernel), List.mem_of_getElem? (i := 508) (by decide +kernel), List.mem_of_getElem? (i := 509) (by decide +kernel)⟩
theorem lw_p19 : lw_okq (⟨"OrganWind", "testsOfSearch", "()I"⟩, 9) := ⟨⟨by decide +kernel, by decide +kernel⟩, List.mem_of_getElem? (i := 10) (by decide +kernel), List.mem_of_getElem? (i := 515) (by decide +kernel), List.mem_of_getElem? (i := 516) (by decide +kernel)⟩
theorem lw_p20 : lw_okq (⟨"OrganWind", "lowestCipher", "(I)I"⟩, 9) := ⟨⟨by decide +kernel, by decide +kernel⟩, List.mem_of_getElem? (i := 10) (by decide +kernel), List.mem_of_getElem? (i := 519) (by decide +kernel), List.mem_of_getElem? (i := 520) (by decide +kernel)⟩
theorem lw_p21 : lw_okq (⟨"OrganWind", "mixOpenPipes", "(J)J"⟩, 9) := ⟨⟨by decide +kernel, by decide +kernel⟩, List.mem_of_getElem? (i := 10) (by decide +kernel), List.mem_of_getElem? (i := 556) (by decide +kernel), List.mem_of_getElem? (i := 557) (by decide +kernel)⟩
theorem lw_p22 : lw_okq (⟨"OrganWindModel", "records", "()V"⟩, 22) := ⟨⟨by decide +kernel, by decide +kernel⟩, List.mem_of_getElem? (i := 560) (by decide +kernel), List.mem_of_getElem? (i := 645) (by decide +kernel), List.mem_of_getElem? (i := 646) (by decide +kernel)⟩
theorem lw_p23 : lw_okq (⟨"OrganWindModel", "puts", "(II)I"⟩, 22) := ⟨⟨by decide +kernel, by decide +kernel⟩, List.mem_of_getElem? (i := 560) (by decide +kernel), List.mem_of_getElem? (i := 649) (by decide +kernel), List.mem_of_getElem? (i := 650) (by decide +kernel)⟩
theorem lw_p24 : lw_okq (⟨"OrganWindModel", "ciphersAll", "()I"⟩, 22) := ⟨⟨by decide +kernel, by decide +kernel⟩, List.mem_of_getElem? (i := 560) (by decide +kernel), List.mem_of_getElem? (i := 668) (by decide +kernel), List.mem_of_getElem? (i := 669) (by decide +kernel)⟩
theorem lw_p25 : lw_okq (⟨"OrganWindModel", "draws", "(IZ)I"⟩, 22) := ⟨⟨by decide +kernel, by decide +kernel⟩, List.mem_of_getElem? (i := 560) (by decide +kernel), List.mem_of_getElem? (i := 683) (by decide +kernel), List.mem_of_getElem? (i := 684) (by decide +kernel)⟩
theorem lw_p26 : lw_okq (⟨"OrganWindModel", "drawn", "()I"⟩, 22) := ⟨⟨by decide +kernel, by decide +kernel⟩, List.mem_of_getElem? (i := 560) (by decide +kernel), List.mem_of_getElem? (i := 687) (by decide +kernel), List.mem_of_getElem? (i := 688) (by decide +kernel)⟩
theorem lw_p27 : lw_okq (⟨"OrganWindModel", "presses", "(IIZ)I"⟩, 22) := ⟨⟨by decide +kernel, by decide +kernel⟩, List.mem_of_getElem? (i := 560) (by decide +kernel), List.mem_of_getElem? (i := 695) (by decide +kernel), List.mem_of_getElem? (i := 696) (by decide +kernel)⟩
theorem lw_p28 : lw_okq (⟨"OrganWindModel", "passes", "(I)I"⟩, 22) := ⟨⟨by decide +kernel, by decide +kernel⟩, List.mem_of_getElem? (i := 560) (by decide +kernel), List.mem_of_getElem? (i := 707) (by decide +kernel), List.mem_of_getElem? (i := 708) (by decide +kernel)⟩
theorem lw_p29 : lw_okq (⟨"OrganWindModel", "ticks", "()V"⟩, 22) := ⟨⟨by decide +kernel, by decide +kernel⟩, List.mem_of_getElem? (i := 560) (by decide +kernel), List.mem_of_getElem? (i := 711) (by decide +kernel), List.mem_of_getElem? (i := 712) (by decide +kernel)⟩
theorem lw_p30 : lw_okq (⟨"OrganWindModel", "laysNow", "()V"⟩, 22) := ⟨⟨by decide +kernel, by decide +kernel⟩, List.mem_of_getElem? (i := 560) (by decide +kernel), List.mem_of_getElem? (i := 715) (by decide +kernel), List.mem_of_getElem? (i := 716) (by decide +kernel)⟩
theorem lw_p31 : lw_okq (⟨"OrganWindModel", "lays", "(IZ)V"⟩, 22) := ⟨⟨by decide +kernel, by decide +kernel⟩, List.mem_of_getElem? (i := 560) (by decide +kernel), List.mem_of_getElem? (i := 719) (by decide +kernel), List.mem_of_getElem? (i := 720) (by decide +kernel)⟩
def lw_privs_2 : List (MethodName × Nat) := [(⟨"OrganWind", "greatestDifference", "()I"⟩, 9), (⟨"OrganWind", "cipheringStop", "()I"⟩, 9), (⟨"OrganWind", "isHeard", "(I)Z"⟩, 9), (⟨"OrganWind", "testsOfSearch", "()I"⟩, 9), (⟨"OrganWind", "lowestCipher", "(I)I"⟩, 9), (⟨"OrganWind", "mixOpenPipes", "(J)J"⟩, 9), (⟨"OrganWindModel", "records", "()V"⟩, 22), (⟨"OrganWindModel", "puts", "(II)I"⟩, 22), (⟨"OrganWindModel", "ciphersAll", "()I"⟩, 22), (⟨"OrganWindModel", "draws", "(IZ)I"⟩, 22), (⟨"OrganWindModel", "drawn", "()I"⟩, 22), (⟨"OrganWindModel", "presses", "(IIZ)I"⟩, 22), (⟨"OrganWindModel", "passes", "(I)I"⟩, 22), (⟨"OrganWindModel", "ticks", "()V"⟩, 22), (⟨"OrganWindModel", "laysNow", "()V"⟩, 22), (⟨"OrganWindModel", "lays", "(IZ)V"⟩, 22)]
theorem lw_r2 : ∀ q ∈ lw_privs_2, lw_okq q := List.forall_mem_cons.mpr ⟨lw_p16, List.forall_mem_cons.mpr ⟨lw_p17, List.forall_mem_cons.mpr ⟨lw_p18, List.forall_mem_cons.mpr ⟨lw_p19, List.forall_mem_cons.mpr ⟨lw_p20, List.forall_mem_cons.mpr ⟨lw_p21, List.forall_mem_cons.mpr ⟨lw_p22, List.forall_mem_cons.mpr ⟨lw_p23, List.forall_mem_cons.mpr ⟨lw_p24, List.forall_mem_cons.mpr ⟨lw_p25, List.forall_mem_cons.mpr ⟨lw_p26, List.forall_mem_cons.mpr ⟨lw_p27, List.forall_mem_cons.mpr ⟨lw_p28, List.forall_mem_cons.mpr ⟨lw_p29, List.forall_mem_cons.mpr ⟨lw_p30, List.forall_mem_cons.mpr ⟨lw_p31, fun _ h => absurd h List.not_mem_nil⟩⟩⟩⟩⟩⟩⟩⟩⟩⟩⟩⟩⟩⟩⟩⟩
theorem lw_p32 : lw_okq (⟨"OrganWindModel", "acts", "(Z)V"⟩, 22) := ⟨⟨by decide +kernel, by decide +kernel⟩, List.mem_of_getElem? (i := 560) (by decide +kernel), List.mem_of_getElem? (i := 723) (by decide +kernel), List.mem_of_getElem? (i := 724) (by decide +kernel)⟩
theorem lw_p33 : lw_okq (⟨"OrganWindModel", "need", "(II)I"⟩, 22) := ⟨⟨by decide +kernel, by decide +kernel⟩, List.mem_of_getElem? (i := 560) (by decide +kernel), List.mem_of_getElem? (i := 728) (by decide +kernel), List.mem_of_getElem? (i := 729) (by decide +kernel)⟩
theorem lw_p34 : lw_okq (⟨"OrganWindModel", "reservoir", "()I"⟩, 22) := ⟨⟨by decide +kernel, by decide +kernel⟩, List.mem_of_getElem? (i := 560) (by decide +kernel), List.mem_of_getElem? (i := 732) (by decide +kernel), List.mem_of_getElem? (i := 733) (by decide +kernel)⟩
theorem lw_p35 : lw_okq (⟨"OrganWindModel", "isText", "()Z"⟩, 22) := ⟨⟨by decide +kernel, by decide +kernel⟩, List.mem_of_getElem? (i := 560) (by decide +kernel), List.mem_of_getElem? (i := 748) (by decide +kernel), List.mem_of_getElem? (i := 749) (by decide +kernel)⟩
theorem lw_p36 : lw_okq (⟨"OrganWindModel", "isAct", "()Z"⟩, 22) := ⟨⟨by decide +kernel, by decide +kernel⟩, List.mem_of_getElem? (i := 560) (by decide +kernel), List.mem_of_getElem? (i := 752) (by decide +kernel), List.mem_of_getElem? (i := 753) (by decide +kernel)⟩
theorem lw_p37 : lw_okq (⟨"OrganWindModel", "here", "()I"⟩, 22) := ⟨⟨by decide +kernel, by decide +kernel⟩, List.mem_of_getElem? (i := 560) (by decide +kernel), List.mem_of_getElem? (i := 756) (by decide +kernel), List.mem_of_getElem? (i := 757) (by decide +kernel)⟩
theorem lw_p38 : lw_okq (⟨"OrganWindModel", "takes", "(I)Z"⟩, 22) := ⟨⟨by decide +kernel, by decide +kernel⟩, List.mem_of_getElem? (i := 560) (by decide +kernel), List.mem_of_getElem? (i := 760) (by decide +kernel), List.mem_of_getElem? (i := 761) (by decide +kernel)⟩
theorem lw_p39 : lw_okq (⟨"OrganWindModel", "isFirst", "(I)Z"⟩, 22) := ⟨⟨by decide +kernel, by decide +kernel⟩, List.mem_of_getElem? (i := 560) (by decide +kernel), List.mem_of_getElem? (i := 764) (by decide +kernel), List.mem_of_getElem? (i := 765) (by decide +kernel)⟩
theorem lw_p40 : lw_okq (⟨"OrganWindModel", "isNumber", "(II)Z"⟩, 22) := ⟨⟨by decide +kernel, by decide +kernel⟩, List.mem_of_getElem? (i := 560) (by decide +kernel), List.mem_of_getElem? (i := 768) (by decide +kernel), List.mem_of_getElem? (i := 769) (by decide +kernel)⟩
theorem lw_p41 : lw_okq (⟨"OrganWindModel", "isDigit", "()Z"⟩, 22) := ⟨⟨by decide +kernel, by decide +kernel⟩, List.mem_of_getElem? (i := 560) (by decide +kernel), List.mem_of_getElem? (i := 772) (by decide +kernel), List.mem_of_getElem? (i := 773) (by decide +kernel)⟩
theorem lw_p42 : lw_okq (⟨"OrganWindModel", "tells", "(I)I"⟩, 22) := ⟨⟨by decide +kernel, by decide +kernel⟩, List.mem_of_getElem? (i := 560) (by decide +kernel), List.mem_of_getElem? (i := 786) (by decide +kernel), List.mem_of_getElem? (i := 787) (by decide +kernel)⟩
theorem lw_p43 : lw_okq (⟨"OrganWindModel", "openMany", "()I"⟩, 22) := ⟨⟨by decide +kernel, by decide +kernel⟩, List.mem_of_getElem? (i := 560) (by decide +kernel), List.mem_of_getElem? (i := 790) (by decide +kernel), List.mem_of_getElem? (i := 791) (by decide +kernel)⟩
theorem lw_p44 : lw_okq (⟨"OrganWindModel", "speaking", "(I)I"⟩, 22) := ⟨⟨by decide +kernel, by decide +kernel⟩, List.mem_of_getElem? (i := 560) (by decide +kernel), List.mem_of_getElem? (i := 794) (by decide +kernel), List.mem_of_getElem? (i := 795) (by decide +kernel)⟩
theorem lw_p45 : lw_okq (⟨"OrganWindModel", "reasonOf", "(III)I"⟩, 22) := ⟨⟨by decide +kernel, by decide +kernel⟩, List.mem_of_getElem? (i := 560) (by decide +kernel), List.mem_of_getElem? (i := 798) (by decide +kernel), List.mem_of_getElem? (i := 799) (by decide +kernel)⟩
theorem lw_p46 : lw_okq (⟨"OrganWindModel", "isOpen", "(II)Z"⟩, 22) := ⟨⟨by decide +kernel, by decide +kernel⟩, List.mem_of_getElem? (i := 560) (by decide +kernel), List.mem_of_getElem? (i := 802) (by decide +kernel), List.mem_of_getElem? (i := 803) (by decide +kernel)⟩
theorem lw_p47 : lw_okq (⟨"OrganWindModel", "chestTells", "(II)I"⟩, 22) := ⟨⟨by decide +kernel, by decide +kernel⟩, List.mem_of_getElem? (i := 560) (by decide +kernel), List.mem_of_getElem? (i := 810) (by decide +kernel), List.mem_of_getElem? (i := 811) (by decide +kernel)⟩
def lw_privs_3 : List (MethodName × Nat) := [(⟨"OrganWindModel", "acts", "(Z)V"⟩, 22), (⟨"OrganWindModel", "need", "(II)I"⟩, 22), (⟨"OrganWindModel", "reservoir", "()I"⟩, 22), (⟨"OrganWindModel", "isText", "()Z"⟩, 22), (⟨"OrganWindModel", "isAct", "()Z"⟩, 22), (⟨"OrganWindModel", "here", "()I"⟩, 22), (⟨"OrganWindModel", "takes", "(I)Z"⟩, 22), (⟨"OrganWindModel", "isFirst", "(I)Z"⟩, 22), (⟨"OrganWindModel", "isNumber", "(II)Z"⟩, 22), (⟨"OrganWindModel", "isDigit", "()Z"⟩, 22), (⟨"OrganWindModel", "tells", "(I)I"⟩, 22), (⟨"OrganWindModel", "openMany", "()I"⟩, 22), (⟨"OrganWindModel", "speaking", "(I)I"⟩, 22), (⟨"OrganWindModel", "reasonOf", "(III)I"⟩, 22), (⟨"OrganWindModel", "isOpen", "(II)Z"⟩, 22), (⟨"OrganWindModel", "chestTells", "(II)I"⟩, 22)]
theorem lw_r3 : ∀ q ∈ lw_privs_3, lw_okq q := List.forall_mem_cons.mpr ⟨lw_p32, List.forall_mem_cons.mpr ⟨lw_p33, List.forall_mem_cons.mpr ⟨lw_p34, List.forall_mem_cons.mpr ⟨lw_p35, List.forall_mem_cons.mpr ⟨lw_p36, List.forall_mem_cons.mpr ⟨lw_p37, List.forall_mem_cons.mpr ⟨lw_p38, List.forall_mem_cons.mpr ⟨lw_p39, List.forall_mem_cons.mpr ⟨lw_p40, List.forall_mem_cons.mpr ⟨lw_p41, List.forall_mem_cons.mpr ⟨lw_p42, List.forall_mem_cons.mpr ⟨lw_p43, List.forall_mem_cons.mpr ⟨lw_p44, List.forall_mem_cons.mpr ⟨lw_p45, List.forall_mem_cons.mpr ⟨lw_p46, List.forall_mem_cons.mpr ⟨lw_p47, fun _ h => absurd h List.not_mem_nil⟩⟩⟩⟩⟩⟩⟩⟩⟩⟩⟩⟩⟩⟩⟩⟩
theorem lw_p48 : lw_okq (⟨"OrganWindModel", "pipeTells", "(III)I"⟩, 22) := ⟨⟨by decide +kernel, by decide +kernel⟩, List.mem_of_getElem? (i := 560) (by decide +kernel), List.mem_of_getElem? (i := 822) (by decide +kernel), List.mem_of_getElem? (i := 823) (by decide +kernel)⟩
theorem lw_p49 : lw_okq (⟨"OrganWindModel", "pitch", "(II)I"⟩, 22) := ⟨⟨by decide +kernel, by decide +kernel⟩, List.mem_of_getElem? (i := 560) (by decide +kernel), List.mem_of_getElem? (i := 826) (by decide +kernel), List.mem_of_getElem? (i := 827) (by decide +kernel)⟩
theorem lw_p50 : lw_okq (⟨"OrganWindModel", "bend", "(I)I"⟩, 22) := ⟨⟨by decide +kernel, by decide +kernel⟩, List.mem_of_getElem? (i := 560) (by decide +kernel), List.mem_of_getElem? (i := 830) (by decide +kernel), List.mem_of_getElem? (i := 831) (by decide +kernel)⟩
theorem lw_p51 : lw_okq (⟨"OrganWindModel", "reasonNow", "(II)I"⟩, 22) := ⟨⟨by decide +kernel, by decide +kernel⟩, List.mem_of_getElem? (i := 560) (by decide +kernel), List.mem_of_getElem? (i := 841) (by decide +kernel), List.mem_of_getElem? (i := 842) (by decide +kernel)⟩
theorem lw_p52 : lw_okq (⟨"OrganWindModel", "mistunedNow", "()I"⟩, 22) := ⟨⟨by decide +kernel, by decide +kernel⟩, List.mem_of_getElem? (i := 560) (by decide +kernel), List.mem_of_getElem? (i := 853) (by decide +kernel), List.mem_of_getElem? (i := 854) (by decide +kernel)⟩
theorem lw_p53 : lw_okq (⟨"OrganWindModel", "searches", "(I)I"⟩, 22) := ⟨⟨by decide +kernel, by decide +kernel⟩, List.mem_of_getElem? (i := 560) (by decide +kernel), List.mem_of_getElem? (i := 861) (by decide +kernel), List.mem_of_getElem? (i := 862) (by decide +kernel)⟩
theorem lw_p54 : lw_okq (⟨"OrganWindModel", "isHeard", "(II)Z"⟩, 22) := ⟨⟨by decide +kernel, by decide +kernel⟩, List.mem_of_getElem? (i := 560) (by decide +kernel), List.mem_of_getElem? (i := 865) (by decide +kernel), List.mem_of_getElem? (i := 866) (by decide +kernel)⟩
def lw_privs_4 : List (MethodName × Nat) := [(⟨"OrganWindModel", "pipeTells", "(III)I"⟩, 22), (⟨"OrganWindModel", "pitch", "(II)I"⟩, 22), (⟨"OrganWindModel", "bend", "(I)I"⟩, 22), (⟨"OrganWindModel", "reasonNow", "(II)I"⟩, 22), (⟨"OrganWindModel", "mistunedNow", "()I"⟩, 22), (⟨"OrganWindModel", "searches", "(I)I"⟩, 22), (⟨"OrganWindModel", "isHeard", "(II)Z"⟩, 22)]
theorem lw_r4 : ∀ q ∈ lw_privs_4, lw_okq q := List.forall_mem_cons.mpr ⟨lw_p48, List.forall_mem_cons.mpr ⟨lw_p49, List.forall_mem_cons.mpr ⟨lw_p50, List.forall_mem_cons.mpr ⟨lw_p51, List.forall_mem_cons.mpr ⟨lw_p52, List.forall_mem_cons.mpr ⟨lw_p53, List.forall_mem_cons.mpr ⟨lw_p54, fun _ h => absurd h List.not_mem_nil⟩⟩⟩⟩⟩⟩⟩
def lw_privs : List (MethodName × Nat) := lw_privs_1 ++ (lw_privs_2 ++ (lw_privs_3 ++ (lw_privs_4)))
def lw_tbl : List Cond := k2_sels lw_privs ++ tables_1
theorem lw_privs_ok : ∀ q ∈ lw_privs, lw_okq q := by
  show ∀ q ∈ lw_privs_1 ++ (lw_privs_2 ++ (lw_privs_3 ++ (lw_privs_4))), lw_okq q
  exact List.forall_mem_append.mpr ⟨lw_r1, List.forall_mem_append.mpr ⟨lw_r2, List.forall_mem_append.mpr ⟨lw_r3, lw_r4⟩⟩⟩
-- ===== end of PART A; then your names; then what follows =====
end
section
/-! ===== BEGIN words of one list among another's, by their places ===== -/
theorem goodIn_r {big : List Cond} (ws : List Cond) (ps : List Nat) (hp : ws = ps.filterMap (fun i => big[i]?)) (h : ws.all goodWord = true) : GoodIn big ws := by
  intro w hw
  have h1 := List.all_eq_true.mp h w hw
  rw [hp] at hw
  obtain ⟨i, -, hi⟩ := List.mem_filterMap.mp hw
  have hm : w ∈ big := by first | exact List.mem_of_getElem? hi | exact List.getElem?_mem hi
  exact ⟨hm, good_of_word h1⟩
theorem goodIn_app {big a b : List Cond} (ha : GoodIn big a) (hb : GoodIn big b) : GoodIn big (a ++ b) := fun w h => (List.mem_append.mp h).elim (ha w) (hb w)
theorem goodIn_ca {big a b : List Cond} {c : Cond} (ha : GoodIn big (c :: a)) (hb : GoodIn big b) : GoodIn big (c :: (a ++ b)) := fun w h => (List.mem_cons.mp h).elim (fun e => ha w (List.mem_cons.mpr (Or.inl e))) (fun h => (List.mem_append.mp h).elim (fun h => ha w (List.mem_cons.mpr (Or.inr h))) (hb w))
theorem goodIn_sub {big ws : List Cond} (hm : ∀ w ∈ ws, w ∈ big) (h : ws.all goodWord = true) : GoodIn big ws := fun w hw => ⟨hm w hw, good_of_word (List.all_eq_true.mp h w hw)⟩
/-! ===== END ===== -/

/-! ===== BEGIN printed: names, fields, word lists, decode rows ===== -/
def RX0 : String := "OrganWind$State"
def TX0 : u_T := fun k => match k with
  | 0 => ("OrganWind$State", "manual", "[I", true)
  | 1 => ("OrganWind$State", "demand", "[I", true)
  | 2 => ("OrganWind$State", "least", "[I", true)
  | 3 => ("OrganWind$State", "got", "[I", true)
  | 4 => ("OrganWind$State", "ciphering", "[I", true)
  | 5 => ("OrganWind$State", "offset", "[I", true)
  | 6 => ("OrganWind$State", "setting", "[I", true)
  | 7 => ("OrganWind$State", "pressed", "[I", true)
  | 8 => ("OrganWind$State", "strokesBegun", "[I", true)
  | 9 => ("OrganWind$State", "drawn", "I", false)
  | 10 => ("OrganWind$State", "manualCoupler", "Z", false)
  | 11 => ("OrganWind$State", "octaveCoupler", "Z", false)
  | 12 => ("OrganWind$State", "volume", "I", false)
  | 13 => ("OrganWind$State", "time", "I", false)
  | 14 => ("OrganWind$State", "made", "I", false)
  | 15 => ("OrganWind$State", "spilled", "I", false)
  | 16 => ("OrganWind$State", "lastFeeder", "I", false)
  | 17 => ("OrganWind$State", "strokeLeft", "I", false)
  | 18 => ("OrganWind$State", "strokePart", "I", false)
  | _ => ("OrganWind$State", "strokeTicks", "I", false)
def tyX0 : Nat → FieldType := fun k => match k with
  | 0 => .array .int
  | 1 => .array .int
  | 2 => .array .int
  | 3 => .array .int
  | 4 => .array .int
  | 5 => .array .int
  | 6 => .array .int
  | 7 => .array .int
  | 8 => .array .int
  | 9 => .int
  | 10 => .boolean
  | 11 => .boolean
  | 12 => .int
  | 13 => .int
  | 14 => .int
  | 15 => .int
  | 16 => .int
  | 17 => .int
  | 18 => .int
  | _ => .int
abbrev wsX00 : List Cond := u_ws RX0 TX0 20
theorem nmX0 : ∀ a, a < 20 → ∀ b, b < 20 → a ≠ b → (TX0 a).2.1 ≠ (TX0 b).2.1 := by decide +kernel
theorem tyX0_ok : ∀ k, k < 20 → parseFieldDescriptor (TX0 k).2.2.1 = some (tyX0 k) := by decide +kernel
abbrev cX0_init : ByteArray := prog_2_method_1_code
def yX0_init : MethodName := ⟨RX0, "<init>", "()V"⟩
abbrev cX0_takeStops : ByteArray := prog_2_method_2_code
def yX0_takeStops : MethodName := ⟨RX0, "takeStops", "(LOrganWind$State;)V"⟩
abbrev cX0_takeBellows : ByteArray := prog_2_method_3_code
def yX0_takeBellows : MethodName := ⟨RX0, "takeBellows", "(LOrganWind$State;)V"⟩
abbrev cX0_manualOf : ByteArray := prog_2_method_4_code
def yX0_manualOf : MethodName := ⟨RX0, "manualOf", "(I)I"⟩
abbrev cX0_need : ByteArray := prog_2_method_5_code
def yX0_need : MethodName := ⟨RX0, "need", "(II)I"⟩
abbrev cX0_actingKeys : ByteArray := prog_2_method_6_code
def yX0_actingKeys : MethodName := ⟨RX0, "actingKeys", "(I)I"⟩
abbrev cX0_reservoirPressure : ByteArray := prog_2_method_7_code
def yX0_reservoirPressure : MethodName := ⟨RX0, "reservoirPressure", "()I"⟩
abbrev cX0_pump : ByteArray := prog_2_method_8_code
def yX0_pump : MethodName := ⟨RX0, "pump", "()V"⟩
abbrev cX0_beginStroke : ByteArray := prog_2_method_9_code
def yX0_beginStroke : MethodName := ⟨RX0, "beginStroke", "()V"⟩
abbrev cX0_makePart : ByteArray := prog_2_method_10_code
def yX0_makePart : MethodName := ⟨RX0, "makePart", "()V"⟩
def RX1 : String := "OrganWind$Text"
def TX1 : u_T := fun k => match k with
  | 0 => ("OrganWind$Text", "letters", "[I", true)
  | 1 => ("OrganWind$Text", "length", "I", false)
  | 2 => ("OrganWind$Text", "at", "I", false)
  | 3 => ("OrganWind$Text", "fault", "I", false)
  | 4 => ("OrganWind$Text", "kind", "I", false)
  | 5 => ("OrganWind$Text", "place", "I", false)
  | _ => ("OrganWind$Text", "number", "I", false)
def tyX1 : Nat → FieldType := fun k => match k with
  | 0 => .array .int
  | 1 => .int
  | 2 => .int
  | 3 => .int
  | 4 => .int
  | 5 => .int
  | _ => .int
abbrev wsX10 : List Cond := u_ws RX1 TX1 7
theorem nmX1 : ∀ a, a < 7 → ∀ b, b < 7 → a ≠ b → (TX1 a).2.1 ≠ (TX1 b).2.1 := by decide +kernel
theorem tyX1_ok : ∀ k, k < 7 → parseFieldDescriptor (TX1 k).2.2.1 = some (tyX1 k) := by decide +kernel
abbrev cX1_init : ByteArray := prog_3_method_1_code
def yX1_init : MethodName := ⟨RX1, "<init>", "()V"⟩
abbrev cX1_add : ByteArray := prog_3_method_2_code
def yX1_add : MethodName := ⟨RX1, "add", "(I)Z"⟩
abbrev cX1_begin : ByteArray := prog_3_method_3_code
def yX1_begin : MethodName := ⟨RX1, "begin", "()V"⟩
abbrev cX1_hasMore : ByteArray := prog_3_method_4_code
def yX1_hasMore : MethodName := ⟨RX1, "hasMore", "()Z"⟩
abbrev cX1_findFault : ByteArray := prog_3_method_5_code
def yX1_findFault : MethodName := ⟨RX1, "findFault", "()I"⟩
abbrev cX1_readAct : ByteArray := prog_3_method_6_code
def yX1_readAct : MethodName := ⟨RX1, "readAct", "()V"⟩
abbrev cX1_readDigit : ByteArray := prog_3_method_7_code
def yX1_readDigit : MethodName := ⟨RX1, "readDigit", "(I)I"⟩
abbrev cX1_readNumber : ByteArray := prog_3_method_8_code
def yX1_readNumber : MethodName := ⟨RX1, "readNumber", "(II)I"⟩
abbrev cX1_isDigitHere : ByteArray := prog_3_method_9_code
def yX1_isDigitHere : MethodName := ⟨RX1, "isDigitHere", "()Z"⟩
abbrev cX1_letterHere : ByteArray := prog_3_method_10_code
def yX1_letterHere : MethodName := ⟨RX1, "letterHere", "()I"⟩
def RX2 : String := "OrganWind$Wind"
def TX2 : u_T := fun k => match k with
  | 0 => ("OrganWind$Wind", "open", "[I", true)
  | 1 => ("OrganWind$Wind", "needs", "[I", true)
  | 2 => ("OrganWind$Wind", "pressure", "[I", true)
  | 3 => ("OrganWind$Wind", "asked", "[I", true)
  | 4 => ("OrganWind$Wind", "gets", "[I", true)
  | _ => ("OrganWind$Wind", "speaking", "[I", true)
def tyX2 : Nat → FieldType := fun k => match k with
  | 0 => .array .int
  | 1 => .array .int
  | 2 => .array .int
  | 3 => .array .int
  | 4 => .array .int
  | _ => .array .int
abbrev wsX20 : List Cond := u_ws RX2 TX2 6
theorem nmX2 : ∀ a, a < 6 → ∀ b, b < 6 → a ≠ b → (TX2 a).2.1 ≠ (TX2 b).2.1 := by decide +kernel
theorem tyX2_ok : ∀ k, k < 6 → parseFieldDescriptor (TX2 k).2.2.1 = some (tyX2 k) := by decide +kernel
abbrev cX2_init : ByteArray := prog_4_method_1_code
def yX2_init : MethodName := ⟨RX2, "<init>", "()V"⟩
abbrev cX2_listen : ByteArray := prog_4_method_2_code
def yX2_listen : MethodName := ⟨RX2, "listen", "(LOrganWind$State;IZ)V"⟩
abbrev cX2_openPipes : ByteArray := prog_4_method_3_code
def yX2_openPipes : MethodName := ⟨RX2, "openPipes", "(LOrganWind$State;IZ)V"⟩
abbrev cX2_setPressures : ByteArray := prog_4_method_4_code
def yX2_setPressures : MethodName := ⟨RX2, "setPressures", "(LOrganWind$State;)V"⟩
abbrev cX2_asks : ByteArray := prog_4_method_5_code
def yX2_asks : MethodName := ⟨RX2, "asks", "(LOrganWind$State;II)I"⟩
abbrev cX2_addUpAsked : ByteArray := prog_4_method_6_code
def yX2_addUpAsked : MethodName := ⟨RX2, "addUpAsked", "(LOrganWind$State;)V"⟩
abbrev cX2_feedPipes : ByteArray := prog_4_method_7_code
def yX2_feedPipes : MethodName := ⟨RX2, "feedPipes", "(LOrganWind$State;)V"⟩
def RX3 : String := "OrganWind"
def TX3 : u_T := fun k => match k with
  | 0 => ("OrganWind", "organ", "LOrganWind$State;", true)
  | 1 => ("OrganWind", "forecast", "LOrganWind$State;", true)
  | 2 => ("OrganWind", "history", "[LOrganWind$State;", true)
  | 3 => ("OrganWind", "slots", "[LOrganWind$State;", true)
  | 4 => ("OrganWind", "saved", "[Z", true)
  | 5 => ("OrganWind", "text", "LOrganWind$Text;", true)
  | 6 => ("OrganWind", "wind", "LOrganWind$Wind;", true)
  | 7 => ("OrganWind", "trial", "LOrganWind$Wind;", true)
  | _ => ("OrganWind", "recorded", "I", false)
def tyX3 : Nat → FieldType := fun k => match k with
  | 0 => .object "OrganWind$State"
  | 1 => .object "OrganWind$State"
  | 2 => .array (.object "OrganWind$State")
  | 3 => .array (.object "OrganWind$State")
  | 4 => .array .boolean
  | 5 => .object "OrganWind$Text"
  | 6 => .object "OrganWind$Wind"
  | 7 => .object "OrganWind$Wind"
  | _ => .int
abbrev wsX30 : List Cond := u_ws RX3 TX3 9
theorem nmX3 : ∀ a, a < 9 → ∀ b, b < 9 → a ≠ b → (TX3 a).2.1 ≠ (TX3 b).2.1 := by decide +kernel
theorem tyX3_ok : ∀ k, k < 9 → parseFieldDescriptor (TX3 k).2.2.1 = some (tyX3 k) := by decide +kernel
abbrev cX3_init : ByteArray := prog_1_method_1_code
def yX3_init : MethodName := ⟨RX3, "<init>", "()V"⟩
abbrev cX3_layOut : ByteArray := prog_1_method_2_code
def yX3_layOut : MethodName := ⟨RX3, "layOut", "(IIII)I"⟩
abbrev cX3_stop : ByteArray := prog_1_method_3_code
def yX3_stop : MethodName := ⟨RX3, "stop", "(II)I"⟩
abbrev cX3_set : ByteArray := prog_1_method_4_code
def yX3_set : MethodName := ⟨RX3, "set", "(II)I"⟩
abbrev cX3_cipher : ByteArray := prog_1_method_5_code
def yX3_cipher : MethodName := ⟨RX3, "cipher", "(IIZ)I"⟩
abbrev cX3_draw : ByteArray := prog_1_method_6_code
def yX3_draw : MethodName := ⟨RX3, "draw", "(IZ)I"⟩
abbrev cX3_press : ByteArray := prog_1_method_7_code
def yX3_press : MethodName := ⟨RX3, "press", "(IIZ)I"⟩
abbrev cX3_couple : ByteArray := prog_1_method_8_code
def yX3_couple : MethodName := ⟨RX3, "couple", "(ZZ)I"⟩
abbrev cX3_tick : ByteArray := prog_1_method_9_code
def yX3_tick : MethodName := ⟨RX3, "tick", "(I)I"⟩
abbrev cX3_append : ByteArray := prog_1_method_10_code
def yX3_append : MethodName := ⟨RX3, "append", "(I)I"⟩
abbrev cX3_clearText : ByteArray := prog_1_method_11_code
def yX3_clearText : MethodName := ⟨RX3, "clearText", "()I"⟩
abbrev cX3_faultPosition : ByteArray := prog_1_method_12_code
def yX3_faultPosition : MethodName := ⟨RX3, "faultPosition", "()I"⟩
abbrev cX3_play : ByteArray := prog_1_method_13_code
def yX3_play : MethodName := ⟨RX3, "play", "()I"⟩
abbrev cX3_carryOutAct : ByteArray := prog_1_method_14_code
def yX3_carryOutAct : MethodName := ⟨RX3, "carryOutAct", "()V"⟩
abbrev cX3_tell : ByteArray := prog_1_method_15_code
def yX3_tell : MethodName := ⟨RX3, "tell", "(I)I"⟩
abbrev cX3_numberTold : ByteArray := prog_1_method_16_code
def yX3_numberTold : MethodName := ⟨RX3, "numberTold", "(I)I"⟩
abbrev cX3_chest : ByteArray := prog_1_method_17_code
def yX3_chest : MethodName := ⟨RX3, "chest", "(II)I"⟩
abbrev cX3_chestTold : ByteArray := prog_1_method_18_code
def yX3_chestTold : MethodName := ⟨RX3, "chestTold", "(II)I"⟩
abbrev cX3_strokes : ByteArray := prog_1_method_19_code
def yX3_strokes : MethodName := ⟨RX3, "strokes", "(I)I"⟩
abbrev cX3_pipe : ByteArray := prog_1_method_20_code
def yX3_pipe : MethodName := ⟨RX3, "pipe", "(III)I"⟩
abbrev cX3_pipeTold : ByteArray := prog_1_method_21_code
def yX3_pipeTold : MethodName := ⟨RX3, "pipeTold", "(III)I"⟩
abbrev cX3_reason : ByteArray := prog_1_method_22_code
def yX3_reason : MethodName := ⟨RX3, "reason", "(II)I"⟩
abbrev cX3_reasonTold : ByteArray := prog_1_method_23_code
def yX3_reasonTold : MethodName := ⟨RX3, "reasonTold", "(II)I"⟩
abbrev cX3_tune : ByteArray := prog_1_method_24_code
def yX3_tune : MethodName := ⟨RX3, "tune", "(II)I"⟩
abbrev cX3_mistuned : ByteArray := prog_1_method_25_code
def yX3_mistuned : MethodName := ⟨RX3, "mistuned", "()I"⟩
abbrev cX3_greatestDifference : ByteArray := prog_1_method_26_code
def yX3_greatestDifference : MethodName := ⟨RX3, "greatestDifference", "()I"⟩
abbrev cX3_search : ByteArray := prog_1_method_27_code
def yX3_search : MethodName := ⟨RX3, "search", "(I)I"⟩
abbrev cX3_cipheringStop : ByteArray := prog_1_method_28_code
def yX3_cipheringStop : MethodName := ⟨RX3, "cipheringStop", "()I"⟩
abbrev cX3_testsOfSearch : ByteArray := prog_1_method_29_code
def yX3_testsOfSearch : MethodName := ⟨RX3, "testsOfSearch", "()I"⟩
abbrev cX3_lowestCipher : ByteArray := prog_1_method_30_code
def yX3_lowestCipher : MethodName := ⟨RX3, "lowestCipher", "(I)I"⟩
abbrev cX3_isHeard : ByteArray := prog_1_method_31_code
def yX3_isHeard : MethodName := ⟨RX3, "isHeard", "(I)Z"⟩
abbrev cX3_robbed : ByteArray := prog_1_method_32_code
def yX3_robbed : MethodName := ⟨RX3, "robbed", "(I)I"⟩
abbrev cX3_lowest : ByteArray := prog_1_method_33_code
def yX3_lowest : MethodName := ⟨RX3, "lowest", "(I)I"⟩
abbrev cX3_undo : ByteArray := prog_1_method_34_code
def yX3_undo : MethodName := ⟨RX3, "undo", "()I"⟩
abbrev cX3_save : ByteArray := prog_1_method_35_code
def yX3_save : MethodName := ⟨RX3, "save", "(I)I"⟩
abbrev cX3_restore : ByteArray := prog_1_method_36_code
def yX3_restore : MethodName := ⟨RX3, "restore", "(I)I"⟩
abbrev cX3_checksum : ByteArray := prog_1_method_37_code
def yX3_checksum : MethodName := ⟨RX3, "checksum", "()J"⟩
abbrev cX3_mixOpenPipes : ByteArray := prog_1_method_38_code
def yX3_mixOpenPipes : MethodName := ⟨RX3, "mixOpenPipes", "(J)J"⟩
abbrev cX3_mix : ByteArray := prog_1_method_39_code
def yX3_mix : MethodName := ⟨RX3, "mix", "(JI)J"⟩
abbrev cX3_readWind : ByteArray := prog_1_method_40_code
def yX3_readWind : MethodName := ⟨RX3, "readWind", "()V"⟩
abbrev cX3_letPass : ByteArray := prog_1_method_41_code
def yX3_letPass : MethodName := ⟨RX3, "letPass", "(LOrganWind$State;I)I"⟩
abbrev cX3_detuning : ByteArray := prog_1_method_42_code
def yX3_detuning : MethodName := ⟨RX3, "detuning", "(I)I"⟩
abbrev cX3_pitch : ByteArray := prog_1_method_43_code
def yX3_pitch : MethodName := ⟨RX3, "pitch", "(II)I"⟩
abbrev cX3_remember : ByteArray := prog_1_method_44_code
def yX3_remember : MethodName := ⟨RX3, "remember", "()V"⟩
abbrev cX3_copyState : ByteArray := prog_1_method_45_code
def yX3_copyState : MethodName := ⟨RX3, "copyState", "(LOrganWind$State;LOrganWind$State;)V"⟩
abbrev cX3_isStop : ByteArray := prog_1_method_46_code
def yX3_isStop : MethodName := ⟨RX3, "isStop", "(I)Z"⟩
abbrev cX3_isManual : ByteArray := prog_1_method_47_code
def yX3_isManual : MethodName := ⟨RX3, "isManual", "(I)Z"⟩
abbrev cX3_isKey : ByteArray := prog_1_method_48_code
def yX3_isKey : MethodName := ⟨RX3, "isKey", "(I)Z"⟩
abbrev cX3_isSlot : ByteArray := prog_1_method_49_code
def yX3_isSlot : MethodName := ⟨RX3, "isSlot", "(I)Z"⟩
abbrev cX3_isWithin : ByteArray := prog_1_method_50_code
def yX3_isWithin : MethodName := ⟨RX3, "isWithin", "(III)Z"⟩
abbrev cX3_pipeIndex : ByteArray := prog_1_method_51_code
def yX3_pipeIndex : MethodName := ⟨RX3, "pipeIndex", "(II)I"⟩
abbrev cX3_divide : ByteArray := prog_1_method_52_code
def yX3_divide : MethodName := ⟨RX3, "divide", "(II)I"⟩
abbrev cX3_isIn : ByteArray := prog_1_method_53_code
def yX3_isIn : MethodName := ⟨RX3, "isIn", "(II)Z"⟩
abbrev cX3_with : ByteArray := prog_1_method_54_code
def yX3_with : MethodName := ⟨RX3, "with", "(IIZ)I"⟩
abbrev cX3_rowOfStops : ByteArray := prog_1_method_55_code
def yX3_rowOfStops : MethodName := ⟨RX3, "rowOfStops", "(II)I"⟩
abbrev cX3_countOfAll : ByteArray := prog_1_method_56_code
def yX3_countOfAll : MethodName := ⟨RX3, "countOfAll", "([I)I"⟩
abbrev cX3_sumOf : ByteArray := prog_1_method_57_code
def yX3_sumOf : MethodName := ⟨RX3, "sumOf", "([I)I"⟩
def RX4 : String := "OrganWindModel"
def TX4 : u_T := fun k => match k with
  | 0 => ("OrganWindModel", "v", "[I", true)
  | 1 => ("OrganWindModel", "spare", "[I", true)
  | 2 => ("OrganWindModel", "past", "[I", true)
  | 3 => ("OrganWindModel", "pasts", "I", false)
  | 4 => ("OrganWindModel", "kept", "[I", true)
  | 5 => ("OrganWindModel", "isKept", "[Z", true)
  | 6 => ("OrganWindModel", "text", "[I", true)
  | 7 => ("OrganWindModel", "length", "I", false)
  | 8 => ("OrganWindModel", "lows", "[I", true)
  | 9 => ("OrganWindModel", "highs", "[I", true)
  | 10 => ("OrganWindModel", "firsts", "[I", true)
  | 11 => ("OrganWindModel", "acting", "[I", true)
  | 12 => ("OrganWindModel", "open", "[I", true)
  | 13 => ("OrganWindModel", "needs", "[I", true)
  | 14 => ("OrganWindModel", "pressures", "[I", true)
  | 15 => ("OrganWindModel", "asked", "[I", true)
  | 16 => ("OrganWindModel", "got", "[I", true)
  | 17 => ("OrganWindModel", "place", "I", false)
  | 18 => ("OrganWindModel", "act", "I", false)
  | 19 => ("OrganWindModel", "first", "I", false)
  | 20 => ("OrganWindModel", "number", "I", false)
  | _ => ("OrganWindModel", "spoke", "[Z", true)
def tyX4 : Nat → FieldType := fun k => match k with
  | 0 => .array .int
  | 1 => .array .int
  | 2 => .array .int
  | 3 => .int
  | 4 => .array .int
  | 5 => .array .boolean
  | 6 => .array .int
  | 7 => .int
  | 8 => .array .int
  | 9 => .array .int
  | 10 => .array .int
  | 11 => .array .int
  | 12 => .array .int
  | 13 => .array .int
  | 14 => .array .int
  | 15 => .array .int
  | 16 => .array .int
  | 17 => .int
  | 18 => .int
  | 19 => .int
  | 20 => .int
  | _ => .array .boolean
abbrev wsX40 : List Cond := u_ws RX4 TX4 22
theorem nmX4 : ∀ a, a < 22 → ∀ b, b < 22 → a ≠ b → (TX4 a).2.1 ≠ (TX4 b).2.1 := by decide +kernel
theorem tyX4_ok : ∀ k, k < 22 → parseFieldDescriptor (TX4 k).2.2.1 = some (tyX4 k) := by decide +kernel
abbrev cX4_init : ByteArray := prog_6_method_1_code
def yX4_init : MethodName := ⟨RX4, "<init>", "()V"⟩
abbrev cX4_in : ByteArray := prog_6_method_3_code
def yX4_in : MethodName := ⟨RX4, "in", "(III)Z"⟩
abbrev cX4_isStop : ByteArray := prog_6_method_4_code
def yX4_isStop : MethodName := ⟨RX4, "isStop", "(I)Z"⟩
abbrev cX4_isKey : ByteArray := prog_6_method_5_code
def yX4_isKey : MethodName := ⟨RX4, "isKey", "(I)Z"⟩
abbrev cX4_down : ByteArray := prog_6_method_6_code
def yX4_down : MethodName := ⟨RX4, "down", "(II)I"⟩
abbrev cX4_puts : ByteArray := prog_6_method_7_code
def yX4_puts : MethodName := ⟨RX4, "puts", "(II)I"⟩
abbrev cX4_records : ByteArray := prog_6_method_8_code
def yX4_records : MethodName := ⟨RX4, "records", "()V"⟩
abbrev cX4_size : ByteArray := prog_6_method_9_code
def yX4_size : MethodName := ⟨RX4, "size", "(I)I"⟩
abbrev cX4_layOut : ByteArray := prog_6_method_10_code
def yX4_layOut : MethodName := ⟨RX4, "layOut", "(IIII)I"⟩
abbrev cX4_stop : ByteArray := prog_6_method_11_code
def yX4_stop : MethodName := ⟨RX4, "stop", "(II)I"⟩
abbrev cX4_set : ByteArray := prog_6_method_12_code
def yX4_set : MethodName := ⟨RX4, "set", "(II)I"⟩
abbrev cX4_ciphersAll : ByteArray := prog_6_method_13_code
def yX4_ciphersAll : MethodName := ⟨RX4, "ciphersAll", "()I"⟩
abbrev cX4_with : ByteArray := prog_6_method_14_code
def yX4_with : MethodName := ⟨RX4, "with", "(IIZ)I"⟩
abbrev cX4_cipher : ByteArray := prog_6_method_15_code
def yX4_cipher : MethodName := ⟨RX4, "cipher", "(IIZ)I"⟩
abbrev cX4_drawn : ByteArray := prog_6_method_16_code
def yX4_drawn : MethodName := ⟨RX4, "drawn", "()I"⟩
abbrev cX4_draws : ByteArray := prog_6_method_17_code
def yX4_draws : MethodName := ⟨RX4, "draws", "(IZ)I"⟩
abbrev cX4_draw : ByteArray := prog_6_method_18_code
def yX4_draw : MethodName := ⟨RX4, "draw", "(IZ)I"⟩
abbrev cX4_presses : ByteArray := prog_6_method_19_code
def yX4_presses : MethodName := ⟨RX4, "presses", "(IIZ)I"⟩
abbrev cX4_press : ByteArray := prog_6_method_20_code
def yX4_press : MethodName := ⟨RX4, "press", "(IIZ)I"⟩
abbrev cX4_couple : ByteArray := prog_6_method_21_code
def yX4_couple : MethodName := ⟨RX4, "couple", "(ZZ)I"⟩
abbrev cX4_acts : ByteArray := prog_6_method_22_code
def yX4_acts : MethodName := ⟨RX4, "acts", "(Z)V"⟩
abbrev cX4_need : ByteArray := prog_6_method_23_code
def yX4_need : MethodName := ⟨RX4, "need", "(II)I"⟩
abbrev cX4_reservoir : ByteArray := prog_6_method_24_code
def yX4_reservoir : MethodName := ⟨RX4, "reservoir", "()I"⟩
abbrev cX4_lays : ByteArray := prog_6_method_25_code
def yX4_lays : MethodName := ⟨RX4, "lays", "(IZ)V"⟩
abbrev cX4_laysNow : ByteArray := prog_6_method_26_code
def yX4_laysNow : MethodName := ⟨RX4, "laysNow", "()V"⟩
abbrev cX4_isOpen : ByteArray := prog_6_method_27_code
def yX4_isOpen : MethodName := ⟨RX4, "isOpen", "(II)Z"⟩
abbrev cX4_reasonOf : ByteArray := prog_6_method_28_code
def yX4_reasonOf : MethodName := ⟨RX4, "reasonOf", "(III)I"⟩
abbrev cX4_pitch : ByteArray := prog_6_method_29_code
def yX4_pitch : MethodName := ⟨RX4, "pitch", "(II)I"⟩
abbrev cX4_bend : ByteArray := prog_6_method_30_code
def yX4_bend : MethodName := ⟨RX4, "bend", "(I)I"⟩
abbrev cX4_ticks : ByteArray := prog_6_method_31_code
def yX4_ticks : MethodName := ⟨RX4, "ticks", "()V"⟩
abbrev cX4_passes : ByteArray := prog_6_method_32_code
def yX4_passes : MethodName := ⟨RX4, "passes", "(I)I"⟩
abbrev cX4_tick : ByteArray := prog_6_method_33_code
def yX4_tick : MethodName := ⟨RX4, "tick", "(I)I"⟩
abbrev cX4_append : ByteArray := prog_6_method_34_code
def yX4_append : MethodName := ⟨RX4, "append", "(I)I"⟩
abbrev cX4_clearText : ByteArray := prog_6_method_35_code
def yX4_clearText : MethodName := ⟨RX4, "clearText", "()I"⟩
abbrev cX4_here : ByteArray := prog_6_method_36_code
def yX4_here : MethodName := ⟨RX4, "here", "()I"⟩
abbrev cX4_takes : ByteArray := prog_6_method_37_code
def yX4_takes : MethodName := ⟨RX4, "takes", "(I)Z"⟩
abbrev cX4_isDigit : ByteArray := prog_6_method_38_code
def yX4_isDigit : MethodName := ⟨RX4, "isDigit", "()Z"⟩
abbrev cX4_isFirst : ByteArray := prog_6_method_39_code
def yX4_isFirst : MethodName := ⟨RX4, "isFirst", "(I)Z"⟩
abbrev cX4_isNumber : ByteArray := prog_6_method_40_code
def yX4_isNumber : MethodName := ⟨RX4, "isNumber", "(II)Z"⟩
abbrev cX4_isAct : ByteArray := prog_6_method_41_code
def yX4_isAct : MethodName := ⟨RX4, "isAct", "()Z"⟩
abbrev cX4_isText : ByteArray := prog_6_method_42_code
def yX4_isText : MethodName := ⟨RX4, "isText", "()Z"⟩
abbrev cX4_faultPosition : ByteArray := prog_6_method_43_code
def yX4_faultPosition : MethodName := ⟨RX4, "faultPosition", "()I"⟩
abbrev cX4_play : ByteArray := prog_6_method_44_code
def yX4_play : MethodName := ⟨RX4, "play", "()I"⟩
abbrev cX4_speaking : ByteArray := prog_6_method_45_code
def yX4_speaking : MethodName := ⟨RX4, "speaking", "(I)I"⟩
abbrev cX4_openMany : ByteArray := prog_6_method_46_code
def yX4_openMany : MethodName := ⟨RX4, "openMany", "()I"⟩
abbrev cX4_tells : ByteArray := prog_6_method_47_code
def yX4_tells : MethodName := ⟨RX4, "tells", "(I)I"⟩
abbrev cX4_tell : ByteArray := prog_6_method_48_code
def yX4_tell : MethodName := ⟨RX4, "tell", "(I)I"⟩
abbrev cX4_chestTells : ByteArray := prog_6_method_49_code
def yX4_chestTells : MethodName := ⟨RX4, "chestTells", "(II)I"⟩
abbrev cX4_chest : ByteArray := prog_6_method_50_code
def yX4_chest : MethodName := ⟨RX4, "chest", "(II)I"⟩
abbrev cX4_strokes : ByteArray := prog_6_method_51_code
def yX4_strokes : MethodName := ⟨RX4, "strokes", "(I)I"⟩
abbrev cX4_pipeTells : ByteArray := prog_6_method_52_code
def yX4_pipeTells : MethodName := ⟨RX4, "pipeTells", "(III)I"⟩
abbrev cX4_pipe : ByteArray := prog_6_method_53_code
def yX4_pipe : MethodName := ⟨RX4, "pipe", "(III)I"⟩
abbrev cX4_reasonNow : ByteArray := prog_6_method_54_code
def yX4_reasonNow : MethodName := ⟨RX4, "reasonNow", "(II)I"⟩
abbrev cX4_reason : ByteArray := prog_6_method_55_code
def yX4_reason : MethodName := ⟨RX4, "reason", "(II)I"⟩
abbrev cX4_tune : ByteArray := prog_6_method_56_code
def yX4_tune : MethodName := ⟨RX4, "tune", "(II)I"⟩
abbrev cX4_mistunedNow : ByteArray := prog_6_method_57_code
def yX4_mistunedNow : MethodName := ⟨RX4, "mistunedNow", "()I"⟩
abbrev cX4_mistuned : ByteArray := prog_6_method_58_code
def yX4_mistuned : MethodName := ⟨RX4, "mistuned", "()I"⟩
abbrev cX4_isHeard : ByteArray := prog_6_method_59_code
def yX4_isHeard : MethodName := ⟨RX4, "isHeard", "(II)Z"⟩
abbrev cX4_searches : ByteArray := prog_6_method_60_code
def yX4_searches : MethodName := ⟨RX4, "searches", "(I)I"⟩
abbrev cX4_lowestOf : ByteArray := prog_6_method_61_code
def yX4_lowestOf : MethodName := ⟨RX4, "lowestOf", "(I)I"⟩
abbrev cX4_search : ByteArray := prog_6_method_62_code
def yX4_search : MethodName := ⟨RX4, "search", "(I)I"⟩
abbrev cX4_robbed : ByteArray := prog_6_method_63_code
def yX4_robbed : MethodName := ⟨RX4, "robbed", "(I)I"⟩
abbrev cX4_lowest : ByteArray := prog_6_method_64_code
def yX4_lowest : MethodName := ⟨RX4, "lowest", "(I)I"⟩
abbrev cX4_undo : ByteArray := prog_6_method_65_code
def yX4_undo : MethodName := ⟨RX4, "undo", "()I"⟩
abbrev cX4_save : ByteArray := prog_6_method_66_code
def yX4_save : MethodName := ⟨RX4, "save", "(I)I"⟩
abbrev cX4_restore : ByteArray := prog_6_method_67_code
def yX4_restore : MethodName := ⟨RX4, "restore", "(I)I"⟩
abbrev cX4_more : ByteArray := prog_6_method_68_code
def yX4_more : MethodName := ⟨RX4, "more", "(JI)J"⟩
abbrev cX4_checksum : ByteArray := prog_6_method_69_code
def yX4_checksum : MethodName := ⟨RX4, "checksum", "()J"⟩
def RJ6 : String := "java/lang/Integer"
def TJ6 : u_T := fun k => match k with
  | _ => ("", "", "", false)
def tyJ6 : Nat → FieldType := fun k => match k with
  | _ => .int
abbrev wsJ60 : List Cond := u_ws RJ6 TJ6 0
theorem nmJ6 : ∀ a, a < 0 → ∀ b, b < 0 → a ≠ b → (TJ6 a).2.1 ≠ (TJ6 b).2.1 := by decide +kernel
theorem tyJ6_ok : ∀ k, k < 0 → parseFieldDescriptor (TJ6 k).2.2.1 = some (tyJ6 k) := by decide +kernel
abbrev cJ6_bitCount_0f7a4 : ByteArray := prog_7_method_49_code
def yJ6_bitCount_0f7a4 : MethodName := ⟨RJ6, "bitCount", "(I)I"⟩
def RJ9 : String := "java/lang/Math"
def TJ9 : u_T := fun k => match k with
  | _ => ("", "", "", false)
def tyJ9 : Nat → FieldType := fun k => match k with
  | _ => .int
abbrev wsJ90 : List Cond := u_ws RJ9 TJ9 0
theorem nmJ9 : ∀ a, a < 0 → ∀ b, b < 0 → a ≠ b → (TJ9 a).2.1 ≠ (TJ9 b).2.1 := by decide +kernel
theorem tyJ9_ok : ∀ k, k < 0 → parseFieldDescriptor (TJ9 k).2.2.1 = some (tyJ9 k) := by decide +kernel
abbrev cJ9_floorDiv_7cf53 : ByteArray := prog_8_method_47_code
def yJ9_floorDiv_7cf53 : MethodName := ⟨RJ9, "floorDiv", "(II)I"⟩
abbrev cJ9_max_7cf53 : ByteArray := prog_8_method_65_code
def yJ9_max_7cf53 : MethodName := ⟨RJ9, "max", "(II)I"⟩
abbrev cJ9_min_7cf53 : ByteArray := prog_8_method_69_code
def yJ9_min_7cf53 : MethodName := ⟨RJ9, "min", "(II)I"⟩
def RJ10 : String := "java/lang/System"
def TJ10 : u_T := fun k => match k with
  | _ => ("", "", "", false)
def tyJ10 : Nat → FieldType := fun k => match k with
  | _ => .int
abbrev wsJ100 : List Cond := u_ws RJ10 TJ10 0
theorem nmJ10 : ∀ a, a < 0 → ∀ b, b < 0 → a ≠ b → (TJ10 a).2.1 ≠ (TJ10 b).2.1 := by decide +kernel
theorem tyJ10_ok : ∀ k, k < 0 → parseFieldDescriptor (TJ10 k).2.2.1 = some (tyJ10 k) := by decide +kernel
def RL : String := "OrganWindLaw"
abbrev cL_law : ByteArray := code
def yL_law : MethodName := ⟨RL, "law", "([I)Z"⟩
abbrev vwCl : List vw_C := [(RX0, TX0, 20), (RX1, TX1, 7), (RX2, TX2, 6), (RX3, TX3, 9), (RX4, TX4, 22)]
end
section
theorem dX0_init_0 : decode cX0_init 0 = .ok (.aload_n 0, 1) := by decide +kernel
theorem dX0_init_1 : decode cX0_init 1 = .ok (.invokespecial 3, 3) := by decide +kernel
theorem dX0_init_4 : decode cX0_init 4 = .ok (.aload_n 0, 1) := by decide +kernel
theorem dX0_init_5 : decode cX0_init 5 = .ok (.bipush 8, 2) := by decide +kernel
theorem dX0_init_7 : decode cX0_init 7 = .ok (.newarray .int, 2) := by decide +kernel
theorem dX0_init_9 : decode cX0_init 9 = .ok (.putfield 9, 3) := by decide +kernel
theorem dX0_init_12 : decode cX0_init 12 = .ok (.aload_n 0, 1) := by decide +kernel
theorem dX0_init_13 : decode cX0_init 13 = .ok (.bipush 8, 2) := by decide +kernel
theorem dX0_init_15 : decode cX0_init 15 = .ok (.newarray .int, 2) := by decide +kernel
theorem dX0_init_17 : decode cX0_init 17 = .ok (.putfield 15, 3) := by decide +kernel
theorem dX0_init_20 : decode cX0_init 20 = .ok (.aload_n 0, 1) := by decide +kernel
theorem dX0_init_21 : decode cX0_init 21 = .ok (.bipush 8, 2) := by decide +kernel
theorem dX0_init_23 : decode cX0_init 23 = .ok (.newarray .int, 2) := by decide +kernel
theorem dX0_init_25 : decode cX0_init 25 = .ok (.putfield 18, 3) := by decide +kernel
theorem dX0_init_28 : decode cX0_init 28 = .ok (.aload_n 0, 1) := by decide +kernel
theorem dX0_init_29 : decode cX0_init 29 = .ok (.bipush 8, 2) := by decide +kernel
theorem dX0_init_31 : decode cX0_init 31 = .ok (.newarray .int, 2) := by decide +kernel
theorem dX0_init_33 : decode cX0_init 33 = .ok (.putfield 21, 3) := by decide +kernel
theorem dX0_init_36 : decode cX0_init 36 = .ok (.aload_n 0, 1) := by decide +kernel
theorem dX0_init_37 : decode cX0_init 37 = .ok (.bipush 8, 2) := by decide +kernel
theorem dX0_init_39 : decode cX0_init 39 = .ok (.newarray .int, 2) := by decide +kernel
theorem dX0_init_41 : decode cX0_init 41 = .ok (.putfield 24, 3) := by decide +kernel
theorem dX0_init_44 : decode cX0_init 44 = .ok (.aload_n 0, 1) := by decide +kernel
theorem dX0_init_45 : decode cX0_init 45 = .ok (.sipush 192, 3) := by decide +kernel
theorem dX0_init_48 : decode cX0_init 48 = .ok (.newarray .int, 2) := by decide +kernel
theorem dX0_init_50 : decode cX0_init 50 = .ok (.putfield 27, 3) := by decide +kernel
theorem dX0_init_53 : decode cX0_init 53 = .ok (.aload_n 0, 1) := by decide +kernel
theorem dX0_init_54 : decode cX0_init 54 = .ok (.bipush 9, 2) := by decide +kernel
theorem dX0_init_56 : decode cX0_init 56 = .ok (.newarray .int, 2) := by decide +kernel
theorem dX0_init_58 : decode cX0_init 58 = .ok (.putfield 30, 3) := by decide +kernel
theorem dX0_init_61 : decode cX0_init 61 = .ok (.aload_n 0, 1) := by decide +kernel
theorem dX0_init_62 : decode cX0_init 62 = .ok (.iconst 2, 1) := by decide +kernel
theorem dX0_init_63 : decode cX0_init 63 = .ok (.newarray .int, 2) := by decide +kernel
theorem dX0_init_65 : decode cX0_init 65 = .ok (.putfield 33, 3) := by decide +kernel
theorem dX0_init_68 : decode cX0_init 68 = .ok (.aload_n 0, 1) := by decide +kernel
theorem dX0_init_69 : decode cX0_init 69 = .ok (.iconst 2, 1) := by decide +kernel
theorem dX0_init_70 : decode cX0_init 70 = .ok (.newarray .int, 2) := by decide +kernel
theorem dX0_init_72 : decode cX0_init 72 = .ok (.putfield 36, 3) := by decide +kernel
theorem dX0_init_75 : decode cX0_init 75 = .ok (.aload_n 0, 1) := by decide +kernel
theorem dX0_init_76 : decode cX0_init 76 = .ok (.sipush 3000, 3) := by decide +kernel
theorem dX0_init_79 : decode cX0_init 79 = .ok (.putfield 39, 3) := by decide +kernel
theorem dX0_init_82 : decode cX0_init 82 = .ok (.aload_n 0, 1) := by decide +kernel
theorem dX0_init_83 : decode cX0_init 83 = .ok (.iconst 1, 1) := by decide +kernel
theorem dX0_init_84 : decode cX0_init 84 = .ok (.putfield 43, 3) := by decide +kernel
theorem dX0_init_87 : decode cX0_init 87 = .ok (.iconst 0, 1) := by decide +kernel
theorem dX0_init_88 : decode cX0_init 88 = .ok (.istore_n 1, 1) := by decide +kernel
theorem dX0_init_89 : decode cX0_init 89 = .ok (.iload_n 1, 1) := by decide +kernel
theorem dX0_init_90 : decode cX0_init 90 = .ok (.bipush 8, 2) := by decide +kernel
theorem dX0_init_92 : decode cX0_init 92 = .ok (.if_icmp .ge 41, 3) := by decide +kernel
theorem dX0_init_95 : decode cX0_init 95 = .ok (.aload_n 0, 1) := by decide +kernel
theorem dX0_init_96 : decode cX0_init 96 = .ok (.getfield 9, 3) := by decide +kernel
theorem dX0_init_99 : decode cX0_init 99 = .ok (.iload_n 1, 1) := by decide +kernel
theorem dX0_init_100 : decode cX0_init 100 = .ok (.iload_n 1, 1) := by decide +kernel
theorem dX0_init_101 : decode cX0_init 101 = .ok (.iconst 2, 1) := by decide +kernel
theorem dX0_init_102 : decode cX0_init 102 = .ok (.irem, 1) := by decide +kernel
theorem dX0_init_103 : decode cX0_init 103 = .ok (.iastore, 1) := by decide +kernel
theorem dX0_init_104 : decode cX0_init 104 = .ok (.aload_n 0, 1) := by decide +kernel
theorem dX0_init_105 : decode cX0_init 105 = .ok (.getfield 15, 3) := by decide +kernel
theorem dX0_init_108 : decode cX0_init 108 = .ok (.iload_n 1, 1) := by decide +kernel
theorem dX0_init_109 : decode cX0_init 109 = .ok (.iconst 4, 1) := by decide +kernel
theorem dX0_init_110 : decode cX0_init 110 = .ok (.iconst 2, 1) := by decide +kernel
theorem dX0_init_111 : decode cX0_init 111 = .ok (.iload_n 1, 1) := by decide +kernel
theorem dX0_init_112 : decode cX0_init 112 = .ok (.imul, 1) := by decide +kernel
theorem dX0_init_113 : decode cX0_init 113 = .ok (.iadd, 1) := by decide +kernel
theorem dX0_init_114 : decode cX0_init 114 = .ok (.iastore, 1) := by decide +kernel
theorem dX0_init_115 : decode cX0_init 115 = .ok (.aload_n 0, 1) := by decide +kernel
theorem dX0_init_116 : decode cX0_init 116 = .ok (.getfield 18, 3) := by decide +kernel
theorem dX0_init_119 : decode cX0_init 119 = .ok (.iload_n 1, 1) := by decide +kernel
theorem dX0_init_120 : decode cX0_init 120 = .ok (.bipush 20, 2) := by decide +kernel
theorem dX0_init_122 : decode cX0_init 122 = .ok (.iconst 5, 1) := by decide +kernel
theorem dX0_init_123 : decode cX0_init 123 = .ok (.iload_n 1, 1) := by decide +kernel
theorem dX0_init_124 : decode cX0_init 124 = .ok (.imul, 1) := by decide +kernel
theorem dX0_init_125 : decode cX0_init 125 = .ok (.iadd, 1) := by decide +kernel
theorem dX0_init_126 : decode cX0_init 126 = .ok (.iastore, 1) := by decide +kernel
theorem dX0_init_127 : decode cX0_init 127 = .ok (.iinc 1 1, 3) := by decide +kernel
theorem dX0_init_130 : decode cX0_init 130 = .ok (.goto (-41), 3) := by decide +kernel
theorem dX0_init_133 : decode cX0_init 133 = .ok (.getstatic 46, 3) := by decide +kernel
theorem dX0_init_136 : decode cX0_init 136 = .ok (.iconst 0, 1) := by decide +kernel
theorem dX0_init_137 : decode cX0_init 137 = .ok (.aload_n 0, 1) := by decide +kernel
theorem dX0_init_138 : decode cX0_init 138 = .ok (.getfield 30, 3) := by decide +kernel
theorem dX0_init_141 : decode cX0_init 141 = .ok (.iconst 0, 1) := by decide +kernel
theorem dX0_init_142 : decode cX0_init 142 = .ok (.bipush 9, 2) := by decide +kernel
theorem dX0_init_144 : decode cX0_init 144 = .ok (.invokestatic 49, 3) := by decide +kernel
theorem dX0_init_147 : decode cX0_init 147 = .ok (.return_, 1) := by decide +kernel
theorem dX0_takeStops_0 : decode cX0_takeStops 0 = .ok (.aload_n 1, 1) := by decide +kernel
theorem dX0_takeStops_1 : decode cX0_takeStops 1 = .ok (.getfield 9, 3) := by decide +kernel
theorem dX0_takeStops_4 : decode cX0_takeStops 4 = .ok (.iconst 0, 1) := by decide +kernel
theorem dX0_takeStops_5 : decode cX0_takeStops 5 = .ok (.aload_n 0, 1) := by decide +kernel
theorem dX0_takeStops_6 : decode cX0_takeStops 6 = .ok (.getfield 9, 3) := by decide +kernel
theorem dX0_takeStops_9 : decode cX0_takeStops 9 = .ok (.iconst 0, 1) := by decide +kernel
theorem dX0_takeStops_10 : decode cX0_takeStops 10 = .ok (.bipush 8, 2) := by decide +kernel
theorem dX0_takeStops_12 : decode cX0_takeStops 12 = .ok (.invokestatic 49, 3) := by decide +kernel
theorem dX0_takeStops_15 : decode cX0_takeStops 15 = .ok (.aload_n 1, 1) := by decide +kernel
theorem dX0_takeStops_16 : decode cX0_takeStops 16 = .ok (.getfield 15, 3) := by decide +kernel
theorem dX0_takeStops_19 : decode cX0_takeStops 19 = .ok (.iconst 0, 1) := by decide +kernel
theorem dX0_takeStops_20 : decode cX0_takeStops 20 = .ok (.aload_n 0, 1) := by decide +kernel
theorem dX0_takeStops_21 : decode cX0_takeStops 21 = .ok (.getfield 15, 3) := by decide +kernel
theorem dX0_takeStops_24 : decode cX0_takeStops 24 = .ok (.iconst 0, 1) := by decide +kernel
theorem dX0_takeStops_25 : decode cX0_takeStops 25 = .ok (.bipush 8, 2) := by decide +kernel
theorem dX0_takeStops_27 : decode cX0_takeStops 27 = .ok (.invokestatic 49, 3) := by decide +kernel
theorem dX0_takeStops_30 : decode cX0_takeStops 30 = .ok (.aload_n 1, 1) := by decide +kernel
theorem dX0_takeStops_31 : decode cX0_takeStops 31 = .ok (.getfield 18, 3) := by decide +kernel
theorem dX0_takeStops_34 : decode cX0_takeStops 34 = .ok (.iconst 0, 1) := by decide +kernel
theorem dX0_takeStops_35 : decode cX0_takeStops 35 = .ok (.aload_n 0, 1) := by decide +kernel
theorem dX0_takeStops_36 : decode cX0_takeStops 36 = .ok (.getfield 18, 3) := by decide +kernel
theorem dX0_takeStops_39 : decode cX0_takeStops 39 = .ok (.iconst 0, 1) := by decide +kernel
theorem dX0_takeStops_40 : decode cX0_takeStops 40 = .ok (.bipush 8, 2) := by decide +kernel
theorem dX0_takeStops_42 : decode cX0_takeStops 42 = .ok (.invokestatic 49, 3) := by decide +kernel
theorem dX0_takeStops_45 : decode cX0_takeStops 45 = .ok (.aload_n 1, 1) := by decide +kernel
theorem dX0_takeStops_46 : decode cX0_takeStops 46 = .ok (.getfield 21, 3) := by decide +kernel
theorem dX0_takeStops_49 : decode cX0_takeStops 49 = .ok (.iconst 0, 1) := by decide +kernel
theorem dX0_takeStops_50 : decode cX0_takeStops 50 = .ok (.aload_n 0, 1) := by decide +kernel
theorem dX0_takeStops_51 : decode cX0_takeStops 51 = .ok (.getfield 21, 3) := by decide +kernel
theorem dX0_takeStops_54 : decode cX0_takeStops 54 = .ok (.iconst 0, 1) := by decide +kernel
theorem dX0_takeStops_55 : decode cX0_takeStops 55 = .ok (.bipush 8, 2) := by decide +kernel
theorem dX0_takeStops_57 : decode cX0_takeStops 57 = .ok (.invokestatic 49, 3) := by decide +kernel
theorem dX0_takeStops_60 : decode cX0_takeStops 60 = .ok (.aload_n 1, 1) := by decide +kernel
theorem dX0_takeStops_61 : decode cX0_takeStops 61 = .ok (.getfield 24, 3) := by decide +kernel
theorem dX0_takeStops_64 : decode cX0_takeStops 64 = .ok (.iconst 0, 1) := by decide +kernel
theorem dX0_takeStops_65 : decode cX0_takeStops 65 = .ok (.aload_n 0, 1) := by decide +kernel
theorem dX0_takeStops_66 : decode cX0_takeStops 66 = .ok (.getfield 24, 3) := by decide +kernel
theorem dX0_takeStops_69 : decode cX0_takeStops 69 = .ok (.iconst 0, 1) := by decide +kernel
theorem dX0_takeStops_70 : decode cX0_takeStops 70 = .ok (.bipush 8, 2) := by decide +kernel
theorem dX0_takeStops_72 : decode cX0_takeStops 72 = .ok (.invokestatic 49, 3) := by decide +kernel
theorem dX0_takeStops_75 : decode cX0_takeStops 75 = .ok (.aload_n 1, 1) := by decide +kernel
theorem dX0_takeStops_76 : decode cX0_takeStops 76 = .ok (.getfield 27, 3) := by decide +kernel
theorem dX0_takeStops_79 : decode cX0_takeStops 79 = .ok (.iconst 0, 1) := by decide +kernel
theorem dX0_takeStops_80 : decode cX0_takeStops 80 = .ok (.aload_n 0, 1) := by decide +kernel
theorem dX0_takeStops_81 : decode cX0_takeStops 81 = .ok (.getfield 27, 3) := by decide +kernel
theorem dX0_takeStops_84 : decode cX0_takeStops 84 = .ok (.iconst 0, 1) := by decide +kernel
theorem dX0_takeStops_85 : decode cX0_takeStops 85 = .ok (.sipush 192, 3) := by decide +kernel
theorem dX0_takeStops_88 : decode cX0_takeStops 88 = .ok (.invokestatic 49, 3) := by decide +kernel
theorem dX0_takeStops_91 : decode cX0_takeStops 91 = .ok (.aload_n 1, 1) := by decide +kernel
theorem dX0_takeStops_92 : decode cX0_takeStops 92 = .ok (.getfield 33, 3) := by decide +kernel
theorem dX0_takeStops_95 : decode cX0_takeStops 95 = .ok (.iconst 0, 1) := by decide +kernel
theorem dX0_takeStops_96 : decode cX0_takeStops 96 = .ok (.aload_n 0, 1) := by decide +kernel
theorem dX0_takeStops_97 : decode cX0_takeStops 97 = .ok (.getfield 33, 3) := by decide +kernel
theorem dX0_takeStops_100 : decode cX0_takeStops 100 = .ok (.iconst 0, 1) := by decide +kernel
theorem dX0_takeStops_101 : decode cX0_takeStops 101 = .ok (.iconst 2, 1) := by decide +kernel
theorem dX0_takeStops_102 : decode cX0_takeStops 102 = .ok (.invokestatic 49, 3) := by decide +kernel
theorem dX0_takeStops_105 : decode cX0_takeStops 105 = .ok (.aload_n 0, 1) := by decide +kernel
theorem dX0_takeStops_106 : decode cX0_takeStops 106 = .ok (.aload_n 1, 1) := by decide +kernel
theorem dX0_takeStops_107 : decode cX0_takeStops 107 = .ok (.getfield 55, 3) := by decide +kernel
theorem dX0_takeStops_110 : decode cX0_takeStops 110 = .ok (.putfield 55, 3) := by decide +kernel
theorem dX0_takeStops_113 : decode cX0_takeStops 113 = .ok (.aload_n 0, 1) := by decide +kernel
theorem dX0_takeStops_114 : decode cX0_takeStops 114 = .ok (.aload_n 1, 1) := by decide +kernel
theorem dX0_takeStops_115 : decode cX0_takeStops 115 = .ok (.getfield 58, 3) := by decide +kernel
theorem dX0_takeStops_118 : decode cX0_takeStops 118 = .ok (.putfield 58, 3) := by decide +kernel
theorem dX0_takeStops_121 : decode cX0_takeStops 121 = .ok (.aload_n 0, 1) := by decide +kernel
theorem dX0_takeStops_122 : decode cX0_takeStops 122 = .ok (.aload_n 1, 1) := by decide +kernel
theorem dX0_takeStops_123 : decode cX0_takeStops 123 = .ok (.getfield 62, 3) := by decide +kernel
theorem dX0_takeStops_126 : decode cX0_takeStops 126 = .ok (.putfield 62, 3) := by decide +kernel
theorem dX0_takeStops_129 : decode cX0_takeStops 129 = .ok (.return_, 1) := by decide +kernel
theorem dX0_takeBellows_0 : decode cX0_takeBellows 0 = .ok (.aload_n 1, 1) := by decide +kernel
theorem dX0_takeBellows_1 : decode cX0_takeBellows 1 = .ok (.getfield 30, 3) := by decide +kernel
theorem dX0_takeBellows_4 : decode cX0_takeBellows 4 = .ok (.iconst 0, 1) := by decide +kernel
theorem dX0_takeBellows_5 : decode cX0_takeBellows 5 = .ok (.aload_n 0, 1) := by decide +kernel
theorem dX0_takeBellows_6 : decode cX0_takeBellows 6 = .ok (.getfield 30, 3) := by decide +kernel
theorem dX0_takeBellows_9 : decode cX0_takeBellows 9 = .ok (.iconst 0, 1) := by decide +kernel
theorem dX0_takeBellows_10 : decode cX0_takeBellows 10 = .ok (.bipush 9, 2) := by decide +kernel
theorem dX0_takeBellows_12 : decode cX0_takeBellows 12 = .ok (.invokestatic 49, 3) := by decide +kernel
theorem dX0_takeBellows_15 : decode cX0_takeBellows 15 = .ok (.aload_n 1, 1) := by decide +kernel
theorem dX0_takeBellows_16 : decode cX0_takeBellows 16 = .ok (.getfield 36, 3) := by decide +kernel
theorem dX0_takeBellows_19 : decode cX0_takeBellows 19 = .ok (.iconst 0, 1) := by decide +kernel
theorem dX0_takeBellows_20 : decode cX0_takeBellows 20 = .ok (.aload_n 0, 1) := by decide +kernel
theorem dX0_takeBellows_21 : decode cX0_takeBellows 21 = .ok (.getfield 36, 3) := by decide +kernel
theorem dX0_takeBellows_24 : decode cX0_takeBellows 24 = .ok (.iconst 0, 1) := by decide +kernel
theorem dX0_takeBellows_25 : decode cX0_takeBellows 25 = .ok (.iconst 2, 1) := by decide +kernel
theorem dX0_takeBellows_26 : decode cX0_takeBellows 26 = .ok (.invokestatic 49, 3) := by decide +kernel
theorem dX0_takeBellows_29 : decode cX0_takeBellows 29 = .ok (.aload_n 0, 1) := by decide +kernel
theorem dX0_takeBellows_30 : decode cX0_takeBellows 30 = .ok (.aload_n 1, 1) := by decide +kernel
theorem dX0_takeBellows_31 : decode cX0_takeBellows 31 = .ok (.getfield 39, 3) := by decide +kernel
theorem dX0_takeBellows_34 : decode cX0_takeBellows 34 = .ok (.putfield 39, 3) := by decide +kernel
theorem dX0_takeBellows_37 : decode cX0_takeBellows 37 = .ok (.aload_n 0, 1) := by decide +kernel
theorem dX0_takeBellows_38 : decode cX0_takeBellows 38 = .ok (.aload_n 1, 1) := by decide +kernel
theorem dX0_takeBellows_39 : decode cX0_takeBellows 39 = .ok (.getfield 65, 3) := by decide +kernel
theorem dX0_takeBellows_42 : decode cX0_takeBellows 42 = .ok (.putfield 65, 3) := by decide +kernel
theorem dX0_takeBellows_45 : decode cX0_takeBellows 45 = .ok (.aload_n 0, 1) := by decide +kernel
theorem dX0_takeBellows_46 : decode cX0_takeBellows 46 = .ok (.aload_n 1, 1) := by decide +kernel
theorem dX0_takeBellows_47 : decode cX0_takeBellows 47 = .ok (.getfield 68, 3) := by decide +kernel
theorem dX0_takeBellows_50 : decode cX0_takeBellows 50 = .ok (.putfield 68, 3) := by decide +kernel
theorem dX0_takeBellows_53 : decode cX0_takeBellows 53 = .ok (.aload_n 0, 1) := by decide +kernel
theorem dX0_takeBellows_54 : decode cX0_takeBellows 54 = .ok (.aload_n 1, 1) := by decide +kernel
theorem dX0_takeBellows_55 : decode cX0_takeBellows 55 = .ok (.getfield 71, 3) := by decide +kernel
theorem dX0_takeBellows_58 : decode cX0_takeBellows 58 = .ok (.putfield 71, 3) := by decide +kernel
theorem dX0_takeBellows_61 : decode cX0_takeBellows 61 = .ok (.aload_n 0, 1) := by decide +kernel
theorem dX0_takeBellows_62 : decode cX0_takeBellows 62 = .ok (.aload_n 1, 1) := by decide +kernel
theorem dX0_takeBellows_63 : decode cX0_takeBellows 63 = .ok (.getfield 43, 3) := by decide +kernel
theorem dX0_takeBellows_66 : decode cX0_takeBellows 66 = .ok (.putfield 43, 3) := by decide +kernel
theorem dX0_takeBellows_69 : decode cX0_takeBellows 69 = .ok (.aload_n 0, 1) := by decide +kernel
theorem dX0_takeBellows_70 : decode cX0_takeBellows 70 = .ok (.aload_n 1, 1) := by decide +kernel
theorem dX0_takeBellows_71 : decode cX0_takeBellows 71 = .ok (.getfield 74, 3) := by decide +kernel
theorem dX0_takeBellows_74 : decode cX0_takeBellows 74 = .ok (.putfield 74, 3) := by decide +kernel
theorem dX0_takeBellows_77 : decode cX0_takeBellows 77 = .ok (.aload_n 0, 1) := by decide +kernel
theorem dX0_takeBellows_78 : decode cX0_takeBellows 78 = .ok (.aload_n 1, 1) := by decide +kernel
theorem dX0_takeBellows_79 : decode cX0_takeBellows 79 = .ok (.getfield 77, 3) := by decide +kernel
theorem dX0_takeBellows_82 : decode cX0_takeBellows 82 = .ok (.putfield 77, 3) := by decide +kernel
theorem dX0_takeBellows_85 : decode cX0_takeBellows 85 = .ok (.aload_n 0, 1) := by decide +kernel
theorem dX0_takeBellows_86 : decode cX0_takeBellows 86 = .ok (.aload_n 1, 1) := by decide +kernel
theorem dX0_takeBellows_87 : decode cX0_takeBellows 87 = .ok (.getfield 80, 3) := by decide +kernel
theorem dX0_takeBellows_90 : decode cX0_takeBellows 90 = .ok (.putfield 80, 3) := by decide +kernel
theorem dX0_takeBellows_93 : decode cX0_takeBellows 93 = .ok (.return_, 1) := by decide +kernel
theorem dX0_manualOf_0 : decode cX0_manualOf 0 = .ok (.aload_n 0, 1) := by decide +kernel
theorem dX0_manualOf_1 : decode cX0_manualOf 1 = .ok (.getfield 9, 3) := by decide +kernel
theorem dX0_manualOf_4 : decode cX0_manualOf 4 = .ok (.iload_n 1, 1) := by decide +kernel
theorem dX0_manualOf_5 : decode cX0_manualOf 5 = .ok (.iaload, 1) := by decide +kernel
theorem dX0_manualOf_6 : decode cX0_manualOf 6 = .ok (.ifCond .ne 7, 3) := by decide +kernel
theorem dX0_manualOf_9 : decode cX0_manualOf 9 = .ok (.iconst 0, 1) := by decide +kernel
theorem dX0_manualOf_10 : decode cX0_manualOf 10 = .ok (.goto 4, 3) := by decide +kernel
theorem dX0_manualOf_13 : decode cX0_manualOf 13 = .ok (.iconst 1, 1) := by decide +kernel
theorem dX0_manualOf_14 : decode cX0_manualOf 14 = .ok (.ireturn, 1) := by decide +kernel
theorem dX0_need_0 : decode cX0_need 0 = .ok (.aload_n 0, 1) := by decide +kernel
theorem dX0_need_1 : decode cX0_need 1 = .ok (.getfield 15, 3) := by decide +kernel
theorem dX0_need_4 : decode cX0_need 4 = .ok (.iload_n 1, 1) := by decide +kernel
theorem dX0_need_5 : decode cX0_need 5 = .ok (.iaload, 1) := by decide +kernel
theorem dX0_need_6 : decode cX0_need 6 = .ok (.bipush 23, 2) := by decide +kernel
theorem dX0_need_8 : decode cX0_need 8 = .ok (.iload_n 2, 1) := by decide +kernel
theorem dX0_need_9 : decode cX0_need 9 = .ok (.isub, 1) := by decide +kernel
theorem dX0_need_10 : decode cX0_need 10 = .ok (.iconst 4, 1) := by decide +kernel
theorem dX0_need_11 : decode cX0_need 11 = .ok (.idiv, 1) := by decide +kernel
theorem dX0_need_12 : decode cX0_need 12 = .ok (.iadd, 1) := by decide +kernel
theorem dX0_need_13 : decode cX0_need 13 = .ok (.ireturn, 1) := by decide +kernel
theorem dX0_actingKeys_0 : decode cX0_actingKeys 0 = .ok (.aload_n 0, 1) := by decide +kernel
theorem dX0_actingKeys_1 : decode cX0_actingKeys 1 = .ok (.getfield 33, 3) := by decide +kernel
theorem dX0_actingKeys_4 : decode cX0_actingKeys 4 = .ok (.iconst 0, 1) := by decide +kernel
theorem dX0_actingKeys_5 : decode cX0_actingKeys 5 = .ok (.iaload, 1) := by decide +kernel
theorem dX0_actingKeys_6 : decode cX0_actingKeys 6 = .ok (.istore_n 2, 1) := by decide +kernel
theorem dX0_actingKeys_7 : decode cX0_actingKeys 7 = .ok (.aload_n 0, 1) := by decide +kernel
theorem dX0_actingKeys_8 : decode cX0_actingKeys 8 = .ok (.getfield 62, 3) := by decide +kernel
theorem dX0_actingKeys_11 : decode cX0_actingKeys 11 = .ok (.ifCond .eq 18, 3) := by decide +kernel
theorem dX0_actingKeys_14 : decode cX0_actingKeys 14 = .ok (.iload_n 2, 1) := by decide +kernel
theorem dX0_actingKeys_15 : decode cX0_actingKeys 15 = .ok (.aload_n 0, 1) := by decide +kernel
theorem dX0_actingKeys_16 : decode cX0_actingKeys 16 = .ok (.getfield 33, 3) := by decide +kernel
theorem dX0_actingKeys_19 : decode cX0_actingKeys 19 = .ok (.iconst 0, 1) := by decide +kernel
theorem dX0_actingKeys_20 : decode cX0_actingKeys 20 = .ok (.iaload, 1) := by decide +kernel
theorem dX0_actingKeys_21 : decode cX0_actingKeys 21 = .ok (.bipush 12, 2) := by decide +kernel
theorem dX0_actingKeys_23 : decode cX0_actingKeys 23 = .ok (.ishl, 1) := by decide +kernel
theorem dX0_actingKeys_24 : decode cX0_actingKeys 24 = .ok (.ldc 83, 2) := by decide +kernel
theorem dX0_actingKeys_26 : decode cX0_actingKeys 26 = .ok (.iand, 1) := by decide +kernel
theorem dX0_actingKeys_27 : decode cX0_actingKeys 27 = .ok (.ior, 1) := by decide +kernel
theorem dX0_actingKeys_28 : decode cX0_actingKeys 28 = .ok (.istore_n 2, 1) := by decide +kernel
theorem dX0_actingKeys_29 : decode cX0_actingKeys 29 = .ok (.iload_n 1, 1) := by decide +kernel
theorem dX0_actingKeys_30 : decode cX0_actingKeys 30 = .ok (.ifCond .ne 5, 3) := by decide +kernel
theorem dX0_actingKeys_33 : decode cX0_actingKeys 33 = .ok (.iload_n 2, 1) := by decide +kernel
theorem dX0_actingKeys_34 : decode cX0_actingKeys 34 = .ok (.ireturn, 1) := by decide +kernel
theorem dX0_actingKeys_35 : decode cX0_actingKeys 35 = .ok (.aload_n 0, 1) := by decide +kernel
theorem dX0_actingKeys_36 : decode cX0_actingKeys 36 = .ok (.getfield 58, 3) := by decide +kernel
theorem dX0_actingKeys_39 : decode cX0_actingKeys 39 = .ok (.ifCond .eq 14, 3) := by decide +kernel
theorem dX0_actingKeys_42 : decode cX0_actingKeys 42 = .ok (.aload_n 0, 1) := by decide +kernel
theorem dX0_actingKeys_43 : decode cX0_actingKeys 43 = .ok (.getfield 33, 3) := by decide +kernel
theorem dX0_actingKeys_46 : decode cX0_actingKeys 46 = .ok (.iconst 1, 1) := by decide +kernel
theorem dX0_actingKeys_47 : decode cX0_actingKeys 47 = .ok (.iaload, 1) := by decide +kernel
theorem dX0_actingKeys_48 : decode cX0_actingKeys 48 = .ok (.iload_n 2, 1) := by decide +kernel
theorem dX0_actingKeys_49 : decode cX0_actingKeys 49 = .ok (.ior, 1) := by decide +kernel
theorem dX0_actingKeys_50 : decode cX0_actingKeys 50 = .ok (.goto 9, 3) := by decide +kernel
theorem dX0_actingKeys_53 : decode cX0_actingKeys 53 = .ok (.aload_n 0, 1) := by decide +kernel
theorem dX0_actingKeys_54 : decode cX0_actingKeys 54 = .ok (.getfield 33, 3) := by decide +kernel
theorem dX0_actingKeys_57 : decode cX0_actingKeys 57 = .ok (.iconst 1, 1) := by decide +kernel
theorem dX0_actingKeys_58 : decode cX0_actingKeys 58 = .ok (.iaload, 1) := by decide +kernel
theorem dX0_actingKeys_59 : decode cX0_actingKeys 59 = .ok (.ireturn, 1) := by decide +kernel
theorem dX0_reservoirPressure_0 : decode cX0_reservoirPressure 0 = .ok (.aload_n 0, 1) := by decide +kernel
theorem dX0_reservoirPressure_1 : decode cX0_reservoirPressure 1 = .ok (.getfield 39, 3) := by decide +kernel
theorem dX0_reservoirPressure_4 : decode cX0_reservoirPressure 4 = .ok (.aload_n 0, 1) := by decide +kernel
theorem dX0_reservoirPressure_5 : decode cX0_reservoirPressure 5 = .ok (.getfield 30, 3) := by decide +kernel
theorem dX0_reservoirPressure_8 : decode cX0_reservoirPressure 8 = .ok (.iconst 3, 1) := by decide +kernel
theorem dX0_reservoirPressure_9 : decode cX0_reservoirPressure 9 = .ok (.iaload, 1) := by decide +kernel
theorem dX0_reservoirPressure_10 : decode cX0_reservoirPressure 10 = .ok (.if_icmp .lt 10, 3) := by decide +kernel
theorem dX0_reservoirPressure_13 : decode cX0_reservoirPressure 13 = .ok (.aload_n 0, 1) := by decide +kernel
theorem dX0_reservoirPressure_14 : decode cX0_reservoirPressure 14 = .ok (.getfield 30, 3) := by decide +kernel
theorem dX0_reservoirPressure_17 : decode cX0_reservoirPressure 17 = .ok (.iconst 0, 1) := by decide +kernel
theorem dX0_reservoirPressure_18 : decode cX0_reservoirPressure 18 = .ok (.iaload, 1) := by decide +kernel
theorem dX0_reservoirPressure_19 : decode cX0_reservoirPressure 19 = .ok (.ireturn, 1) := by decide +kernel
theorem dX0_reservoirPressure_20 : decode cX0_reservoirPressure 20 = .ok (.aload_n 0, 1) := by decide +kernel
theorem dX0_reservoirPressure_21 : decode cX0_reservoirPressure 21 = .ok (.getfield 30, 3) := by decide +kernel
theorem dX0_reservoirPressure_24 : decode cX0_reservoirPressure 24 = .ok (.iconst 0, 1) := by decide +kernel
theorem dX0_reservoirPressure_25 : decode cX0_reservoirPressure 25 = .ok (.iaload, 1) := by decide +kernel
theorem dX0_reservoirPressure_26 : decode cX0_reservoirPressure 26 = .ok (.aload_n 0, 1) := by decide +kernel
theorem dX0_reservoirPressure_27 : decode cX0_reservoirPressure 27 = .ok (.getfield 39, 3) := by decide +kernel
theorem dX0_reservoirPressure_30 : decode cX0_reservoirPressure 30 = .ok (.imul, 1) := by decide +kernel
theorem dX0_reservoirPressure_31 : decode cX0_reservoirPressure 31 = .ok (.aload_n 0, 1) := by decide +kernel
theorem dX0_reservoirPressure_32 : decode cX0_reservoirPressure 32 = .ok (.getfield 30, 3) := by decide +kernel
theorem dX0_reservoirPressure_35 : decode cX0_reservoirPressure 35 = .ok (.iconst 3, 1) := by decide +kernel
theorem dX0_reservoirPressure_36 : decode cX0_reservoirPressure 36 = .ok (.iaload, 1) := by decide +kernel
theorem dX0_reservoirPressure_37 : decode cX0_reservoirPressure 37 = .ok (.invokestatic 84, 3) := by decide +kernel
theorem dX0_reservoirPressure_40 : decode cX0_reservoirPressure 40 = .ok (.ireturn, 1) := by decide +kernel
theorem dX0_pump_0 : decode cX0_pump 0 = .ok (.aload_n 0, 1) := by decide +kernel
theorem dX0_pump_1 : decode cX0_pump 1 = .ok (.getfield 80, 3) := by decide +kernel
theorem dX0_pump_4 : decode cX0_pump 4 = .ok (.ifCond .ne 20, 3) := by decide +kernel
theorem dX0_pump_7 : decode cX0_pump 7 = .ok (.aload_n 0, 1) := by decide +kernel
theorem dX0_pump_8 : decode cX0_pump 8 = .ok (.getfield 39, 3) := by decide +kernel
theorem dX0_pump_11 : decode cX0_pump 11 = .ok (.aload_n 0, 1) := by decide +kernel
theorem dX0_pump_12 : decode cX0_pump 12 = .ok (.getfield 30, 3) := by decide +kernel
theorem dX0_pump_15 : decode cX0_pump 15 = .ok (.iconst 5, 1) := by decide +kernel
theorem dX0_pump_16 : decode cX0_pump 16 = .ok (.iaload, 1) := by decide +kernel
theorem dX0_pump_17 : decode cX0_pump 17 = .ok (.if_icmp .ge 7, 3) := by decide +kernel
theorem dX0_pump_20 : decode cX0_pump 20 = .ok (.aload_n 0, 1) := by decide +kernel
theorem dX0_pump_21 : decode cX0_pump 21 = .ok (.invokevirtual 88, 3) := by decide +kernel
theorem dX0_pump_24 : decode cX0_pump 24 = .ok (.aload_n 0, 1) := by decide +kernel
theorem dX0_pump_25 : decode cX0_pump 25 = .ok (.getfield 80, 3) := by decide +kernel
theorem dX0_pump_28 : decode cX0_pump 28 = .ok (.ifCond .le 7, 3) := by decide +kernel
theorem dX0_pump_31 : decode cX0_pump 31 = .ok (.aload_n 0, 1) := by decide +kernel
theorem dX0_pump_32 : decode cX0_pump 32 = .ok (.invokevirtual 91, 3) := by decide +kernel
theorem dX0_pump_35 : decode cX0_pump 35 = .ok (.return_, 1) := by decide +kernel
theorem dX0_beginStroke_0 : decode cX0_beginStroke 0 = .ok (.aload_n 0, 1) := by decide +kernel
theorem dX0_beginStroke_1 : decode cX0_beginStroke 1 = .ok (.aload_n 0, 1) := by decide +kernel
theorem dX0_beginStroke_2 : decode cX0_beginStroke 2 = .ok (.getfield 43, 3) := by decide +kernel
theorem dX0_beginStroke_5 : decode cX0_beginStroke 5 = .ok (.ifCond .ne 7, 3) := by decide +kernel
theorem dX0_beginStroke_8 : decode cX0_beginStroke 8 = .ok (.iconst 1, 1) := by decide +kernel
theorem dX0_beginStroke_9 : decode cX0_beginStroke 9 = .ok (.goto 4, 3) := by decide +kernel
theorem dX0_beginStroke_12 : decode cX0_beginStroke 12 = .ok (.iconst 0, 1) := by decide +kernel
theorem dX0_beginStroke_13 : decode cX0_beginStroke 13 = .ok (.putfield 43, 3) := by decide +kernel
theorem dX0_beginStroke_16 : decode cX0_beginStroke 16 = .ok (.aload_n 0, 1) := by decide +kernel
theorem dX0_beginStroke_17 : decode cX0_beginStroke 17 = .ok (.getfield 36, 3) := by decide +kernel
theorem dX0_beginStroke_20 : decode cX0_beginStroke 20 = .ok (.aload_n 0, 1) := by decide +kernel
theorem dX0_beginStroke_21 : decode cX0_beginStroke 21 = .ok (.getfield 43, 3) := by decide +kernel
theorem dX0_beginStroke_24 : decode cX0_beginStroke 24 = .ok (.dup2, 1) := by decide +kernel
theorem dX0_beginStroke_25 : decode cX0_beginStroke 25 = .ok (.iaload, 1) := by decide +kernel
theorem dX0_beginStroke_26 : decode cX0_beginStroke 26 = .ok (.iconst 1, 1) := by decide +kernel
theorem dX0_beginStroke_27 : decode cX0_beginStroke 27 = .ok (.iadd, 1) := by decide +kernel
theorem dX0_beginStroke_28 : decode cX0_beginStroke 28 = .ok (.iastore, 1) := by decide +kernel
theorem dX0_beginStroke_29 : decode cX0_beginStroke 29 = .ok (.aload_n 0, 1) := by decide +kernel
theorem dX0_beginStroke_30 : decode cX0_beginStroke 30 = .ok (.aload_n 0, 1) := by decide +kernel
theorem dX0_beginStroke_31 : decode cX0_beginStroke 31 = .ok (.getfield 30, 3) := by decide +kernel
theorem dX0_beginStroke_34 : decode cX0_beginStroke 34 = .ok (.bipush 6, 2) := by decide +kernel
theorem dX0_beginStroke_36 : decode cX0_beginStroke 36 = .ok (.iaload, 1) := by decide +kernel
theorem dX0_beginStroke_37 : decode cX0_beginStroke 37 = .ok (.putfield 74, 3) := by decide +kernel
theorem dX0_beginStroke_40 : decode cX0_beginStroke 40 = .ok (.aload_n 0, 1) := by decide +kernel
theorem dX0_beginStroke_41 : decode cX0_beginStroke 41 = .ok (.aload_n 0, 1) := by decide +kernel
theorem dX0_beginStroke_42 : decode cX0_beginStroke 42 = .ok (.getfield 30, 3) := by decide +kernel
theorem dX0_beginStroke_45 : decode cX0_beginStroke 45 = .ok (.bipush 7, 2) := by decide +kernel
theorem dX0_beginStroke_47 : decode cX0_beginStroke 47 = .ok (.iaload, 1) := by decide +kernel
theorem dX0_beginStroke_48 : decode cX0_beginStroke 48 = .ok (.putfield 80, 3) := by decide +kernel
theorem dX0_beginStroke_51 : decode cX0_beginStroke 51 = .ok (.aload_n 0, 1) := by decide +kernel
theorem dX0_beginStroke_52 : decode cX0_beginStroke 52 = .ok (.aload_n 0, 1) := by decide +kernel
theorem dX0_beginStroke_53 : decode cX0_beginStroke 53 = .ok (.getfield 74, 3) := by decide +kernel
theorem dX0_beginStroke_56 : decode cX0_beginStroke 56 = .ok (.aload_n 0, 1) := by decide +kernel
theorem dX0_beginStroke_57 : decode cX0_beginStroke 57 = .ok (.getfield 80, 3) := by decide +kernel
theorem dX0_beginStroke_60 : decode cX0_beginStroke 60 = .ok (.invokestatic 84, 3) := by decide +kernel
theorem dX0_beginStroke_63 : decode cX0_beginStroke 63 = .ok (.putfield 77, 3) := by decide +kernel
theorem dX0_beginStroke_66 : decode cX0_beginStroke 66 = .ok (.return_, 1) := by decide +kernel
theorem dX0_makePart_0 : decode cX0_makePart 0 = .ok (.aload_n 0, 1) := by decide +kernel
theorem dX0_makePart_1 : decode cX0_makePart 1 = .ok (.getfield 80, 3) := by decide +kernel
theorem dX0_makePart_4 : decode cX0_makePart 4 = .ok (.iconst 1, 1) := by decide +kernel
theorem dX0_makePart_5 : decode cX0_makePart 5 = .ok (.if_icmp .ne 10, 3) := by decide +kernel
theorem dX0_makePart_8 : decode cX0_makePart 8 = .ok (.aload_n 0, 1) := by decide +kernel
theorem dX0_makePart_9 : decode cX0_makePart 9 = .ok (.getfield 74, 3) := by decide +kernel
theorem dX0_makePart_12 : decode cX0_makePart 12 = .ok (.goto 7, 3) := by decide +kernel
theorem dX0_makePart_15 : decode cX0_makePart 15 = .ok (.aload_n 0, 1) := by decide +kernel
theorem dX0_makePart_16 : decode cX0_makePart 16 = .ok (.getfield 77, 3) := by decide +kernel
theorem dX0_makePart_19 : decode cX0_makePart 19 = .ok (.istore_n 1, 1) := by decide +kernel
theorem dX0_makePart_20 : decode cX0_makePart 20 = .ok (.aload_n 0, 1) := by decide +kernel
theorem dX0_makePart_21 : decode cX0_makePart 21 = .ok (.dup, 1) := by decide +kernel
theorem dX0_makePart_22 : decode cX0_makePart 22 = .ok (.getfield 80, 3) := by decide +kernel
theorem dX0_makePart_25 : decode cX0_makePart 25 = .ok (.iconst 1, 1) := by decide +kernel
theorem dX0_makePart_26 : decode cX0_makePart 26 = .ok (.isub, 1) := by decide +kernel
theorem dX0_makePart_27 : decode cX0_makePart 27 = .ok (.putfield 80, 3) := by decide +kernel
theorem dX0_makePart_30 : decode cX0_makePart 30 = .ok (.aload_n 0, 1) := by decide +kernel
theorem dX0_makePart_31 : decode cX0_makePart 31 = .ok (.dup, 1) := by decide +kernel
theorem dX0_makePart_32 : decode cX0_makePart 32 = .ok (.getfield 74, 3) := by decide +kernel
theorem dX0_makePart_35 : decode cX0_makePart 35 = .ok (.iload_n 1, 1) := by decide +kernel
theorem dX0_makePart_36 : decode cX0_makePart 36 = .ok (.isub, 1) := by decide +kernel
theorem dX0_makePart_37 : decode cX0_makePart 37 = .ok (.putfield 74, 3) := by decide +kernel
theorem dX0_makePart_40 : decode cX0_makePart 40 = .ok (.aload_n 0, 1) := by decide +kernel
theorem dX0_makePart_41 : decode cX0_makePart 41 = .ok (.dup, 1) := by decide +kernel
theorem dX0_makePart_42 : decode cX0_makePart 42 = .ok (.getfield 68, 3) := by decide +kernel
theorem dX0_makePart_45 : decode cX0_makePart 45 = .ok (.iload_n 1, 1) := by decide +kernel
theorem dX0_makePart_46 : decode cX0_makePart 46 = .ok (.iadd, 1) := by decide +kernel
theorem dX0_makePart_47 : decode cX0_makePart 47 = .ok (.putfield 68, 3) := by decide +kernel
theorem dX0_makePart_50 : decode cX0_makePart 50 = .ok (.aload_n 0, 1) := by decide +kernel
theorem dX0_makePart_51 : decode cX0_makePart 51 = .ok (.dup, 1) := by decide +kernel
theorem dX0_makePart_52 : decode cX0_makePart 52 = .ok (.getfield 39, 3) := by decide +kernel
theorem dX0_makePart_55 : decode cX0_makePart 55 = .ok (.iload_n 1, 1) := by decide +kernel
theorem dX0_makePart_56 : decode cX0_makePart 56 = .ok (.iadd, 1) := by decide +kernel
theorem dX0_makePart_57 : decode cX0_makePart 57 = .ok (.putfield 39, 3) := by decide +kernel
theorem dX0_makePart_60 : decode cX0_makePart 60 = .ok (.aload_n 0, 1) := by decide +kernel
theorem dX0_makePart_61 : decode cX0_makePart 61 = .ok (.getfield 39, 3) := by decide +kernel
theorem dX0_makePart_64 : decode cX0_makePart 64 = .ok (.aload_n 0, 1) := by decide +kernel
theorem dX0_makePart_65 : decode cX0_makePart 65 = .ok (.getfield 30, 3) := by decide +kernel
theorem dX0_makePart_68 : decode cX0_makePart 68 = .ok (.iconst 4, 1) := by decide +kernel
theorem dX0_makePart_69 : decode cX0_makePart 69 = .ok (.iaload, 1) := by decide +kernel
theorem dX0_makePart_70 : decode cX0_makePart 70 = .ok (.if_icmp .le 33, 3) := by decide +kernel
theorem dX0_makePart_73 : decode cX0_makePart 73 = .ok (.aload_n 0, 1) := by decide +kernel
theorem dX0_makePart_74 : decode cX0_makePart 74 = .ok (.dup, 1) := by decide +kernel
theorem dX0_makePart_75 : decode cX0_makePart 75 = .ok (.getfield 71, 3) := by decide +kernel
theorem dX0_makePart_78 : decode cX0_makePart 78 = .ok (.aload_n 0, 1) := by decide +kernel
theorem dX0_makePart_79 : decode cX0_makePart 79 = .ok (.getfield 39, 3) := by decide +kernel
theorem dX0_makePart_82 : decode cX0_makePart 82 = .ok (.aload_n 0, 1) := by decide +kernel
theorem dX0_makePart_83 : decode cX0_makePart 83 = .ok (.getfield 30, 3) := by decide +kernel
theorem dX0_makePart_86 : decode cX0_makePart 86 = .ok (.iconst 4, 1) := by decide +kernel
theorem dX0_makePart_87 : decode cX0_makePart 87 = .ok (.iaload, 1) := by decide +kernel
theorem dX0_makePart_88 : decode cX0_makePart 88 = .ok (.isub, 1) := by decide +kernel
theorem dX0_makePart_89 : decode cX0_makePart 89 = .ok (.iadd, 1) := by decide +kernel
theorem dX0_makePart_90 : decode cX0_makePart 90 = .ok (.putfield 71, 3) := by decide +kernel
theorem dX0_makePart_93 : decode cX0_makePart 93 = .ok (.aload_n 0, 1) := by decide +kernel
theorem dX0_makePart_94 : decode cX0_makePart 94 = .ok (.aload_n 0, 1) := by decide +kernel
theorem dX0_makePart_95 : decode cX0_makePart 95 = .ok (.getfield 30, 3) := by decide +kernel
theorem dX0_makePart_98 : decode cX0_makePart 98 = .ok (.iconst 4, 1) := by decide +kernel
theorem dX0_makePart_99 : decode cX0_makePart 99 = .ok (.iaload, 1) := by decide +kernel
theorem dX0_makePart_100 : decode cX0_makePart 100 = .ok (.putfield 39, 3) := by decide +kernel
theorem dX0_makePart_103 : decode cX0_makePart 103 = .ok (.return_, 1) := by decide +kernel
theorem dX1_init_0 : decode cX1_init 0 = .ok (.aload_n 0, 1) := by decide +kernel
theorem dX1_init_1 : decode cX1_init 1 = .ok (.invokespecial 3, 3) := by decide +kernel
theorem dX1_init_4 : decode cX1_init 4 = .ok (.aload_n 0, 1) := by decide +kernel
theorem dX1_init_5 : decode cX1_init 5 = .ok (.bipush 80, 2) := by decide +kernel
theorem dX1_init_7 : decode cX1_init 7 = .ok (.newarray .int, 2) := by decide +kernel
theorem dX1_init_9 : decode cX1_init 9 = .ok (.putfield 9, 3) := by decide +kernel
theorem dX1_init_12 : decode cX1_init 12 = .ok (.return_, 1) := by decide +kernel
theorem dX1_add_0 : decode cX1_add 0 = .ok (.aload_n 0, 1) := by decide +kernel
theorem dX1_add_1 : decode cX1_add 1 = .ok (.getfield 15, 3) := by decide +kernel
theorem dX1_add_4 : decode cX1_add 4 = .ok (.iconst 0, 1) := by decide +kernel
theorem dX1_add_5 : decode cX1_add 5 = .ok (.bipush 79, 2) := by decide +kernel
theorem dX1_add_7 : decode cX1_add 7 = .ok (.invokestatic 19, 3) := by decide +kernel
theorem dX1_add_10 : decode cX1_add 10 = .ok (.ifCond .ne 5, 3) := by decide +kernel
theorem dX1_add_13 : decode cX1_add 13 = .ok (.iconst 0, 1) := by decide +kernel
theorem dX1_add_14 : decode cX1_add 14 = .ok (.ireturn, 1) := by decide +kernel
theorem dX1_add_15 : decode cX1_add 15 = .ok (.aload_n 0, 1) := by decide +kernel
theorem dX1_add_16 : decode cX1_add 16 = .ok (.getfield 9, 3) := by decide +kernel
theorem dX1_add_19 : decode cX1_add 19 = .ok (.aload_n 0, 1) := by decide +kernel
theorem dX1_add_20 : decode cX1_add 20 = .ok (.getfield 15, 3) := by decide +kernel
theorem dX1_add_23 : decode cX1_add 23 = .ok (.iload_n 1, 1) := by decide +kernel
theorem dX1_add_24 : decode cX1_add 24 = .ok (.iastore, 1) := by decide +kernel
theorem dX1_add_25 : decode cX1_add 25 = .ok (.aload_n 0, 1) := by decide +kernel
theorem dX1_add_26 : decode cX1_add 26 = .ok (.dup, 1) := by decide +kernel
theorem dX1_add_27 : decode cX1_add 27 = .ok (.getfield 15, 3) := by decide +kernel
theorem dX1_add_30 : decode cX1_add 30 = .ok (.iconst 1, 1) := by decide +kernel
theorem dX1_add_31 : decode cX1_add 31 = .ok (.iadd, 1) := by decide +kernel
theorem dX1_add_32 : decode cX1_add 32 = .ok (.putfield 15, 3) := by decide +kernel
theorem dX1_add_35 : decode cX1_add 35 = .ok (.iconst 1, 1) := by decide +kernel
theorem dX1_add_36 : decode cX1_add 36 = .ok (.ireturn, 1) := by decide +kernel
theorem dX1_begin_0 : decode cX1_begin 0 = .ok (.aload_n 0, 1) := by decide +kernel
theorem dX1_begin_1 : decode cX1_begin 1 = .ok (.iconst 0, 1) := by decide +kernel
theorem dX1_begin_2 : decode cX1_begin 2 = .ok (.putfield 23, 3) := by decide +kernel
theorem dX1_begin_5 : decode cX1_begin 5 = .ok (.aload_n 0, 1) := by decide +kernel
theorem dX1_begin_6 : decode cX1_begin 6 = .ok (.ldc 26, 2) := by decide +kernel
theorem dX1_begin_8 : decode cX1_begin 8 = .ok (.putfield 27, 3) := by decide +kernel
theorem dX1_begin_11 : decode cX1_begin 11 = .ok (.return_, 1) := by decide +kernel
theorem dX1_hasMore_0 : decode cX1_hasMore 0 = .ok (.aload_n 0, 1) := by decide +kernel
theorem dX1_hasMore_1 : decode cX1_hasMore 1 = .ok (.getfield 23, 3) := by decide +kernel
theorem dX1_hasMore_4 : decode cX1_hasMore 4 = .ok (.aload_n 0, 1) := by decide +kernel
theorem dX1_hasMore_5 : decode cX1_hasMore 5 = .ok (.getfield 15, 3) := by decide +kernel
theorem dX1_hasMore_8 : decode cX1_hasMore 8 = .ok (.if_icmp .ge 7, 3) := by decide +kernel
theorem dX1_hasMore_11 : decode cX1_hasMore 11 = .ok (.iconst 1, 1) := by decide +kernel
theorem dX1_hasMore_12 : decode cX1_hasMore 12 = .ok (.goto 4, 3) := by decide +kernel
theorem dX1_hasMore_15 : decode cX1_hasMore 15 = .ok (.iconst 0, 1) := by decide +kernel
theorem dX1_hasMore_16 : decode cX1_hasMore 16 = .ok (.ireturn, 1) := by decide +kernel
theorem dX1_findFault_0 : decode cX1_findFault 0 = .ok (.aload_n 0, 1) := by decide +kernel
theorem dX1_findFault_1 : decode cX1_findFault 1 = .ok (.invokevirtual 30, 3) := by decide +kernel
theorem dX1_findFault_4 : decode cX1_findFault 4 = .ok (.iconst 0, 1) := by decide +kernel
theorem dX1_findFault_5 : decode cX1_findFault 5 = .ok (.istore_n 1, 1) := by decide +kernel
theorem dX1_findFault_6 : decode cX1_findFault 6 = .ok (.iload_n 1, 1) := by decide +kernel
theorem dX1_findFault_7 : decode cX1_findFault 7 = .ok (.bipush 80, 2) := by decide +kernel
theorem dX1_findFault_9 : decode cX1_findFault 9 = .ok (.if_icmp .ge 29, 3) := by decide +kernel
theorem dX1_findFault_12 : decode cX1_findFault 12 = .ok (.aload_n 0, 1) := by decide +kernel
theorem dX1_findFault_13 : decode cX1_findFault 13 = .ok (.invokevirtual 33, 3) := by decide +kernel
theorem dX1_findFault_16 : decode cX1_findFault 16 = .ok (.ifCond .eq 22, 3) := by decide +kernel
theorem dX1_findFault_19 : decode cX1_findFault 19 = .ok (.aload_n 0, 1) := by decide +kernel
theorem dX1_findFault_20 : decode cX1_findFault 20 = .ok (.getfield 27, 3) := by decide +kernel
theorem dX1_findFault_23 : decode cX1_findFault 23 = .ok (.ldc 26, 2) := by decide +kernel
theorem dX1_findFault_25 : decode cX1_findFault 25 = .ok (.if_icmp .ne 13, 3) := by decide +kernel
theorem dX1_findFault_28 : decode cX1_findFault 28 = .ok (.aload_n 0, 1) := by decide +kernel
theorem dX1_findFault_29 : decode cX1_findFault 29 = .ok (.invokevirtual 37, 3) := by decide +kernel
theorem dX1_findFault_32 : decode cX1_findFault 32 = .ok (.iinc 1 1, 3) := by decide +kernel
theorem dX1_findFault_35 : decode cX1_findFault 35 = .ok (.goto (-29), 3) := by decide +kernel
theorem dX1_findFault_38 : decode cX1_findFault 38 = .ok (.aload_n 0, 1) := by decide +kernel
theorem dX1_findFault_39 : decode cX1_findFault 39 = .ok (.getfield 27, 3) := by decide +kernel
theorem dX1_findFault_42 : decode cX1_findFault 42 = .ok (.ireturn, 1) := by decide +kernel
theorem dX1_readAct_0 : decode cX1_readAct 0 = .ok (.aload_n 0, 1) := by decide +kernel
theorem dX1_readAct_1 : decode cX1_readAct 1 = .ok (.aload_n 0, 1) := by decide +kernel
theorem dX1_readAct_2 : decode cX1_readAct 2 = .ok (.invokevirtual 40, 3) := by decide +kernel
theorem dX1_readAct_5 : decode cX1_readAct 5 = .ok (.putfield 44, 3) := by decide +kernel
theorem dX1_readAct_8 : decode cX1_readAct 8 = .ok (.aload_n 0, 1) := by decide +kernel
theorem dX1_readAct_9 : decode cX1_readAct 9 = .ok (.getfield 44, 3) := by decide +kernel
theorem dX1_readAct_12 : decode cX1_readAct 12 = .ok (.lookupswitch 133 #[(100, 52), (108, 75), (112, 75), (114, 52), (116, 108)], 52) := by decide +kernel
theorem dX1_readAct_64 : decode cX1_readAct 64 = .ok (.aload_n 0, 1) := by decide +kernel
theorem dX1_readAct_65 : decode cX1_readAct 65 = .ok (.dup, 1) := by decide +kernel
theorem dX1_readAct_66 : decode cX1_readAct 66 = .ok (.getfield 23, 3) := by decide +kernel
theorem dX1_readAct_69 : decode cX1_readAct 69 = .ok (.iconst 1, 1) := by decide +kernel
theorem dX1_readAct_70 : decode cX1_readAct 70 = .ok (.iadd, 1) := by decide +kernel
theorem dX1_readAct_71 : decode cX1_readAct 71 = .ok (.putfield 23, 3) := by decide +kernel
theorem dX1_readAct_74 : decode cX1_readAct 74 = .ok (.aload_n 0, 1) := by decide +kernel
theorem dX1_readAct_75 : decode cX1_readAct 75 = .ok (.aload_n 0, 1) := by decide +kernel
theorem dX1_readAct_76 : decode cX1_readAct 76 = .ok (.bipush 7, 2) := by decide +kernel
theorem dX1_readAct_78 : decode cX1_readAct 78 = .ok (.invokevirtual 47, 3) := by decide +kernel
theorem dX1_readAct_81 : decode cX1_readAct 81 = .ok (.putfield 51, 3) := by decide +kernel
theorem dX1_readAct_84 : decode cX1_readAct 84 = .ok (.goto 69, 3) := by decide +kernel
theorem dX1_readAct_87 : decode cX1_readAct 87 = .ok (.aload_n 0, 1) := by decide +kernel
theorem dX1_readAct_88 : decode cX1_readAct 88 = .ok (.dup, 1) := by decide +kernel
theorem dX1_readAct_89 : decode cX1_readAct 89 = .ok (.getfield 23, 3) := by decide +kernel
theorem dX1_readAct_92 : decode cX1_readAct 92 = .ok (.iconst 1, 1) := by decide +kernel
theorem dX1_readAct_93 : decode cX1_readAct 93 = .ok (.iadd, 1) := by decide +kernel
theorem dX1_readAct_94 : decode cX1_readAct 94 = .ok (.putfield 23, 3) := by decide +kernel
theorem dX1_readAct_97 : decode cX1_readAct 97 = .ok (.aload_n 0, 1) := by decide +kernel
theorem dX1_readAct_98 : decode cX1_readAct 98 = .ok (.aload_n 0, 1) := by decide +kernel
theorem dX1_readAct_99 : decode cX1_readAct 99 = .ok (.iconst 1, 1) := by decide +kernel
theorem dX1_readAct_100 : decode cX1_readAct 100 = .ok (.invokevirtual 47, 3) := by decide +kernel
theorem dX1_readAct_103 : decode cX1_readAct 103 = .ok (.putfield 51, 3) := by decide +kernel
theorem dX1_readAct_106 : decode cX1_readAct 106 = .ok (.aload_n 0, 1) := by decide +kernel
theorem dX1_readAct_107 : decode cX1_readAct 107 = .ok (.aload_n 0, 1) := by decide +kernel
theorem dX1_readAct_108 : decode cX1_readAct 108 = .ok (.iconst 0, 1) := by decide +kernel
theorem dX1_readAct_109 : decode cX1_readAct 109 = .ok (.bipush 23, 2) := by decide +kernel
theorem dX1_readAct_111 : decode cX1_readAct 111 = .ok (.invokevirtual 54, 3) := by decide +kernel
theorem dX1_readAct_114 : decode cX1_readAct 114 = .ok (.putfield 58, 3) := by decide +kernel
theorem dX1_readAct_117 : decode cX1_readAct 117 = .ok (.goto 36, 3) := by decide +kernel
theorem dX1_readAct_120 : decode cX1_readAct 120 = .ok (.aload_n 0, 1) := by decide +kernel
theorem dX1_readAct_121 : decode cX1_readAct 121 = .ok (.dup, 1) := by decide +kernel
theorem dX1_readAct_122 : decode cX1_readAct 122 = .ok (.getfield 23, 3) := by decide +kernel
theorem dX1_readAct_125 : decode cX1_readAct 125 = .ok (.iconst 1, 1) := by decide +kernel
theorem dX1_readAct_126 : decode cX1_readAct 126 = .ok (.iadd, 1) := by decide +kernel
theorem dX1_readAct_127 : decode cX1_readAct 127 = .ok (.putfield 23, 3) := by decide +kernel
theorem dX1_readAct_130 : decode cX1_readAct 130 = .ok (.aload_n 0, 1) := by decide +kernel
theorem dX1_readAct_131 : decode cX1_readAct 131 = .ok (.aload_n 0, 1) := by decide +kernel
theorem dX1_readAct_132 : decode cX1_readAct 132 = .ok (.iconst 1, 1) := by decide +kernel
theorem dX1_readAct_133 : decode cX1_readAct 133 = .ok (.sipush 200, 3) := by decide +kernel
theorem dX1_readAct_136 : decode cX1_readAct 136 = .ok (.invokevirtual 54, 3) := by decide +kernel
theorem dX1_readAct_139 : decode cX1_readAct 139 = .ok (.putfield 58, 3) := by decide +kernel
theorem dX1_readAct_142 : decode cX1_readAct 142 = .ok (.goto 11, 3) := by decide +kernel
theorem dX1_readAct_145 : decode cX1_readAct 145 = .ok (.aload_n 0, 1) := by decide +kernel
theorem dX1_readAct_146 : decode cX1_readAct 146 = .ok (.aload_n 0, 1) := by decide +kernel
theorem dX1_readAct_147 : decode cX1_readAct 147 = .ok (.getfield 23, 3) := by decide +kernel
theorem dX1_readAct_150 : decode cX1_readAct 150 = .ok (.putfield 27, 3) := by decide +kernel
theorem dX1_readAct_153 : decode cX1_readAct 153 = .ok (.return_, 1) := by decide +kernel
theorem dX1_readDigit_0 : decode cX1_readDigit 0 = .ok (.aload_n 0, 1) := by decide +kernel
theorem dX1_readDigit_1 : decode cX1_readDigit 1 = .ok (.invokevirtual 40, 3) := by decide +kernel
theorem dX1_readDigit_4 : decode cX1_readDigit 4 = .ok (.bipush 48, 2) := by decide +kernel
theorem dX1_readDigit_6 : decode cX1_readDigit 6 = .ok (.isub, 1) := by decide +kernel
theorem dX1_readDigit_7 : decode cX1_readDigit 7 = .ok (.istore_n 2, 1) := by decide +kernel
theorem dX1_readDigit_8 : decode cX1_readDigit 8 = .ok (.iload_n 2, 1) := by decide +kernel
theorem dX1_readDigit_9 : decode cX1_readDigit 9 = .ok (.iconst 0, 1) := by decide +kernel
theorem dX1_readDigit_10 : decode cX1_readDigit 10 = .ok (.iload_n 1, 1) := by decide +kernel
theorem dX1_readDigit_11 : decode cX1_readDigit 11 = .ok (.invokestatic 19, 3) := by decide +kernel
theorem dX1_readDigit_14 : decode cX1_readDigit 14 = .ok (.ifCond .ne 13, 3) := by decide +kernel
theorem dX1_readDigit_17 : decode cX1_readDigit 17 = .ok (.aload_n 0, 1) := by decide +kernel
theorem dX1_readDigit_18 : decode cX1_readDigit 18 = .ok (.aload_n 0, 1) := by decide +kernel
theorem dX1_readDigit_19 : decode cX1_readDigit 19 = .ok (.getfield 23, 3) := by decide +kernel
theorem dX1_readDigit_22 : decode cX1_readDigit 22 = .ok (.putfield 27, 3) := by decide +kernel
theorem dX1_readDigit_25 : decode cX1_readDigit 25 = .ok (.iconst 0, 1) := by decide +kernel
theorem dX1_readDigit_26 : decode cX1_readDigit 26 = .ok (.ireturn, 1) := by decide +kernel
theorem dX1_readDigit_27 : decode cX1_readDigit 27 = .ok (.aload_n 0, 1) := by decide +kernel
theorem dX1_readDigit_28 : decode cX1_readDigit 28 = .ok (.dup, 1) := by decide +kernel
theorem dX1_readDigit_29 : decode cX1_readDigit 29 = .ok (.getfield 23, 3) := by decide +kernel
theorem dX1_readDigit_32 : decode cX1_readDigit 32 = .ok (.iconst 1, 1) := by decide +kernel
theorem dX1_readDigit_33 : decode cX1_readDigit 33 = .ok (.iadd, 1) := by decide +kernel
theorem dX1_readDigit_34 : decode cX1_readDigit 34 = .ok (.putfield 23, 3) := by decide +kernel
theorem dX1_readDigit_37 : decode cX1_readDigit 37 = .ok (.iload_n 2, 1) := by decide +kernel
theorem dX1_readDigit_38 : decode cX1_readDigit 38 = .ok (.ireturn, 1) := by decide +kernel
theorem dX1_readNumber_0 : decode cX1_readNumber 0 = .ok (.aload_n 0, 1) := by decide +kernel
theorem dX1_readNumber_1 : decode cX1_readNumber 1 = .ok (.getfield 27, 3) := by decide +kernel
theorem dX1_readNumber_4 : decode cX1_readNumber 4 = .ok (.ldc 26, 2) := by decide +kernel
theorem dX1_readNumber_6 : decode cX1_readNumber 6 = .ok (.if_icmp .eq 5, 3) := by decide +kernel
theorem dX1_readNumber_9 : decode cX1_readNumber 9 = .ok (.iconst 0, 1) := by decide +kernel
theorem dX1_readNumber_10 : decode cX1_readNumber 10 = .ok (.ireturn, 1) := by decide +kernel
theorem dX1_readNumber_11 : decode cX1_readNumber 11 = .ok (.aload_n 0, 1) := by decide +kernel
theorem dX1_readNumber_12 : decode cX1_readNumber 12 = .ok (.getfield 23, 3) := by decide +kernel
theorem dX1_readNumber_15 : decode cX1_readNumber 15 = .ok (.istore_n 3, 1) := by decide +kernel
theorem dX1_readNumber_16 : decode cX1_readNumber 16 = .ok (.aload_n 0, 1) := by decide +kernel
theorem dX1_readNumber_17 : decode cX1_readNumber 17 = .ok (.bipush 9, 2) := by decide +kernel
theorem dX1_readNumber_19 : decode cX1_readNumber 19 = .ok (.invokevirtual 47, 3) := by decide +kernel
theorem dX1_readNumber_22 : decode cX1_readNumber 22 = .ok (.istore 4, 2) := by decide +kernel
theorem dX1_readNumber_24 : decode cX1_readNumber 24 = .ok (.aload_n 0, 1) := by decide +kernel
theorem dX1_readNumber_25 : decode cX1_readNumber 25 = .ok (.getfield 27, 3) := by decide +kernel
theorem dX1_readNumber_28 : decode cX1_readNumber 28 = .ok (.ldc 26, 2) := by decide +kernel
theorem dX1_readNumber_30 : decode cX1_readNumber 30 = .ok (.if_icmp .eq 5, 3) := by decide +kernel
theorem dX1_readNumber_33 : decode cX1_readNumber 33 = .ok (.iconst 0, 1) := by decide +kernel
theorem dX1_readNumber_34 : decode cX1_readNumber 34 = .ok (.ireturn, 1) := by decide +kernel
theorem dX1_readNumber_35 : decode cX1_readNumber 35 = .ok (.iconst 1, 1) := by decide +kernel
theorem dX1_readNumber_36 : decode cX1_readNumber 36 = .ok (.istore 5, 2) := by decide +kernel
theorem dX1_readNumber_38 : decode cX1_readNumber 38 = .ok (.iload 5, 2) := by decide +kernel
theorem dX1_readNumber_40 : decode cX1_readNumber 40 = .ok (.iconst 3, 1) := by decide +kernel
theorem dX1_readNumber_41 : decode cX1_readNumber 41 = .ok (.if_icmp .ge 35, 3) := by decide +kernel
theorem dX1_readNumber_44 : decode cX1_readNumber 44 = .ok (.iload 4, 2) := by decide +kernel
theorem dX1_readNumber_46 : decode cX1_readNumber 46 = .ok (.ifCond .eq 30, 3) := by decide +kernel
theorem dX1_readNumber_49 : decode cX1_readNumber 49 = .ok (.aload_n 0, 1) := by decide +kernel
theorem dX1_readNumber_50 : decode cX1_readNumber 50 = .ok (.invokevirtual 61, 3) := by decide +kernel
theorem dX1_readNumber_53 : decode cX1_readNumber 53 = .ok (.ifCond .eq 23, 3) := by decide +kernel
theorem dX1_readNumber_56 : decode cX1_readNumber 56 = .ok (.bipush 10, 2) := by decide +kernel
theorem dX1_readNumber_58 : decode cX1_readNumber 58 = .ok (.iload 4, 2) := by decide +kernel
theorem dX1_readNumber_60 : decode cX1_readNumber 60 = .ok (.imul, 1) := by decide +kernel
theorem dX1_readNumber_61 : decode cX1_readNumber 61 = .ok (.aload_n 0, 1) := by decide +kernel
theorem dX1_readNumber_62 : decode cX1_readNumber 62 = .ok (.bipush 9, 2) := by decide +kernel
theorem dX1_readNumber_64 : decode cX1_readNumber 64 = .ok (.invokevirtual 47, 3) := by decide +kernel
theorem dX1_readNumber_67 : decode cX1_readNumber 67 = .ok (.iadd, 1) := by decide +kernel
theorem dX1_readNumber_68 : decode cX1_readNumber 68 = .ok (.istore 4, 2) := by decide +kernel
theorem dX1_readNumber_70 : decode cX1_readNumber 70 = .ok (.iinc 5 1, 3) := by decide +kernel
theorem dX1_readNumber_73 : decode cX1_readNumber 73 = .ok (.goto (-35), 3) := by decide +kernel
theorem dX1_readNumber_76 : decode cX1_readNumber 76 = .ok (.iload 4, 2) := by decide +kernel
theorem dX1_readNumber_78 : decode cX1_readNumber 78 = .ok (.iload_n 1, 1) := by decide +kernel
theorem dX1_readNumber_79 : decode cX1_readNumber 79 = .ok (.iload_n 2, 1) := by decide +kernel
theorem dX1_readNumber_80 : decode cX1_readNumber 80 = .ok (.invokestatic 19, 3) := by decide +kernel
theorem dX1_readNumber_83 : decode cX1_readNumber 83 = .ok (.ifCond .ne 11, 3) := by decide +kernel
theorem dX1_readNumber_86 : decode cX1_readNumber 86 = .ok (.aload_n 0, 1) := by decide +kernel
theorem dX1_readNumber_87 : decode cX1_readNumber 87 = .ok (.iload_n 3, 1) := by decide +kernel
theorem dX1_readNumber_88 : decode cX1_readNumber 88 = .ok (.putfield 27, 3) := by decide +kernel
theorem dX1_readNumber_91 : decode cX1_readNumber 91 = .ok (.goto 33, 3) := by decide +kernel
theorem dX1_readNumber_94 : decode cX1_readNumber 94 = .ok (.aload_n 0, 1) := by decide +kernel
theorem dX1_readNumber_95 : decode cX1_readNumber 95 = .ok (.invokevirtual 40, 3) := by decide +kernel
theorem dX1_readNumber_98 : decode cX1_readNumber 98 = .ok (.bipush 59, 2) := by decide +kernel
theorem dX1_readNumber_100 : decode cX1_readNumber 100 = .ok (.if_icmp .eq 14, 3) := by decide +kernel
theorem dX1_readNumber_103 : decode cX1_readNumber 103 = .ok (.aload_n 0, 1) := by decide +kernel
theorem dX1_readNumber_104 : decode cX1_readNumber 104 = .ok (.aload_n 0, 1) := by decide +kernel
theorem dX1_readNumber_105 : decode cX1_readNumber 105 = .ok (.getfield 23, 3) := by decide +kernel
theorem dX1_readNumber_108 : decode cX1_readNumber 108 = .ok (.putfield 27, 3) := by decide +kernel
theorem dX1_readNumber_111 : decode cX1_readNumber 111 = .ok (.goto 13, 3) := by decide +kernel
theorem dX1_readNumber_114 : decode cX1_readNumber 114 = .ok (.aload_n 0, 1) := by decide +kernel
theorem dX1_readNumber_115 : decode cX1_readNumber 115 = .ok (.dup, 1) := by decide +kernel
theorem dX1_readNumber_116 : decode cX1_readNumber 116 = .ok (.getfield 23, 3) := by decide +kernel
theorem dX1_readNumber_119 : decode cX1_readNumber 119 = .ok (.iconst 1, 1) := by decide +kernel
theorem dX1_readNumber_120 : decode cX1_readNumber 120 = .ok (.iadd, 1) := by decide +kernel
theorem dX1_readNumber_121 : decode cX1_readNumber 121 = .ok (.putfield 23, 3) := by decide +kernel
theorem dX1_readNumber_124 : decode cX1_readNumber 124 = .ok (.iload 4, 2) := by decide +kernel
theorem dX1_readNumber_126 : decode cX1_readNumber 126 = .ok (.ireturn, 1) := by decide +kernel
theorem dX1_isDigitHere_0 : decode cX1_isDigitHere 0 = .ok (.aload_n 0, 1) := by decide +kernel
theorem dX1_isDigitHere_1 : decode cX1_isDigitHere 1 = .ok (.invokevirtual 40, 3) := by decide +kernel
theorem dX1_isDigitHere_4 : decode cX1_isDigitHere 4 = .ok (.bipush 48, 2) := by decide +kernel
theorem dX1_isDigitHere_6 : decode cX1_isDigitHere 6 = .ok (.bipush 57, 2) := by decide +kernel
theorem dX1_isDigitHere_8 : decode cX1_isDigitHere 8 = .ok (.invokestatic 19, 3) := by decide +kernel
theorem dX1_isDigitHere_11 : decode cX1_isDigitHere 11 = .ok (.ireturn, 1) := by decide +kernel
theorem dX1_letterHere_0 : decode cX1_letterHere 0 = .ok (.aload_n 0, 1) := by decide +kernel
theorem dX1_letterHere_1 : decode cX1_letterHere 1 = .ok (.getfield 23, 3) := by decide +kernel
theorem dX1_letterHere_4 : decode cX1_letterHere 4 = .ok (.iconst 0, 1) := by decide +kernel
theorem dX1_letterHere_5 : decode cX1_letterHere 5 = .ok (.bipush 79, 2) := by decide +kernel
theorem dX1_letterHere_7 : decode cX1_letterHere 7 = .ok (.invokestatic 19, 3) := by decide +kernel
theorem dX1_letterHere_10 : decode cX1_letterHere 10 = .ok (.ifCond .eq 26, 3) := by decide +kernel
theorem dX1_letterHere_13 : decode cX1_letterHere 13 = .ok (.aload_n 0, 1) := by decide +kernel
theorem dX1_letterHere_14 : decode cX1_letterHere 14 = .ok (.getfield 23, 3) := by decide +kernel
theorem dX1_letterHere_17 : decode cX1_letterHere 17 = .ok (.aload_n 0, 1) := by decide +kernel
theorem dX1_letterHere_18 : decode cX1_letterHere 18 = .ok (.getfield 15, 3) := by decide +kernel
theorem dX1_letterHere_21 : decode cX1_letterHere 21 = .ok (.if_icmp .ge 15, 3) := by decide +kernel
theorem dX1_letterHere_24 : decode cX1_letterHere 24 = .ok (.aload_n 0, 1) := by decide +kernel
theorem dX1_letterHere_25 : decode cX1_letterHere 25 = .ok (.getfield 9, 3) := by decide +kernel
theorem dX1_letterHere_28 : decode cX1_letterHere 28 = .ok (.aload_n 0, 1) := by decide +kernel
theorem dX1_letterHere_29 : decode cX1_letterHere 29 = .ok (.getfield 23, 3) := by decide +kernel
theorem dX1_letterHere_32 : decode cX1_letterHere 32 = .ok (.iaload, 1) := by decide +kernel
theorem dX1_letterHere_33 : decode cX1_letterHere 33 = .ok (.goto 4, 3) := by decide +kernel
theorem dX1_letterHere_36 : decode cX1_letterHere 36 = .ok (.iconst (-1), 1) := by decide +kernel
theorem dX1_letterHere_37 : decode cX1_letterHere 37 = .ok (.ireturn, 1) := by decide +kernel
theorem dX2_init_0 : decode cX2_init 0 = .ok (.aload_n 0, 1) := by decide +kernel
theorem dX2_init_1 : decode cX2_init 1 = .ok (.invokespecial 3, 3) := by decide +kernel
theorem dX2_init_4 : decode cX2_init 4 = .ok (.aload_n 0, 1) := by decide +kernel
theorem dX2_init_5 : decode cX2_init 5 = .ok (.bipush 8, 2) := by decide +kernel
theorem dX2_init_7 : decode cX2_init 7 = .ok (.newarray .int, 2) := by decide +kernel
theorem dX2_init_9 : decode cX2_init 9 = .ok (.putfield 9, 3) := by decide +kernel
theorem dX2_init_12 : decode cX2_init 12 = .ok (.aload_n 0, 1) := by decide +kernel
theorem dX2_init_13 : decode cX2_init 13 = .ok (.iconst 2, 1) := by decide +kernel
theorem dX2_init_14 : decode cX2_init 14 = .ok (.newarray .int, 2) := by decide +kernel
theorem dX2_init_16 : decode cX2_init 16 = .ok (.putfield 15, 3) := by decide +kernel
theorem dX2_init_19 : decode cX2_init 19 = .ok (.aload_n 0, 1) := by decide +kernel
theorem dX2_init_20 : decode cX2_init 20 = .ok (.iconst 2, 1) := by decide +kernel
theorem dX2_init_21 : decode cX2_init 21 = .ok (.newarray .int, 2) := by decide +kernel
theorem dX2_init_23 : decode cX2_init 23 = .ok (.putfield 18, 3) := by decide +kernel
theorem dX2_init_26 : decode cX2_init 26 = .ok (.aload_n 0, 1) := by decide +kernel
theorem dX2_init_27 : decode cX2_init 27 = .ok (.bipush 8, 2) := by decide +kernel
theorem dX2_init_29 : decode cX2_init 29 = .ok (.newarray .int, 2) := by decide +kernel
theorem dX2_init_31 : decode cX2_init 31 = .ok (.putfield 21, 3) := by decide +kernel
theorem dX2_init_34 : decode cX2_init 34 = .ok (.aload_n 0, 1) := by decide +kernel
theorem dX2_init_35 : decode cX2_init 35 = .ok (.sipush 192, 3) := by decide +kernel
theorem dX2_init_38 : decode cX2_init 38 = .ok (.newarray .int, 2) := by decide +kernel
theorem dX2_init_40 : decode cX2_init 40 = .ok (.putfield 24, 3) := by decide +kernel
theorem dX2_init_43 : decode cX2_init 43 = .ok (.aload_n 0, 1) := by decide +kernel
theorem dX2_init_44 : decode cX2_init 44 = .ok (.bipush 8, 2) := by decide +kernel
theorem dX2_init_46 : decode cX2_init 46 = .ok (.newarray .int, 2) := by decide +kernel
theorem dX2_init_48 : decode cX2_init 48 = .ok (.putfield 27, 3) := by decide +kernel
theorem dX2_init_51 : decode cX2_init 51 = .ok (.return_, 1) := by decide +kernel
theorem dX2_listen_0 : decode cX2_listen 0 = .ok (.aload_n 0, 1) := by decide +kernel
theorem dX2_listen_1 : decode cX2_listen 1 = .ok (.aload_n 1, 1) := by decide +kernel
theorem dX2_listen_2 : decode cX2_listen 2 = .ok (.iload_n 2, 1) := by decide +kernel
theorem dX2_listen_3 : decode cX2_listen 3 = .ok (.iload_n 3, 1) := by decide +kernel
theorem dX2_listen_4 : decode cX2_listen 4 = .ok (.invokevirtual 30, 3) := by decide +kernel
theorem dX2_listen_7 : decode cX2_listen 7 = .ok (.aload_n 0, 1) := by decide +kernel
theorem dX2_listen_8 : decode cX2_listen 8 = .ok (.aload_n 1, 1) := by decide +kernel
theorem dX2_listen_9 : decode cX2_listen 9 = .ok (.invokevirtual 34, 3) := by decide +kernel
theorem dX2_listen_12 : decode cX2_listen 12 = .ok (.aload_n 1, 1) := by decide +kernel
theorem dX2_listen_13 : decode cX2_listen 13 = .ok (.getfield 38, 3) := by decide +kernel
theorem dX2_listen_16 : decode cX2_listen 16 = .ok (.istore 4, 2) := by decide +kernel
theorem dX2_listen_18 : decode cX2_listen 18 = .ok (.iconst 0, 1) := by decide +kernel
theorem dX2_listen_19 : decode cX2_listen 19 = .ok (.istore 5, 2) := by decide +kernel
theorem dX2_listen_21 : decode cX2_listen 21 = .ok (.iload 5, 2) := by decide +kernel
theorem dX2_listen_23 : decode cX2_listen 23 = .ok (.bipush 8, 2) := by decide +kernel
theorem dX2_listen_25 : decode cX2_listen 25 = .ok (.if_icmp .ge 162, 3) := by decide +kernel
theorem dX2_listen_28 : decode cX2_listen 28 = .ok (.aload_n 0, 1) := by decide +kernel
theorem dX2_listen_29 : decode cX2_listen 29 = .ok (.getfield 18, 3) := by decide +kernel
theorem dX2_listen_32 : decode cX2_listen 32 = .ok (.aload_n 1, 1) := by decide +kernel
theorem dX2_listen_33 : decode cX2_listen 33 = .ok (.iload 5, 2) := by decide +kernel
theorem dX2_listen_35 : decode cX2_listen 35 = .ok (.invokevirtual 44, 3) := by decide +kernel
theorem dX2_listen_38 : decode cX2_listen 38 = .ok (.iaload, 1) := by decide +kernel
theorem dX2_listen_39 : decode cX2_listen 39 = .ok (.aload_n 1, 1) := by decide +kernel
theorem dX2_listen_40 : decode cX2_listen 40 = .ok (.getfield 48, 3) := by decide +kernel
theorem dX2_listen_43 : decode cX2_listen 43 = .ok (.iload 5, 2) := by decide +kernel
theorem dX2_listen_45 : decode cX2_listen 45 = .ok (.iaload, 1) := by decide +kernel
theorem dX2_listen_46 : decode cX2_listen 46 = .ok (.if_icmp .lt 7, 3) := by decide +kernel
theorem dX2_listen_49 : decode cX2_listen 49 = .ok (.iconst 1, 1) := by decide +kernel
theorem dX2_listen_50 : decode cX2_listen 50 = .ok (.goto 4, 3) := by decide +kernel
theorem dX2_listen_53 : decode cX2_listen 53 = .ok (.iconst 0, 1) := by decide +kernel
theorem dX2_listen_54 : decode cX2_listen 54 = .ok (.istore 6, 2) := by decide +kernel
theorem dX2_listen_56 : decode cX2_listen 56 = .ok (.aload_n 0, 1) := by decide +kernel
theorem dX2_listen_57 : decode cX2_listen 57 = .ok (.getfield 27, 3) := by decide +kernel
theorem dX2_listen_60 : decode cX2_listen 60 = .ok (.iload 5, 2) := by decide +kernel
theorem dX2_listen_62 : decode cX2_listen 62 = .ok (.iconst 0, 1) := by decide +kernel
theorem dX2_listen_63 : decode cX2_listen 63 = .ok (.iastore, 1) := by decide +kernel
theorem dX2_listen_64 : decode cX2_listen 64 = .ok (.iconst 0, 1) := by decide +kernel
theorem dX2_listen_65 : decode cX2_listen 65 = .ok (.istore 7, 2) := by decide +kernel
theorem dX2_listen_67 : decode cX2_listen 67 = .ok (.iload 7, 2) := by decide +kernel
theorem dX2_listen_69 : decode cX2_listen 69 = .ok (.bipush 24, 2) := by decide +kernel
theorem dX2_listen_71 : decode cX2_listen 71 = .ok (.if_icmp .ge 110, 3) := by decide +kernel
theorem dX2_listen_74 : decode cX2_listen 74 = .ok (.aload_n 0, 1) := by decide +kernel
theorem dX2_listen_75 : decode cX2_listen 75 = .ok (.getfield 9, 3) := by decide +kernel
theorem dX2_listen_78 : decode cX2_listen 78 = .ok (.iload 5, 2) := by decide +kernel
theorem dX2_listen_80 : decode cX2_listen 80 = .ok (.iaload, 1) := by decide +kernel
theorem dX2_listen_81 : decode cX2_listen 81 = .ok (.iload 7, 2) := by decide +kernel
theorem dX2_listen_83 : decode cX2_listen 83 = .ok (.invokestatic 51, 3) := by decide +kernel
theorem dX2_listen_86 : decode cX2_listen 86 = .ok (.ifCond .eq 89, 3) := by decide +kernel
theorem dX2_listen_89 : decode cX2_listen 89 = .ok (.aload_n 0, 1) := by decide +kernel
theorem dX2_listen_90 : decode cX2_listen 90 = .ok (.aload_n 1, 1) := by decide +kernel
theorem dX2_listen_91 : decode cX2_listen 91 = .ok (.iload 5, 2) := by decide +kernel
theorem dX2_listen_93 : decode cX2_listen 93 = .ok (.iload 7, 2) := by decide +kernel
theorem dX2_listen_95 : decode cX2_listen 95 = .ok (.invokevirtual 55, 3) := by decide +kernel
theorem dX2_listen_98 : decode cX2_listen 98 = .ok (.istore 8, 2) := by decide +kernel
theorem dX2_listen_100 : decode cX2_listen 100 = .ok (.iload 8, 2) := by decide +kernel
theorem dX2_listen_102 : decode cX2_listen 102 = .ok (.iload 4, 2) := by decide +kernel
theorem dX2_listen_104 : decode cX2_listen 104 = .ok (.invokestatic 59, 3) := by decide +kernel
theorem dX2_listen_107 : decode cX2_listen 107 = .ok (.istore 9, 2) := by decide +kernel
theorem dX2_listen_109 : decode cX2_listen 109 = .ok (.aload_n 0, 1) := by decide +kernel
theorem dX2_listen_110 : decode cX2_listen 110 = .ok (.getfield 24, 3) := by decide +kernel
theorem dX2_listen_113 : decode cX2_listen 113 = .ok (.iload 5, 2) := by decide +kernel
theorem dX2_listen_115 : decode cX2_listen 115 = .ok (.iload 7, 2) := by decide +kernel
theorem dX2_listen_117 : decode cX2_listen 117 = .ok (.invokestatic 65, 3) := by decide +kernel
theorem dX2_listen_120 : decode cX2_listen 120 = .ok (.iload 9, 2) := by decide +kernel
theorem dX2_listen_122 : decode cX2_listen 122 = .ok (.iastore, 1) := by decide +kernel
theorem dX2_listen_123 : decode cX2_listen 123 = .ok (.iload 4, 2) := by decide +kernel
theorem dX2_listen_125 : decode cX2_listen 125 = .ok (.iload 9, 2) := by decide +kernel
theorem dX2_listen_127 : decode cX2_listen 127 = .ok (.isub, 1) := by decide +kernel
theorem dX2_listen_128 : decode cX2_listen 128 = .ok (.istore 4, 2) := by decide +kernel
theorem dX2_listen_130 : decode cX2_listen 130 = .ok (.iload 6, 2) := by decide +kernel
theorem dX2_listen_132 : decode cX2_listen 132 = .ok (.ifCond .eq 19, 3) := by decide +kernel
theorem dX2_listen_135 : decode cX2_listen 135 = .ok (.iload 9, 2) := by decide +kernel
theorem dX2_listen_137 : decode cX2_listen 137 = .ok (.iload 8, 2) := by decide +kernel
theorem dX2_listen_139 : decode cX2_listen 139 = .ok (.if_icmp .ne 12, 3) := by decide +kernel
theorem dX2_listen_142 : decode cX2_listen 142 = .ok (.iload 9, 2) := by decide +kernel
theorem dX2_listen_144 : decode cX2_listen 144 = .ok (.ifCond .eq 7, 3) := by decide +kernel
theorem dX2_listen_147 : decode cX2_listen 147 = .ok (.iconst 1, 1) := by decide +kernel
theorem dX2_listen_148 : decode cX2_listen 148 = .ok (.goto 4, 3) := by decide +kernel
theorem dX2_listen_151 : decode cX2_listen 151 = .ok (.iconst 0, 1) := by decide +kernel
theorem dX2_listen_152 : decode cX2_listen 152 = .ok (.istore 10, 2) := by decide +kernel
theorem dX2_listen_154 : decode cX2_listen 154 = .ok (.aload_n 0, 1) := by decide +kernel
theorem dX2_listen_155 : decode cX2_listen 155 = .ok (.getfield 27, 3) := by decide +kernel
theorem dX2_listen_158 : decode cX2_listen 158 = .ok (.iload 5, 2) := by decide +kernel
theorem dX2_listen_160 : decode cX2_listen 160 = .ok (.aload_n 0, 1) := by decide +kernel
theorem dX2_listen_161 : decode cX2_listen 161 = .ok (.getfield 27, 3) := by decide +kernel
theorem dX2_listen_164 : decode cX2_listen 164 = .ok (.iload 5, 2) := by decide +kernel
theorem dX2_listen_166 : decode cX2_listen 166 = .ok (.iaload, 1) := by decide +kernel
theorem dX2_listen_167 : decode cX2_listen 167 = .ok (.iload 7, 2) := by decide +kernel
theorem dX2_listen_169 : decode cX2_listen 169 = .ok (.iload 10, 2) := by decide +kernel
theorem dX2_listen_171 : decode cX2_listen 171 = .ok (.invokestatic 68, 3) := by decide +kernel
theorem dX2_listen_174 : decode cX2_listen 174 = .ok (.iastore, 1) := by decide +kernel
theorem dX2_listen_175 : decode cX2_listen 175 = .ok (.iinc 7 1, 3) := by decide +kernel
theorem dX2_listen_178 : decode cX2_listen 178 = .ok (.goto (-111), 3) := by decide +kernel
theorem dX2_listen_181 : decode cX2_listen 181 = .ok (.iinc 5 1, 3) := by decide +kernel
theorem dX2_listen_184 : decode cX2_listen 184 = .ok (.goto (-163), 3) := by decide +kernel
theorem dX2_listen_187 : decode cX2_listen 187 = .ok (.return_, 1) := by decide +kernel
theorem dX2_openPipes_0 : decode cX2_openPipes 0 = .ok (.iconst 0, 1) := by decide +kernel
theorem dX2_openPipes_1 : decode cX2_openPipes 1 = .ok (.istore 4, 2) := by decide +kernel
theorem dX2_openPipes_3 : decode cX2_openPipes 3 = .ok (.iload 4, 2) := by decide +kernel
theorem dX2_openPipes_5 : decode cX2_openPipes 5 = .ok (.iconst 2, 1) := by decide +kernel
theorem dX2_openPipes_6 : decode cX2_openPipes 6 = .ok (.if_icmp .ge 17, 3) := by decide +kernel
theorem dX2_openPipes_9 : decode cX2_openPipes 9 = .ok (.aload_n 0, 1) := by decide +kernel
theorem dX2_openPipes_10 : decode cX2_openPipes 10 = .ok (.getfield 15, 3) := by decide +kernel
theorem dX2_openPipes_13 : decode cX2_openPipes 13 = .ok (.iload 4, 2) := by decide +kernel
theorem dX2_openPipes_15 : decode cX2_openPipes 15 = .ok (.iconst 0, 1) := by decide +kernel
theorem dX2_openPipes_16 : decode cX2_openPipes 16 = .ok (.iastore, 1) := by decide +kernel
theorem dX2_openPipes_17 : decode cX2_openPipes 17 = .ok (.iinc 4 1, 3) := by decide +kernel
theorem dX2_openPipes_20 : decode cX2_openPipes 20 = .ok (.goto (-17), 3) := by decide +kernel
theorem dX2_openPipes_23 : decode cX2_openPipes 23 = .ok (.iconst 0, 1) := by decide +kernel
theorem dX2_openPipes_24 : decode cX2_openPipes 24 = .ok (.istore 4, 2) := by decide +kernel
theorem dX2_openPipes_26 : decode cX2_openPipes 26 = .ok (.iload 4, 2) := by decide +kernel
theorem dX2_openPipes_28 : decode cX2_openPipes 28 = .ok (.bipush 8, 2) := by decide +kernel
theorem dX2_openPipes_30 : decode cX2_openPipes 30 = .ok (.if_icmp .ge 112, 3) := by decide +kernel
theorem dX2_openPipes_33 : decode cX2_openPipes 33 = .ok (.aload_n 1, 1) := by decide +kernel
theorem dX2_openPipes_34 : decode cX2_openPipes 34 = .ok (.iload 4, 2) := by decide +kernel
theorem dX2_openPipes_36 : decode cX2_openPipes 36 = .ok (.invokevirtual 44, 3) := by decide +kernel
theorem dX2_openPipes_39 : decode cX2_openPipes 39 = .ok (.istore 5, 2) := by decide +kernel
theorem dX2_openPipes_41 : decode cX2_openPipes 41 = .ok (.aload_n 1, 1) := by decide +kernel
theorem dX2_openPipes_42 : decode cX2_openPipes 42 = .ok (.getfield 72, 3) := by decide +kernel
theorem dX2_openPipes_45 : decode cX2_openPipes 45 = .ok (.iload 4, 2) := by decide +kernel
theorem dX2_openPipes_47 : decode cX2_openPipes 47 = .ok (.iaload, 1) := by decide +kernel
theorem dX2_openPipes_48 : decode cX2_openPipes 48 = .ok (.iload_n 3, 1) := by decide +kernel
theorem dX2_openPipes_49 : decode cX2_openPipes 49 = .ok (.ifCond .eq 12, 3) := by decide +kernel
theorem dX2_openPipes_52 : decode cX2_openPipes 52 = .ok (.aload_n 1, 1) := by decide +kernel
theorem dX2_openPipes_53 : decode cX2_openPipes 53 = .ok (.iload 5, 2) := by decide +kernel
theorem dX2_openPipes_55 : decode cX2_openPipes 55 = .ok (.invokevirtual 75, 3) := by decide +kernel
theorem dX2_openPipes_58 : decode cX2_openPipes 58 = .ok (.goto 4, 3) := by decide +kernel
theorem dX2_openPipes_61 : decode cX2_openPipes 61 = .ok (.iconst 0, 1) := by decide +kernel
theorem dX2_openPipes_62 : decode cX2_openPipes 62 = .ok (.ior, 1) := by decide +kernel
theorem dX2_openPipes_63 : decode cX2_openPipes 63 = .ok (.istore 6, 2) := by decide +kernel
theorem dX2_openPipes_65 : decode cX2_openPipes 65 = .ok (.aload_n 0, 1) := by decide +kernel
theorem dX2_openPipes_66 : decode cX2_openPipes 66 = .ok (.getfield 9, 3) := by decide +kernel
theorem dX2_openPipes_69 : decode cX2_openPipes 69 = .ok (.iload 4, 2) := by decide +kernel
theorem dX2_openPipes_71 : decode cX2_openPipes 71 = .ok (.iload_n 2, 1) := by decide +kernel
theorem dX2_openPipes_72 : decode cX2_openPipes 72 = .ok (.iload 4, 2) := by decide +kernel
theorem dX2_openPipes_74 : decode cX2_openPipes 74 = .ok (.invokestatic 51, 3) := by decide +kernel
theorem dX2_openPipes_77 : decode cX2_openPipes 77 = .ok (.ifCond .eq 8, 3) := by decide +kernel
theorem dX2_openPipes_80 : decode cX2_openPipes 80 = .ok (.iload 6, 2) := by decide +kernel
theorem dX2_openPipes_82 : decode cX2_openPipes 82 = .ok (.goto 4, 3) := by decide +kernel
theorem dX2_openPipes_85 : decode cX2_openPipes 85 = .ok (.iconst 0, 1) := by decide +kernel
theorem dX2_openPipes_86 : decode cX2_openPipes 86 = .ok (.iastore, 1) := by decide +kernel
theorem dX2_openPipes_87 : decode cX2_openPipes 87 = .ok (.iconst 0, 1) := by decide +kernel
theorem dX2_openPipes_88 : decode cX2_openPipes 88 = .ok (.istore 7, 2) := by decide +kernel
theorem dX2_openPipes_90 : decode cX2_openPipes 90 = .ok (.iload 7, 2) := by decide +kernel
theorem dX2_openPipes_92 : decode cX2_openPipes 92 = .ok (.bipush 24, 2) := by decide +kernel
theorem dX2_openPipes_94 : decode cX2_openPipes 94 = .ok (.if_icmp .ge 42, 3) := by decide +kernel
theorem dX2_openPipes_97 : decode cX2_openPipes 97 = .ok (.aload_n 0, 1) := by decide +kernel
theorem dX2_openPipes_98 : decode cX2_openPipes 98 = .ok (.getfield 9, 3) := by decide +kernel
theorem dX2_openPipes_101 : decode cX2_openPipes 101 = .ok (.iload 4, 2) := by decide +kernel
theorem dX2_openPipes_103 : decode cX2_openPipes 103 = .ok (.iaload, 1) := by decide +kernel
theorem dX2_openPipes_104 : decode cX2_openPipes 104 = .ok (.iload 7, 2) := by decide +kernel
theorem dX2_openPipes_106 : decode cX2_openPipes 106 = .ok (.invokestatic 51, 3) := by decide +kernel
theorem dX2_openPipes_109 : decode cX2_openPipes 109 = .ok (.ifCond .eq 21, 3) := by decide +kernel
theorem dX2_openPipes_112 : decode cX2_openPipes 112 = .ok (.aload_n 0, 1) := by decide +kernel
theorem dX2_openPipes_113 : decode cX2_openPipes 113 = .ok (.getfield 15, 3) := by decide +kernel
theorem dX2_openPipes_116 : decode cX2_openPipes 116 = .ok (.iload 5, 2) := by decide +kernel
theorem dX2_openPipes_118 : decode cX2_openPipes 118 = .ok (.dup2, 1) := by decide +kernel
theorem dX2_openPipes_119 : decode cX2_openPipes 119 = .ok (.iaload, 1) := by decide +kernel
theorem dX2_openPipes_120 : decode cX2_openPipes 120 = .ok (.aload_n 1, 1) := by decide +kernel
theorem dX2_openPipes_121 : decode cX2_openPipes 121 = .ok (.iload 4, 2) := by decide +kernel
theorem dX2_openPipes_123 : decode cX2_openPipes 123 = .ok (.iload 7, 2) := by decide +kernel
theorem dX2_openPipes_125 : decode cX2_openPipes 125 = .ok (.invokevirtual 78, 3) := by decide +kernel
theorem dX2_openPipes_128 : decode cX2_openPipes 128 = .ok (.iadd, 1) := by decide +kernel
theorem dX2_openPipes_129 : decode cX2_openPipes 129 = .ok (.iastore, 1) := by decide +kernel
theorem dX2_openPipes_130 : decode cX2_openPipes 130 = .ok (.iinc 7 1, 3) := by decide +kernel
theorem dX2_openPipes_133 : decode cX2_openPipes 133 = .ok (.goto (-43), 3) := by decide +kernel
theorem dX2_openPipes_136 : decode cX2_openPipes 136 = .ok (.iinc 4 1, 3) := by decide +kernel
theorem dX2_openPipes_139 : decode cX2_openPipes 139 = .ok (.goto (-113), 3) := by decide +kernel
theorem dX2_openPipes_142 : decode cX2_openPipes 142 = .ok (.return_, 1) := by decide +kernel
theorem dX2_setPressures_0 : decode cX2_setPressures 0 = .ok (.aload_n 1, 1) := by decide +kernel
theorem dX2_setPressures_1 : decode cX2_setPressures 1 = .ok (.invokevirtual 81, 3) := by decide +kernel
theorem dX2_setPressures_4 : decode cX2_setPressures 4 = .ok (.istore_n 2, 1) := by decide +kernel
theorem dX2_setPressures_5 : decode cX2_setPressures 5 = .ok (.iconst 0, 1) := by decide +kernel
theorem dX2_setPressures_6 : decode cX2_setPressures 6 = .ok (.istore_n 3, 1) := by decide +kernel
theorem dX2_setPressures_7 : decode cX2_setPressures 7 = .ok (.iload_n 3, 1) := by decide +kernel
theorem dX2_setPressures_8 : decode cX2_setPressures 8 = .ok (.iconst 2, 1) := by decide +kernel
theorem dX2_setPressures_9 : decode cX2_setPressures 9 = .ok (.if_icmp .ge 45, 3) := by decide +kernel
theorem dX2_setPressures_12 : decode cX2_setPressures 12 = .ok (.aload_n 0, 1) := by decide +kernel
theorem dX2_setPressures_13 : decode cX2_setPressures 13 = .ok (.getfield 15, 3) := by decide +kernel
theorem dX2_setPressures_16 : decode cX2_setPressures 16 = .ok (.iload_n 3, 1) := by decide +kernel
theorem dX2_setPressures_17 : decode cX2_setPressures 17 = .ok (.iaload, 1) := by decide +kernel
theorem dX2_setPressures_18 : decode cX2_setPressures 18 = .ok (.aload_n 1, 1) := by decide +kernel
theorem dX2_setPressures_19 : decode cX2_setPressures 19 = .ok (.getfield 85, 3) := by decide +kernel
theorem dX2_setPressures_22 : decode cX2_setPressures 22 = .ok (.iconst 1, 1) := by decide +kernel
theorem dX2_setPressures_23 : decode cX2_setPressures 23 = .ok (.iload_n 3, 1) := by decide +kernel
theorem dX2_setPressures_24 : decode cX2_setPressures 24 = .ok (.iadd, 1) := by decide +kernel
theorem dX2_setPressures_25 : decode cX2_setPressures 25 = .ok (.iaload, 1) := by decide +kernel
theorem dX2_setPressures_26 : decode cX2_setPressures 26 = .ok (.imul, 1) := by decide +kernel
theorem dX2_setPressures_27 : decode cX2_setPressures 27 = .ok (.bipush 100, 2) := by decide +kernel
theorem dX2_setPressures_29 : decode cX2_setPressures 29 = .ok (.invokestatic 88, 3) := by decide +kernel
theorem dX2_setPressures_32 : decode cX2_setPressures 32 = .ok (.istore 4, 2) := by decide +kernel
theorem dX2_setPressures_34 : decode cX2_setPressures 34 = .ok (.aload_n 0, 1) := by decide +kernel
theorem dX2_setPressures_35 : decode cX2_setPressures 35 = .ok (.getfield 18, 3) := by decide +kernel
theorem dX2_setPressures_38 : decode cX2_setPressures 38 = .ok (.iload_n 3, 1) := by decide +kernel
theorem dX2_setPressures_39 : decode cX2_setPressures 39 = .ok (.iconst 0, 1) := by decide +kernel
theorem dX2_setPressures_40 : decode cX2_setPressures 40 = .ok (.iload_n 2, 1) := by decide +kernel
theorem dX2_setPressures_41 : decode cX2_setPressures 41 = .ok (.iload 4, 2) := by decide +kernel
theorem dX2_setPressures_43 : decode cX2_setPressures 43 = .ok (.isub, 1) := by decide +kernel
theorem dX2_setPressures_44 : decode cX2_setPressures 44 = .ok (.invokestatic 91, 3) := by decide +kernel
theorem dX2_setPressures_47 : decode cX2_setPressures 47 = .ok (.iastore, 1) := by decide +kernel
theorem dX2_setPressures_48 : decode cX2_setPressures 48 = .ok (.iinc 3 1, 3) := by decide +kernel
theorem dX2_setPressures_51 : decode cX2_setPressures 51 = .ok (.goto (-44), 3) := by decide +kernel
theorem dX2_setPressures_54 : decode cX2_setPressures 54 = .ok (.return_, 1) := by decide +kernel
theorem dX2_asks_0 : decode cX2_asks 0 = .ok (.aload_n 1, 1) := by decide +kernel
theorem dX2_asks_1 : decode cX2_asks 1 = .ok (.iload_n 2, 1) := by decide +kernel
theorem dX2_asks_2 : decode cX2_asks 2 = .ok (.iload_n 3, 1) := by decide +kernel
theorem dX2_asks_3 : decode cX2_asks 3 = .ok (.invokevirtual 78, 3) := by decide +kernel
theorem dX2_asks_6 : decode cX2_asks 6 = .ok (.aload_n 0, 1) := by decide +kernel
theorem dX2_asks_7 : decode cX2_asks 7 = .ok (.getfield 18, 3) := by decide +kernel
theorem dX2_asks_10 : decode cX2_asks 10 = .ok (.aload_n 1, 1) := by decide +kernel
theorem dX2_asks_11 : decode cX2_asks 11 = .ok (.iload_n 2, 1) := by decide +kernel
theorem dX2_asks_12 : decode cX2_asks 12 = .ok (.invokevirtual 44, 3) := by decide +kernel
theorem dX2_asks_15 : decode cX2_asks 15 = .ok (.iaload, 1) := by decide +kernel
theorem dX2_asks_16 : decode cX2_asks 16 = .ok (.imul, 1) := by decide +kernel
theorem dX2_asks_17 : decode cX2_asks 17 = .ok (.istore 4, 2) := by decide +kernel
theorem dX2_asks_19 : decode cX2_asks 19 = .ok (.iload 4, 2) := by decide +kernel
theorem dX2_asks_21 : decode cX2_asks 21 = .ok (.aload_n 1, 1) := by decide +kernel
theorem dX2_asks_22 : decode cX2_asks 22 = .ok (.getfield 85, 3) := by decide +kernel
theorem dX2_asks_25 : decode cX2_asks 25 = .ok (.iconst 0, 1) := by decide +kernel
theorem dX2_asks_26 : decode cX2_asks 26 = .ok (.iaload, 1) := by decide +kernel
theorem dX2_asks_27 : decode cX2_asks 27 = .ok (.invokestatic 88, 3) := by decide +kernel
theorem dX2_asks_30 : decode cX2_asks 30 = .ok (.ireturn, 1) := by decide +kernel
theorem dX2_addUpAsked_0 : decode cX2_addUpAsked 0 = .ok (.iconst 0, 1) := by decide +kernel
theorem dX2_addUpAsked_1 : decode cX2_addUpAsked 1 = .ok (.istore_n 2, 1) := by decide +kernel
theorem dX2_addUpAsked_2 : decode cX2_addUpAsked 2 = .ok (.iload_n 2, 1) := by decide +kernel
theorem dX2_addUpAsked_3 : decode cX2_addUpAsked 3 = .ok (.bipush 8, 2) := by decide +kernel
theorem dX2_addUpAsked_5 : decode cX2_addUpAsked 5 = .ok (.if_icmp .ge 59, 3) := by decide +kernel
theorem dX2_addUpAsked_8 : decode cX2_addUpAsked 8 = .ok (.aload_n 0, 1) := by decide +kernel
theorem dX2_addUpAsked_9 : decode cX2_addUpAsked 9 = .ok (.getfield 21, 3) := by decide +kernel
theorem dX2_addUpAsked_12 : decode cX2_addUpAsked 12 = .ok (.iload_n 2, 1) := by decide +kernel
theorem dX2_addUpAsked_13 : decode cX2_addUpAsked 13 = .ok (.iconst 0, 1) := by decide +kernel
theorem dX2_addUpAsked_14 : decode cX2_addUpAsked 14 = .ok (.iastore, 1) := by decide +kernel
theorem dX2_addUpAsked_15 : decode cX2_addUpAsked 15 = .ok (.iconst 0, 1) := by decide +kernel
theorem dX2_addUpAsked_16 : decode cX2_addUpAsked 16 = .ok (.istore_n 3, 1) := by decide +kernel
theorem dX2_addUpAsked_17 : decode cX2_addUpAsked 17 = .ok (.iload_n 3, 1) := by decide +kernel
theorem dX2_addUpAsked_18 : decode cX2_addUpAsked 18 = .ok (.bipush 24, 2) := by decide +kernel
theorem dX2_addUpAsked_20 : decode cX2_addUpAsked 20 = .ok (.if_icmp .ge 38, 3) := by decide +kernel
theorem dX2_addUpAsked_23 : decode cX2_addUpAsked 23 = .ok (.aload_n 0, 1) := by decide +kernel
theorem dX2_addUpAsked_24 : decode cX2_addUpAsked 24 = .ok (.getfield 9, 3) := by decide +kernel
theorem dX2_addUpAsked_27 : decode cX2_addUpAsked 27 = .ok (.iload_n 2, 1) := by decide +kernel
theorem dX2_addUpAsked_28 : decode cX2_addUpAsked 28 = .ok (.iaload, 1) := by decide +kernel
theorem dX2_addUpAsked_29 : decode cX2_addUpAsked 29 = .ok (.iload_n 3, 1) := by decide +kernel
theorem dX2_addUpAsked_30 : decode cX2_addUpAsked 30 = .ok (.invokestatic 51, 3) := by decide +kernel
theorem dX2_addUpAsked_33 : decode cX2_addUpAsked 33 = .ok (.ifCond .eq 19, 3) := by decide +kernel
theorem dX2_addUpAsked_36 : decode cX2_addUpAsked 36 = .ok (.aload_n 0, 1) := by decide +kernel
theorem dX2_addUpAsked_37 : decode cX2_addUpAsked 37 = .ok (.getfield 21, 3) := by decide +kernel
theorem dX2_addUpAsked_40 : decode cX2_addUpAsked 40 = .ok (.iload_n 2, 1) := by decide +kernel
theorem dX2_addUpAsked_41 : decode cX2_addUpAsked 41 = .ok (.dup2, 1) := by decide +kernel
theorem dX2_addUpAsked_42 : decode cX2_addUpAsked 42 = .ok (.iaload, 1) := by decide +kernel
theorem dX2_addUpAsked_43 : decode cX2_addUpAsked 43 = .ok (.aload_n 0, 1) := by decide +kernel
theorem dX2_addUpAsked_44 : decode cX2_addUpAsked 44 = .ok (.aload_n 1, 1) := by decide +kernel
theorem dX2_addUpAsked_45 : decode cX2_addUpAsked 45 = .ok (.iload_n 2, 1) := by decide +kernel
theorem dX2_addUpAsked_46 : decode cX2_addUpAsked 46 = .ok (.iload_n 3, 1) := by decide +kernel
theorem dX2_addUpAsked_47 : decode cX2_addUpAsked 47 = .ok (.invokevirtual 55, 3) := by decide +kernel
theorem dX2_addUpAsked_50 : decode cX2_addUpAsked 50 = .ok (.iadd, 1) := by decide +kernel
theorem dX2_addUpAsked_51 : decode cX2_addUpAsked 51 = .ok (.iastore, 1) := by decide +kernel
theorem dX2_addUpAsked_52 : decode cX2_addUpAsked 52 = .ok (.iinc 3 1, 3) := by decide +kernel
theorem dX2_addUpAsked_55 : decode cX2_addUpAsked 55 = .ok (.goto (-38), 3) := by decide +kernel
theorem dX2_addUpAsked_58 : decode cX2_addUpAsked 58 = .ok (.iinc 2 1, 3) := by decide +kernel
theorem dX2_addUpAsked_61 : decode cX2_addUpAsked 61 = .ok (.goto (-59), 3) := by decide +kernel
theorem dX2_addUpAsked_64 : decode cX2_addUpAsked 64 = .ok (.return_, 1) := by decide +kernel
theorem dX2_feedPipes_0 : decode cX2_feedPipes 0 = .ok (.iconst 0, 1) := by decide +kernel
theorem dX2_feedPipes_1 : decode cX2_feedPipes 1 = .ok (.istore_n 2, 1) := by decide +kernel
theorem dX2_feedPipes_2 : decode cX2_feedPipes 2 = .ok (.iload_n 2, 1) := by decide +kernel
theorem dX2_feedPipes_3 : decode cX2_feedPipes 3 = .ok (.bipush 8, 2) := by decide +kernel
theorem dX2_feedPipes_5 : decode cX2_feedPipes 5 = .ok (.if_icmp .ge 43, 3) := by decide +kernel
theorem dX2_feedPipes_8 : decode cX2_feedPipes 8 = .ok (.aload_n 0, 1) := by decide +kernel
theorem dX2_feedPipes_9 : decode cX2_feedPipes 9 = .ok (.getfield 21, 3) := by decide +kernel
theorem dX2_feedPipes_12 : decode cX2_feedPipes 12 = .ok (.iload_n 2, 1) := by decide +kernel
theorem dX2_feedPipes_13 : decode cX2_feedPipes 13 = .ok (.iaload, 1) := by decide +kernel
theorem dX2_feedPipes_14 : decode cX2_feedPipes 14 = .ok (.aload_n 1, 1) := by decide +kernel
theorem dX2_feedPipes_15 : decode cX2_feedPipes 15 = .ok (.getfield 38, 3) := by decide +kernel
theorem dX2_feedPipes_18 : decode cX2_feedPipes 18 = .ok (.invokestatic 59, 3) := by decide +kernel
theorem dX2_feedPipes_21 : decode cX2_feedPipes 21 = .ok (.istore_n 3, 1) := by decide +kernel
theorem dX2_feedPipes_22 : decode cX2_feedPipes 22 = .ok (.aload_n 1, 1) := by decide +kernel
theorem dX2_feedPipes_23 : decode cX2_feedPipes 23 = .ok (.getfield 94, 3) := by decide +kernel
theorem dX2_feedPipes_26 : decode cX2_feedPipes 26 = .ok (.iload_n 2, 1) := by decide +kernel
theorem dX2_feedPipes_27 : decode cX2_feedPipes 27 = .ok (.dup2, 1) := by decide +kernel
theorem dX2_feedPipes_28 : decode cX2_feedPipes 28 = .ok (.iaload, 1) := by decide +kernel
theorem dX2_feedPipes_29 : decode cX2_feedPipes 29 = .ok (.iload_n 3, 1) := by decide +kernel
theorem dX2_feedPipes_30 : decode cX2_feedPipes 30 = .ok (.iadd, 1) := by decide +kernel
theorem dX2_feedPipes_31 : decode cX2_feedPipes 31 = .ok (.iastore, 1) := by decide +kernel
theorem dX2_feedPipes_32 : decode cX2_feedPipes 32 = .ok (.aload_n 1, 1) := by decide +kernel
theorem dX2_feedPipes_33 : decode cX2_feedPipes 33 = .ok (.dup, 1) := by decide +kernel
theorem dX2_feedPipes_34 : decode cX2_feedPipes 34 = .ok (.getfield 38, 3) := by decide +kernel
theorem dX2_feedPipes_37 : decode cX2_feedPipes 37 = .ok (.iload_n 3, 1) := by decide +kernel
theorem dX2_feedPipes_38 : decode cX2_feedPipes 38 = .ok (.isub, 1) := by decide +kernel
theorem dX2_feedPipes_39 : decode cX2_feedPipes 39 = .ok (.putfield 38, 3) := by decide +kernel
theorem dX2_feedPipes_42 : decode cX2_feedPipes 42 = .ok (.iinc 2 1, 3) := by decide +kernel
theorem dX2_feedPipes_45 : decode cX2_feedPipes 45 = .ok (.goto (-43), 3) := by decide +kernel
theorem dX2_feedPipes_48 : decode cX2_feedPipes 48 = .ok (.return_, 1) := by decide +kernel
theorem dJ6_bitCount_0f7a4_0 : decode cJ6_bitCount_0f7a4 0 = .ok (.iload_n 0, 1) := by decide +kernel
theorem dJ6_bitCount_0f7a4_1 : decode cJ6_bitCount_0f7a4 1 = .ok (.iload_n 0, 1) := by decide +kernel
theorem dJ6_bitCount_0f7a4_2 : decode cJ6_bitCount_0f7a4 2 = .ok (.iconst 1, 1) := by decide +kernel
theorem dJ6_bitCount_0f7a4_3 : decode cJ6_bitCount_0f7a4 3 = .ok (.iushr, 1) := by decide +kernel
theorem dJ6_bitCount_0f7a4_4 : decode cJ6_bitCount_0f7a4 4 = .ok (.ldc_w 265, 3) := by decide +kernel
theorem dJ6_bitCount_0f7a4_7 : decode cJ6_bitCount_0f7a4 7 = .ok (.iand, 1) := by decide +kernel
theorem dJ6_bitCount_0f7a4_8 : decode cJ6_bitCount_0f7a4 8 = .ok (.isub, 1) := by decide +kernel
theorem dJ6_bitCount_0f7a4_9 : decode cJ6_bitCount_0f7a4 9 = .ok (.istore_n 0, 1) := by decide +kernel
theorem dJ6_bitCount_0f7a4_10 : decode cJ6_bitCount_0f7a4 10 = .ok (.iload_n 0, 1) := by decide +kernel
theorem dJ6_bitCount_0f7a4_11 : decode cJ6_bitCount_0f7a4 11 = .ok (.ldc_w 266, 3) := by decide +kernel
theorem dJ6_bitCount_0f7a4_14 : decode cJ6_bitCount_0f7a4 14 = .ok (.iand, 1) := by decide +kernel
theorem dJ6_bitCount_0f7a4_15 : decode cJ6_bitCount_0f7a4 15 = .ok (.iload_n 0, 1) := by decide +kernel
theorem dJ6_bitCount_0f7a4_16 : decode cJ6_bitCount_0f7a4 16 = .ok (.iconst 2, 1) := by decide +kernel
theorem dJ6_bitCount_0f7a4_17 : decode cJ6_bitCount_0f7a4 17 = .ok (.iushr, 1) := by decide +kernel
theorem dJ6_bitCount_0f7a4_18 : decode cJ6_bitCount_0f7a4 18 = .ok (.ldc_w 266, 3) := by decide +kernel
theorem dJ6_bitCount_0f7a4_21 : decode cJ6_bitCount_0f7a4 21 = .ok (.iand, 1) := by decide +kernel
theorem dJ6_bitCount_0f7a4_22 : decode cJ6_bitCount_0f7a4 22 = .ok (.iadd, 1) := by decide +kernel
theorem dJ6_bitCount_0f7a4_23 : decode cJ6_bitCount_0f7a4 23 = .ok (.istore_n 0, 1) := by decide +kernel
theorem dJ6_bitCount_0f7a4_24 : decode cJ6_bitCount_0f7a4 24 = .ok (.iload_n 0, 1) := by decide +kernel
theorem dJ6_bitCount_0f7a4_25 : decode cJ6_bitCount_0f7a4 25 = .ok (.iload_n 0, 1) := by decide +kernel
theorem dJ6_bitCount_0f7a4_26 : decode cJ6_bitCount_0f7a4 26 = .ok (.iconst 4, 1) := by decide +kernel
theorem dJ6_bitCount_0f7a4_27 : decode cJ6_bitCount_0f7a4 27 = .ok (.iushr, 1) := by decide +kernel
theorem dJ6_bitCount_0f7a4_28 : decode cJ6_bitCount_0f7a4 28 = .ok (.iadd, 1) := by decide +kernel
theorem dJ6_bitCount_0f7a4_29 : decode cJ6_bitCount_0f7a4 29 = .ok (.ldc_w 267, 3) := by decide +kernel
theorem dJ6_bitCount_0f7a4_32 : decode cJ6_bitCount_0f7a4 32 = .ok (.iand, 1) := by decide +kernel
theorem dJ6_bitCount_0f7a4_33 : decode cJ6_bitCount_0f7a4 33 = .ok (.istore_n 0, 1) := by decide +kernel
theorem dJ6_bitCount_0f7a4_34 : decode cJ6_bitCount_0f7a4 34 = .ok (.iload_n 0, 1) := by decide +kernel
theorem dJ6_bitCount_0f7a4_35 : decode cJ6_bitCount_0f7a4 35 = .ok (.iload_n 0, 1) := by decide +kernel
theorem dJ6_bitCount_0f7a4_36 : decode cJ6_bitCount_0f7a4 36 = .ok (.bipush 8, 2) := by decide +kernel
theorem dJ6_bitCount_0f7a4_38 : decode cJ6_bitCount_0f7a4 38 = .ok (.iushr, 1) := by decide +kernel
theorem dJ6_bitCount_0f7a4_39 : decode cJ6_bitCount_0f7a4 39 = .ok (.iadd, 1) := by decide +kernel
theorem dJ6_bitCount_0f7a4_40 : decode cJ6_bitCount_0f7a4 40 = .ok (.istore_n 0, 1) := by decide +kernel
theorem dJ6_bitCount_0f7a4_41 : decode cJ6_bitCount_0f7a4 41 = .ok (.iload_n 0, 1) := by decide +kernel
theorem dJ6_bitCount_0f7a4_42 : decode cJ6_bitCount_0f7a4 42 = .ok (.iload_n 0, 1) := by decide +kernel
theorem dJ6_bitCount_0f7a4_43 : decode cJ6_bitCount_0f7a4 43 = .ok (.bipush 16, 2) := by decide +kernel
theorem dJ6_bitCount_0f7a4_45 : decode cJ6_bitCount_0f7a4 45 = .ok (.iushr, 1) := by decide +kernel
theorem dJ6_bitCount_0f7a4_46 : decode cJ6_bitCount_0f7a4 46 = .ok (.iadd, 1) := by decide +kernel
theorem dJ6_bitCount_0f7a4_47 : decode cJ6_bitCount_0f7a4 47 = .ok (.istore_n 0, 1) := by decide +kernel
theorem dJ6_bitCount_0f7a4_48 : decode cJ6_bitCount_0f7a4 48 = .ok (.iload_n 0, 1) := by decide +kernel
theorem dJ6_bitCount_0f7a4_49 : decode cJ6_bitCount_0f7a4 49 = .ok (.bipush 63, 2) := by decide +kernel
theorem dJ6_bitCount_0f7a4_51 : decode cJ6_bitCount_0f7a4 51 = .ok (.iand, 1) := by decide +kernel
theorem dJ6_bitCount_0f7a4_52 : decode cJ6_bitCount_0f7a4 52 = .ok (.ireturn, 1) := by decide +kernel
theorem dJ9_floorDiv_7cf53_0 : decode cJ9_floorDiv_7cf53 0 = .ok (.iload_n 0, 1) := by decide +kernel
theorem dJ9_floorDiv_7cf53_1 : decode cJ9_floorDiv_7cf53 1 = .ok (.iload_n 1, 1) := by decide +kernel
theorem dJ9_floorDiv_7cf53_2 : decode cJ9_floorDiv_7cf53 2 = .ok (.idiv, 1) := by decide +kernel
theorem dJ9_floorDiv_7cf53_3 : decode cJ9_floorDiv_7cf53 3 = .ok (.istore_n 2, 1) := by decide +kernel
theorem dJ9_floorDiv_7cf53_4 : decode cJ9_floorDiv_7cf53 4 = .ok (.iload_n 0, 1) := by decide +kernel
theorem dJ9_floorDiv_7cf53_5 : decode cJ9_floorDiv_7cf53 5 = .ok (.iload_n 1, 1) := by decide +kernel
theorem dJ9_floorDiv_7cf53_6 : decode cJ9_floorDiv_7cf53 6 = .ok (.ixor, 1) := by decide +kernel
theorem dJ9_floorDiv_7cf53_7 : decode cJ9_floorDiv_7cf53 7 = .ok (.ifCond .ge 14, 3) := by decide +kernel
theorem dJ9_floorDiv_7cf53_10 : decode cJ9_floorDiv_7cf53 10 = .ok (.iload_n 2, 1) := by decide +kernel
theorem dJ9_floorDiv_7cf53_11 : decode cJ9_floorDiv_7cf53 11 = .ok (.iload_n 1, 1) := by decide +kernel
theorem dJ9_floorDiv_7cf53_12 : decode cJ9_floorDiv_7cf53 12 = .ok (.imul, 1) := by decide +kernel
theorem dJ9_floorDiv_7cf53_13 : decode cJ9_floorDiv_7cf53 13 = .ok (.iload_n 0, 1) := by decide +kernel
theorem dJ9_floorDiv_7cf53_14 : decode cJ9_floorDiv_7cf53 14 = .ok (.if_icmp .eq 7, 3) := by decide +kernel
theorem dJ9_floorDiv_7cf53_17 : decode cJ9_floorDiv_7cf53 17 = .ok (.iload_n 2, 1) := by decide +kernel
theorem dJ9_floorDiv_7cf53_18 : decode cJ9_floorDiv_7cf53 18 = .ok (.iconst 1, 1) := by decide +kernel
theorem dJ9_floorDiv_7cf53_19 : decode cJ9_floorDiv_7cf53 19 = .ok (.isub, 1) := by decide +kernel
theorem dJ9_floorDiv_7cf53_20 : decode cJ9_floorDiv_7cf53 20 = .ok (.ireturn, 1) := by decide +kernel
theorem dJ9_floorDiv_7cf53_21 : decode cJ9_floorDiv_7cf53 21 = .ok (.iload_n 2, 1) := by decide +kernel
theorem dJ9_floorDiv_7cf53_22 : decode cJ9_floorDiv_7cf53 22 = .ok (.ireturn, 1) := by decide +kernel
theorem dJ9_max_7cf53_0 : decode cJ9_max_7cf53 0 = .ok (.iload_n 0, 1) := by decide +kernel
theorem dJ9_max_7cf53_1 : decode cJ9_max_7cf53 1 = .ok (.iload_n 1, 1) := by decide +kernel
theorem dJ9_max_7cf53_2 : decode cJ9_max_7cf53 2 = .ok (.if_icmp .lt 7, 3) := by decide +kernel
theorem dJ9_max_7cf53_5 : decode cJ9_max_7cf53 5 = .ok (.iload_n 0, 1) := by decide +kernel
theorem dJ9_max_7cf53_6 : decode cJ9_max_7cf53 6 = .ok (.goto 4, 3) := by decide +kernel
theorem dJ9_max_7cf53_9 : decode cJ9_max_7cf53 9 = .ok (.iload_n 1, 1) := by decide +kernel
theorem dJ9_max_7cf53_10 : decode cJ9_max_7cf53 10 = .ok (.ireturn, 1) := by decide +kernel
theorem dJ9_min_7cf53_0 : decode cJ9_min_7cf53 0 = .ok (.iload_n 0, 1) := by decide +kernel
theorem dJ9_min_7cf53_1 : decode cJ9_min_7cf53 1 = .ok (.iload_n 1, 1) := by decide +kernel
theorem dJ9_min_7cf53_2 : decode cJ9_min_7cf53 2 = .ok (.if_icmp .gt 7, 3) := by decide +kernel
theorem dJ9_min_7cf53_5 : decode cJ9_min_7cf53 5 = .ok (.iload_n 0, 1) := by decide +kernel
theorem dJ9_min_7cf53_6 : decode cJ9_min_7cf53 6 = .ok (.goto 4, 3) := by decide +kernel
theorem dJ9_min_7cf53_9 : decode cJ9_min_7cf53 9 = .ok (.iload_n 1, 1) := by decide +kernel
theorem dJ9_min_7cf53_10 : decode cJ9_min_7cf53 10 = .ok (.ireturn, 1) := by decide +kernel
end
section
theorem dX3_init_0 : decode cX3_init 0 = .ok (.aload_n 0, 1) := by decide +kernel
theorem dX3_init_1 : decode cX3_init 1 = .ok (.invokespecial 1, 3) := by decide +kernel
theorem dX3_init_4 : decode cX3_init 4 = .ok (.aload_n 0, 1) := by decide +kernel
theorem dX3_init_5 : decode cX3_init 5 = .ok (.new 7, 3) := by decide +kernel
theorem dX3_init_8 : decode cX3_init 8 = .ok (.dup, 1) := by decide +kernel
theorem dX3_init_9 : decode cX3_init 9 = .ok (.invokespecial 9, 3) := by decide +kernel
theorem dX3_init_12 : decode cX3_init 12 = .ok (.putfield 10, 3) := by decide +kernel
theorem dX3_init_15 : decode cX3_init 15 = .ok (.aload_n 0, 1) := by decide +kernel
theorem dX3_init_16 : decode cX3_init 16 = .ok (.new 7, 3) := by decide +kernel
theorem dX3_init_19 : decode cX3_init 19 = .ok (.dup, 1) := by decide +kernel
theorem dX3_init_20 : decode cX3_init 20 = .ok (.invokespecial 9, 3) := by decide +kernel
theorem dX3_init_23 : decode cX3_init 23 = .ok (.putfield 16, 3) := by decide +kernel
theorem dX3_init_26 : decode cX3_init 26 = .ok (.aload_n 0, 1) := by decide +kernel
theorem dX3_init_27 : decode cX3_init 27 = .ok (.iconst 5, 1) := by decide +kernel
theorem dX3_init_28 : decode cX3_init 28 = .ok (.anewarray 7, 3) := by decide +kernel
theorem dX3_init_31 : decode cX3_init 31 = .ok (.putfield 19, 3) := by decide +kernel
theorem dX3_init_34 : decode cX3_init 34 = .ok (.aload_n 0, 1) := by decide +kernel
theorem dX3_init_35 : decode cX3_init 35 = .ok (.iconst 2, 1) := by decide +kernel
theorem dX3_init_36 : decode cX3_init 36 = .ok (.anewarray 7, 3) := by decide +kernel
theorem dX3_init_39 : decode cX3_init 39 = .ok (.putfield 23, 3) := by decide +kernel
theorem dX3_init_42 : decode cX3_init 42 = .ok (.aload_n 0, 1) := by decide +kernel
theorem dX3_init_43 : decode cX3_init 43 = .ok (.iconst 2, 1) := by decide +kernel
theorem dX3_init_44 : decode cX3_init 44 = .ok (.newarray .boolean, 2) := by decide +kernel
theorem dX3_init_46 : decode cX3_init 46 = .ok (.putfield 26, 3) := by decide +kernel
theorem dX3_init_49 : decode cX3_init 49 = .ok (.aload_n 0, 1) := by decide +kernel
theorem dX3_init_50 : decode cX3_init 50 = .ok (.new 30, 3) := by decide +kernel
theorem dX3_init_53 : decode cX3_init 53 = .ok (.dup, 1) := by decide +kernel
theorem dX3_init_54 : decode cX3_init 54 = .ok (.invokespecial 32, 3) := by decide +kernel
theorem dX3_init_57 : decode cX3_init 57 = .ok (.putfield 33, 3) := by decide +kernel
theorem dX3_init_60 : decode cX3_init 60 = .ok (.aload_n 0, 1) := by decide +kernel
theorem dX3_init_61 : decode cX3_init 61 = .ok (.new 37, 3) := by decide +kernel
theorem dX3_init_64 : decode cX3_init 64 = .ok (.dup, 1) := by decide +kernel
theorem dX3_init_65 : decode cX3_init 65 = .ok (.invokespecial 39, 3) := by decide +kernel
theorem dX3_init_68 : decode cX3_init 68 = .ok (.putfield 40, 3) := by decide +kernel
theorem dX3_init_71 : decode cX3_init 71 = .ok (.aload_n 0, 1) := by decide +kernel
theorem dX3_init_72 : decode cX3_init 72 = .ok (.new 37, 3) := by decide +kernel
theorem dX3_init_75 : decode cX3_init 75 = .ok (.dup, 1) := by decide +kernel
theorem dX3_init_76 : decode cX3_init 76 = .ok (.invokespecial 39, 3) := by decide +kernel
theorem dX3_init_79 : decode cX3_init 79 = .ok (.putfield 44, 3) := by decide +kernel
theorem dX3_init_82 : decode cX3_init 82 = .ok (.iconst 0, 1) := by decide +kernel
theorem dX3_init_83 : decode cX3_init 83 = .ok (.istore_n 1, 1) := by decide +kernel
theorem dX3_init_84 : decode cX3_init 84 = .ok (.iload_n 1, 1) := by decide +kernel
theorem dX3_init_85 : decode cX3_init 85 = .ok (.iconst 5, 1) := by decide +kernel
theorem dX3_init_86 : decode cX3_init 86 = .ok (.if_icmp .ge 22, 3) := by decide +kernel
theorem dX3_init_89 : decode cX3_init 89 = .ok (.aload_n 0, 1) := by decide +kernel
theorem dX3_init_90 : decode cX3_init 90 = .ok (.getfield 19, 3) := by decide +kernel
theorem dX3_init_93 : decode cX3_init 93 = .ok (.iload_n 1, 1) := by decide +kernel
theorem dX3_init_94 : decode cX3_init 94 = .ok (.new 7, 3) := by decide +kernel
theorem dX3_init_97 : decode cX3_init 97 = .ok (.dup, 1) := by decide +kernel
theorem dX3_init_98 : decode cX3_init 98 = .ok (.invokespecial 9, 3) := by decide +kernel
theorem dX3_init_101 : decode cX3_init 101 = .ok (.aastore, 1) := by decide +kernel
theorem dX3_init_102 : decode cX3_init 102 = .ok (.iinc 1 1, 3) := by decide +kernel
theorem dX3_init_105 : decode cX3_init 105 = .ok (.goto (-21), 3) := by decide +kernel
theorem dX3_init_108 : decode cX3_init 108 = .ok (.iconst 0, 1) := by decide +kernel
theorem dX3_init_109 : decode cX3_init 109 = .ok (.istore_n 1, 1) := by decide +kernel
theorem dX3_init_110 : decode cX3_init 110 = .ok (.iload_n 1, 1) := by decide +kernel
theorem dX3_init_111 : decode cX3_init 111 = .ok (.iconst 2, 1) := by decide +kernel
theorem dX3_init_112 : decode cX3_init 112 = .ok (.if_icmp .ge 22, 3) := by decide +kernel
theorem dX3_init_115 : decode cX3_init 115 = .ok (.aload_n 0, 1) := by decide +kernel
theorem dX3_init_116 : decode cX3_init 116 = .ok (.getfield 23, 3) := by decide +kernel
theorem dX3_init_119 : decode cX3_init 119 = .ok (.iload_n 1, 1) := by decide +kernel
theorem dX3_init_120 : decode cX3_init 120 = .ok (.new 7, 3) := by decide +kernel
theorem dX3_init_123 : decode cX3_init 123 = .ok (.dup, 1) := by decide +kernel
theorem dX3_init_124 : decode cX3_init 124 = .ok (.invokespecial 9, 3) := by decide +kernel
theorem dX3_init_127 : decode cX3_init 127 = .ok (.aastore, 1) := by decide +kernel
theorem dX3_init_128 : decode cX3_init 128 = .ok (.iinc 1 1, 3) := by decide +kernel
theorem dX3_init_131 : decode cX3_init 131 = .ok (.goto (-21), 3) := by decide +kernel
theorem dX3_init_134 : decode cX3_init 134 = .ok (.return_, 1) := by decide +kernel
theorem dX3_layOut_0 : decode cX3_layOut 0 = .ok (.iload_n 1, 1) := by decide +kernel
theorem dX3_layOut_1 : decode cX3_layOut 1 = .ok (.invokestatic 47, 3) := by decide +kernel
theorem dX3_layOut_4 : decode cX3_layOut 4 = .ok (.ifCond .ne 6, 3) := by decide +kernel
theorem dX3_layOut_7 : decode cX3_layOut 7 = .ok (.ldc 51, 2) := by decide +kernel
theorem dX3_layOut_9 : decode cX3_layOut 9 = .ok (.ireturn, 1) := by decide +kernel
theorem dX3_layOut_10 : decode cX3_layOut 10 = .ok (.iload_n 2, 1) := by decide +kernel
theorem dX3_layOut_11 : decode cX3_layOut 11 = .ok (.invokestatic 52, 3) := by decide +kernel
theorem dX3_layOut_14 : decode cX3_layOut 14 = .ok (.ifCond .eq 25, 3) := by decide +kernel
theorem dX3_layOut_17 : decode cX3_layOut 17 = .ok (.iload_n 3, 1) := by decide +kernel
theorem dX3_layOut_18 : decode cX3_layOut 18 = .ok (.iconst 1, 1) := by decide +kernel
theorem dX3_layOut_19 : decode cX3_layOut 19 = .ok (.bipush 40, 2) := by decide +kernel
theorem dX3_layOut_21 : decode cX3_layOut 21 = .ok (.invokestatic 55, 3) := by decide +kernel
theorem dX3_layOut_24 : decode cX3_layOut 24 = .ok (.ifCond .eq 15, 3) := by decide +kernel
theorem dX3_layOut_27 : decode cX3_layOut 27 = .ok (.iload 4, 2) := by decide +kernel
theorem dX3_layOut_29 : decode cX3_layOut 29 = .ok (.iconst 0, 1) := by decide +kernel
theorem dX3_layOut_30 : decode cX3_layOut 30 = .ok (.sipush 200, 3) := by decide +kernel
theorem dX3_layOut_33 : decode cX3_layOut 33 = .ok (.invokestatic 55, 3) := by decide +kernel
theorem dX3_layOut_36 : decode cX3_layOut 36 = .ok (.ifCond .ne 6, 3) := by decide +kernel
theorem dX3_layOut_39 : decode cX3_layOut 39 = .ok (.ldc 59, 2) := by decide +kernel
theorem dX3_layOut_41 : decode cX3_layOut 41 = .ok (.ireturn, 1) := by decide +kernel
theorem dX3_layOut_42 : decode cX3_layOut 42 = .ok (.aload_n 0, 1) := by decide +kernel
theorem dX3_layOut_43 : decode cX3_layOut 43 = .ok (.invokevirtual 60, 3) := by decide +kernel
theorem dX3_layOut_46 : decode cX3_layOut 46 = .ok (.aload_n 0, 1) := by decide +kernel
theorem dX3_layOut_47 : decode cX3_layOut 47 = .ok (.getfield 10, 3) := by decide +kernel
theorem dX3_layOut_50 : decode cX3_layOut 50 = .ok (.getfield 63, 3) := by decide +kernel
theorem dX3_layOut_53 : decode cX3_layOut 53 = .ok (.iload_n 1, 1) := by decide +kernel
theorem dX3_layOut_54 : decode cX3_layOut 54 = .ok (.iaload, 1) := by decide +kernel
theorem dX3_layOut_55 : decode cX3_layOut 55 = .ok (.istore 5, 2) := by decide +kernel
theorem dX3_layOut_57 : decode cX3_layOut 57 = .ok (.aload_n 0, 1) := by decide +kernel
theorem dX3_layOut_58 : decode cX3_layOut 58 = .ok (.getfield 10, 3) := by decide +kernel
theorem dX3_layOut_61 : decode cX3_layOut 61 = .ok (.getfield 67, 3) := by decide +kernel
theorem dX3_layOut_64 : decode cX3_layOut 64 = .ok (.iload_n 1, 1) := by decide +kernel
theorem dX3_layOut_65 : decode cX3_layOut 65 = .ok (.iload_n 2, 1) := by decide +kernel
theorem dX3_layOut_66 : decode cX3_layOut 66 = .ok (.iastore, 1) := by decide +kernel
theorem dX3_layOut_67 : decode cX3_layOut 67 = .ok (.aload_n 0, 1) := by decide +kernel
theorem dX3_layOut_68 : decode cX3_layOut 68 = .ok (.getfield 10, 3) := by decide +kernel
theorem dX3_layOut_71 : decode cX3_layOut 71 = .ok (.getfield 63, 3) := by decide +kernel
theorem dX3_layOut_74 : decode cX3_layOut 74 = .ok (.iload_n 1, 1) := by decide +kernel
theorem dX3_layOut_75 : decode cX3_layOut 75 = .ok (.iload_n 3, 1) := by decide +kernel
theorem dX3_layOut_76 : decode cX3_layOut 76 = .ok (.iastore, 1) := by decide +kernel
theorem dX3_layOut_77 : decode cX3_layOut 77 = .ok (.aload_n 0, 1) := by decide +kernel
theorem dX3_layOut_78 : decode cX3_layOut 78 = .ok (.getfield 10, 3) := by decide +kernel
theorem dX3_layOut_81 : decode cX3_layOut 81 = .ok (.getfield 70, 3) := by decide +kernel
theorem dX3_layOut_84 : decode cX3_layOut 84 = .ok (.iload_n 1, 1) := by decide +kernel
theorem dX3_layOut_85 : decode cX3_layOut 85 = .ok (.iload 4, 2) := by decide +kernel
theorem dX3_layOut_87 : decode cX3_layOut 87 = .ok (.iastore, 1) := by decide +kernel
theorem dX3_layOut_88 : decode cX3_layOut 88 = .ok (.iconst 0, 1) := by decide +kernel
theorem dX3_layOut_89 : decode cX3_layOut 89 = .ok (.istore 6, 2) := by decide +kernel
theorem dX3_layOut_91 : decode cX3_layOut 91 = .ok (.iload 6, 2) := by decide +kernel
theorem dX3_layOut_93 : decode cX3_layOut 93 = .ok (.bipush 24, 2) := by decide +kernel
theorem dX3_layOut_95 : decode cX3_layOut 95 = .ok (.if_icmp .ge 24, 3) := by decide +kernel
theorem dX3_layOut_98 : decode cX3_layOut 98 = .ok (.aload_n 0, 1) := by decide +kernel
theorem dX3_layOut_99 : decode cX3_layOut 99 = .ok (.getfield 10, 3) := by decide +kernel
theorem dX3_layOut_102 : decode cX3_layOut 102 = .ok (.getfield 73, 3) := by decide +kernel
theorem dX3_layOut_105 : decode cX3_layOut 105 = .ok (.iload_n 1, 1) := by decide +kernel
theorem dX3_layOut_106 : decode cX3_layOut 106 = .ok (.iload 6, 2) := by decide +kernel
theorem dX3_layOut_108 : decode cX3_layOut 108 = .ok (.invokestatic 76, 3) := by decide +kernel
theorem dX3_layOut_111 : decode cX3_layOut 111 = .ok (.iconst 0, 1) := by decide +kernel
theorem dX3_layOut_112 : decode cX3_layOut 112 = .ok (.iastore, 1) := by decide +kernel
theorem dX3_layOut_113 : decode cX3_layOut 113 = .ok (.iinc 6 1, 3) := by decide +kernel
theorem dX3_layOut_116 : decode cX3_layOut 116 = .ok (.goto (-25), 3) := by decide +kernel
theorem dX3_layOut_119 : decode cX3_layOut 119 = .ok (.iload 5, 2) := by decide +kernel
theorem dX3_layOut_121 : decode cX3_layOut 121 = .ok (.ireturn, 1) := by decide +kernel
theorem dX3_stop_0 : decode cX3_stop 0 = .ok (.iload_n 1, 1) := by decide +kernel
theorem dX3_stop_1 : decode cX3_stop 1 = .ok (.invokestatic 47, 3) := by decide +kernel
theorem dX3_stop_4 : decode cX3_stop 4 = .ok (.ifCond .ne 6, 3) := by decide +kernel
theorem dX3_stop_7 : decode cX3_stop 7 = .ok (.ldc 51, 2) := by decide +kernel
theorem dX3_stop_9 : decode cX3_stop 9 = .ok (.ireturn, 1) := by decide +kernel
theorem dX3_stop_10 : decode cX3_stop 10 = .ok (.iload_n 2, 1) := by decide +kernel
theorem dX3_stop_11 : decode cX3_stop 11 = .ok (.tableswitch 93 0 4 #[33, 43, 53, 63, 83], 33) := by decide +kernel
theorem dX3_stop_44 : decode cX3_stop 44 = .ok (.aload_n 0, 1) := by decide +kernel
theorem dX3_stop_45 : decode cX3_stop 45 = .ok (.getfield 10, 3) := by decide +kernel
theorem dX3_stop_48 : decode cX3_stop 48 = .ok (.getfield 67, 3) := by decide +kernel
theorem dX3_stop_51 : decode cX3_stop 51 = .ok (.iload_n 1, 1) := by decide +kernel
theorem dX3_stop_52 : decode cX3_stop 52 = .ok (.iaload, 1) := by decide +kernel
theorem dX3_stop_53 : decode cX3_stop 53 = .ok (.ireturn, 1) := by decide +kernel
theorem dX3_stop_54 : decode cX3_stop 54 = .ok (.aload_n 0, 1) := by decide +kernel
theorem dX3_stop_55 : decode cX3_stop 55 = .ok (.getfield 10, 3) := by decide +kernel
theorem dX3_stop_58 : decode cX3_stop 58 = .ok (.getfield 63, 3) := by decide +kernel
theorem dX3_stop_61 : decode cX3_stop 61 = .ok (.iload_n 1, 1) := by decide +kernel
theorem dX3_stop_62 : decode cX3_stop 62 = .ok (.iaload, 1) := by decide +kernel
theorem dX3_stop_63 : decode cX3_stop 63 = .ok (.ireturn, 1) := by decide +kernel
theorem dX3_stop_64 : decode cX3_stop 64 = .ok (.aload_n 0, 1) := by decide +kernel
theorem dX3_stop_65 : decode cX3_stop 65 = .ok (.getfield 10, 3) := by decide +kernel
theorem dX3_stop_68 : decode cX3_stop 68 = .ok (.getfield 70, 3) := by decide +kernel
theorem dX3_stop_71 : decode cX3_stop 71 = .ok (.iload_n 1, 1) := by decide +kernel
theorem dX3_stop_72 : decode cX3_stop 72 = .ok (.iaload, 1) := by decide +kernel
theorem dX3_stop_73 : decode cX3_stop 73 = .ok (.ireturn, 1) := by decide +kernel
theorem dX3_stop_74 : decode cX3_stop 74 = .ok (.aload_n 0, 1) := by decide +kernel
theorem dX3_stop_75 : decode cX3_stop 75 = .ok (.getfield 10, 3) := by decide +kernel
theorem dX3_stop_78 : decode cX3_stop 78 = .ok (.getfield 80, 3) := by decide +kernel
theorem dX3_stop_81 : decode cX3_stop 81 = .ok (.iload_n 1, 1) := by decide +kernel
theorem dX3_stop_82 : decode cX3_stop 82 = .ok (.invokestatic 84, 3) := by decide +kernel
theorem dX3_stop_85 : decode cX3_stop 85 = .ok (.ifCond .eq 7, 3) := by decide +kernel
theorem dX3_stop_88 : decode cX3_stop 88 = .ok (.iconst 1, 1) := by decide +kernel
theorem dX3_stop_89 : decode cX3_stop 89 = .ok (.goto 4, 3) := by decide +kernel
theorem dX3_stop_92 : decode cX3_stop 92 = .ok (.iconst 0, 1) := by decide +kernel
theorem dX3_stop_93 : decode cX3_stop 93 = .ok (.ireturn, 1) := by decide +kernel
theorem dX3_stop_94 : decode cX3_stop 94 = .ok (.aload_n 0, 1) := by decide +kernel
theorem dX3_stop_95 : decode cX3_stop 95 = .ok (.getfield 10, 3) := by decide +kernel
theorem dX3_stop_98 : decode cX3_stop 98 = .ok (.getfield 88, 3) := by decide +kernel
theorem dX3_stop_101 : decode cX3_stop 101 = .ok (.iload_n 1, 1) := by decide +kernel
theorem dX3_stop_102 : decode cX3_stop 102 = .ok (.iaload, 1) := by decide +kernel
theorem dX3_stop_103 : decode cX3_stop 103 = .ok (.ireturn, 1) := by decide +kernel
theorem dX3_stop_104 : decode cX3_stop 104 = .ok (.ldc 59, 2) := by decide +kernel
theorem dX3_stop_106 : decode cX3_stop 106 = .ok (.ireturn, 1) := by decide +kernel
theorem dX3_set_0 : decode cX3_set 0 = .ok (.iload_n 1, 1) := by decide +kernel
theorem dX3_set_1 : decode cX3_set 1 = .ok (.iconst 0, 1) := by decide +kernel
theorem dX3_set_2 : decode cX3_set 2 = .ok (.bipush 8, 2) := by decide +kernel
theorem dX3_set_4 : decode cX3_set 4 = .ok (.invokestatic 55, 3) := by decide +kernel
theorem dX3_set_7 : decode cX3_set 7 = .ok (.ifCond .ne 6, 3) := by decide +kernel
theorem dX3_set_10 : decode cX3_set 10 = .ok (.ldc 51, 2) := by decide +kernel
theorem dX3_set_12 : decode cX3_set 12 = .ok (.ireturn, 1) := by decide +kernel
theorem dX3_set_13 : decode cX3_set 13 = .ok (.iload_n 2, 1) := by decide +kernel
theorem dX3_set_14 : decode cX3_set 14 = .ok (.getstatic 91, 3) := by decide +kernel
theorem dX3_set_17 : decode cX3_set 17 = .ok (.iload_n 1, 1) := by decide +kernel
theorem dX3_set_18 : decode cX3_set 18 = .ok (.iaload, 1) := by decide +kernel
theorem dX3_set_19 : decode cX3_set 19 = .ok (.getstatic 94, 3) := by decide +kernel
theorem dX3_set_22 : decode cX3_set 22 = .ok (.iload_n 1, 1) := by decide +kernel
theorem dX3_set_23 : decode cX3_set 23 = .ok (.iaload, 1) := by decide +kernel
theorem dX3_set_24 : decode cX3_set 24 = .ok (.invokestatic 55, 3) := by decide +kernel
theorem dX3_set_27 : decode cX3_set 27 = .ok (.ifCond .ne 6, 3) := by decide +kernel
theorem dX3_set_30 : decode cX3_set 30 = .ok (.ldc 59, 2) := by decide +kernel
theorem dX3_set_32 : decode cX3_set 32 = .ok (.ireturn, 1) := by decide +kernel
theorem dX3_set_33 : decode cX3_set 33 = .ok (.aload_n 0, 1) := by decide +kernel
theorem dX3_set_34 : decode cX3_set 34 = .ok (.invokevirtual 60, 3) := by decide +kernel
theorem dX3_set_37 : decode cX3_set 37 = .ok (.aload_n 0, 1) := by decide +kernel
theorem dX3_set_38 : decode cX3_set 38 = .ok (.getfield 10, 3) := by decide +kernel
theorem dX3_set_41 : decode cX3_set 41 = .ok (.getfield 97, 3) := by decide +kernel
theorem dX3_set_44 : decode cX3_set 44 = .ok (.iload_n 1, 1) := by decide +kernel
theorem dX3_set_45 : decode cX3_set 45 = .ok (.iaload, 1) := by decide +kernel
theorem dX3_set_46 : decode cX3_set 46 = .ok (.istore_n 3, 1) := by decide +kernel
theorem dX3_set_47 : decode cX3_set 47 = .ok (.aload_n 0, 1) := by decide +kernel
theorem dX3_set_48 : decode cX3_set 48 = .ok (.getfield 10, 3) := by decide +kernel
theorem dX3_set_51 : decode cX3_set 51 = .ok (.getfield 97, 3) := by decide +kernel
theorem dX3_set_54 : decode cX3_set 54 = .ok (.iload_n 1, 1) := by decide +kernel
theorem dX3_set_55 : decode cX3_set 55 = .ok (.iload_n 2, 1) := by decide +kernel
theorem dX3_set_56 : decode cX3_set 56 = .ok (.iastore, 1) := by decide +kernel
theorem dX3_set_57 : decode cX3_set 57 = .ok (.iload_n 3, 1) := by decide +kernel
theorem dX3_set_58 : decode cX3_set 58 = .ok (.ireturn, 1) := by decide +kernel
theorem dX3_cipher_0 : decode cX3_cipher 0 = .ok (.iload_n 1, 1) := by decide +kernel
theorem dX3_cipher_1 : decode cX3_cipher 1 = .ok (.invokestatic 47, 3) := by decide +kernel
theorem dX3_cipher_4 : decode cX3_cipher 4 = .ok (.ifCond .eq 10, 3) := by decide +kernel
theorem dX3_cipher_7 : decode cX3_cipher 7 = .ok (.iload_n 2, 1) := by decide +kernel
theorem dX3_cipher_8 : decode cX3_cipher 8 = .ok (.invokestatic 100, 3) := by decide +kernel
theorem dX3_cipher_11 : decode cX3_cipher 11 = .ok (.ifCond .ne 6, 3) := by decide +kernel
theorem dX3_cipher_14 : decode cX3_cipher 14 = .ok (.ldc 51, 2) := by decide +kernel
theorem dX3_cipher_16 : decode cX3_cipher 16 = .ok (.ireturn, 1) := by decide +kernel
theorem dX3_cipher_17 : decode cX3_cipher 17 = .ok (.iload_n 3, 1) := by decide +kernel
theorem dX3_cipher_18 : decode cX3_cipher 18 = .ok (.ifCond .eq 23, 3) := by decide +kernel
theorem dX3_cipher_21 : decode cX3_cipher 21 = .ok (.aload_n 0, 1) := by decide +kernel
theorem dX3_cipher_22 : decode cX3_cipher 22 = .ok (.getfield 10, 3) := by decide +kernel
theorem dX3_cipher_25 : decode cX3_cipher 25 = .ok (.getfield 103, 3) := by decide +kernel
theorem dX3_cipher_28 : decode cX3_cipher 28 = .ok (.iload_n 1, 1) := by decide +kernel
theorem dX3_cipher_29 : decode cX3_cipher 29 = .ok (.iaload, 1) := by decide +kernel
theorem dX3_cipher_30 : decode cX3_cipher 30 = .ok (.iload_n 2, 1) := by decide +kernel
theorem dX3_cipher_31 : decode cX3_cipher 31 = .ok (.invokestatic 84, 3) := by decide +kernel
theorem dX3_cipher_34 : decode cX3_cipher 34 = .ok (.ifCond .ne 7, 3) := by decide +kernel
theorem dX3_cipher_37 : decode cX3_cipher 37 = .ok (.iconst 1, 1) := by decide +kernel
theorem dX3_cipher_38 : decode cX3_cipher 38 = .ok (.goto 4, 3) := by decide +kernel
theorem dX3_cipher_41 : decode cX3_cipher 41 = .ok (.iconst 0, 1) := by decide +kernel
theorem dX3_cipher_42 : decode cX3_cipher 42 = .ok (.istore 4, 2) := by decide +kernel
theorem dX3_cipher_44 : decode cX3_cipher 44 = .ok (.iload 4, 2) := by decide +kernel
theorem dX3_cipher_46 : decode cX3_cipher 46 = .ok (.ifCond .eq 21, 3) := by decide +kernel
theorem dX3_cipher_49 : decode cX3_cipher 49 = .ok (.aload_n 0, 1) := by decide +kernel
theorem dX3_cipher_50 : decode cX3_cipher 50 = .ok (.getfield 10, 3) := by decide +kernel
theorem dX3_cipher_53 : decode cX3_cipher 53 = .ok (.getfield 103, 3) := by decide +kernel
theorem dX3_cipher_56 : decode cX3_cipher 56 = .ok (.invokestatic 106, 3) := by decide +kernel
theorem dX3_cipher_59 : decode cX3_cipher 59 = .ok (.bipush 6, 2) := by decide +kernel
theorem dX3_cipher_61 : decode cX3_cipher 61 = .ok (.if_icmp .lt 6, 3) := by decide +kernel
theorem dX3_cipher_64 : decode cX3_cipher 64 = .ok (.ldc 110, 2) := by decide +kernel
theorem dX3_cipher_66 : decode cX3_cipher 66 = .ok (.ireturn, 1) := by decide +kernel
theorem dX3_cipher_67 : decode cX3_cipher 67 = .ok (.aload_n 0, 1) := by decide +kernel
theorem dX3_cipher_68 : decode cX3_cipher 68 = .ok (.invokevirtual 60, 3) := by decide +kernel
theorem dX3_cipher_71 : decode cX3_cipher 71 = .ok (.aload_n 0, 1) := by decide +kernel
theorem dX3_cipher_72 : decode cX3_cipher 72 = .ok (.getfield 10, 3) := by decide +kernel
theorem dX3_cipher_75 : decode cX3_cipher 75 = .ok (.getfield 103, 3) := by decide +kernel
theorem dX3_cipher_78 : decode cX3_cipher 78 = .ok (.iload_n 1, 1) := by decide +kernel
theorem dX3_cipher_79 : decode cX3_cipher 79 = .ok (.aload_n 0, 1) := by decide +kernel
theorem dX3_cipher_80 : decode cX3_cipher 80 = .ok (.getfield 10, 3) := by decide +kernel
theorem dX3_cipher_83 : decode cX3_cipher 83 = .ok (.getfield 103, 3) := by decide +kernel
theorem dX3_cipher_86 : decode cX3_cipher 86 = .ok (.iload_n 1, 1) := by decide +kernel
theorem dX3_cipher_87 : decode cX3_cipher 87 = .ok (.iaload, 1) := by decide +kernel
theorem dX3_cipher_88 : decode cX3_cipher 88 = .ok (.iload_n 2, 1) := by decide +kernel
theorem dX3_cipher_89 : decode cX3_cipher 89 = .ok (.iload_n 3, 1) := by decide +kernel
theorem dX3_cipher_90 : decode cX3_cipher 90 = .ok (.invokestatic 111, 3) := by decide +kernel
theorem dX3_cipher_93 : decode cX3_cipher 93 = .ok (.iastore, 1) := by decide +kernel
theorem dX3_cipher_94 : decode cX3_cipher 94 = .ok (.aload_n 0, 1) := by decide +kernel
theorem dX3_cipher_95 : decode cX3_cipher 95 = .ok (.getfield 10, 3) := by decide +kernel
theorem dX3_cipher_98 : decode cX3_cipher 98 = .ok (.getfield 103, 3) := by decide +kernel
theorem dX3_cipher_101 : decode cX3_cipher 101 = .ok (.invokestatic 106, 3) := by decide +kernel
theorem dX3_cipher_104 : decode cX3_cipher 104 = .ok (.ireturn, 1) := by decide +kernel
theorem dX3_draw_0 : decode cX3_draw 0 = .ok (.iload_n 1, 1) := by decide +kernel
theorem dX3_draw_1 : decode cX3_draw 1 = .ok (.invokestatic 47, 3) := by decide +kernel
theorem dX3_draw_4 : decode cX3_draw 4 = .ok (.ifCond .ne 6, 3) := by decide +kernel
theorem dX3_draw_7 : decode cX3_draw 7 = .ok (.ldc 51, 2) := by decide +kernel
theorem dX3_draw_9 : decode cX3_draw 9 = .ok (.ireturn, 1) := by decide +kernel
theorem dX3_draw_10 : decode cX3_draw 10 = .ok (.aload_n 0, 1) := by decide +kernel
theorem dX3_draw_11 : decode cX3_draw 11 = .ok (.invokevirtual 60, 3) := by decide +kernel
theorem dX3_draw_14 : decode cX3_draw 14 = .ok (.aload_n 0, 1) := by decide +kernel
theorem dX3_draw_15 : decode cX3_draw 15 = .ok (.getfield 10, 3) := by decide +kernel
theorem dX3_draw_18 : decode cX3_draw 18 = .ok (.aload_n 0, 1) := by decide +kernel
theorem dX3_draw_19 : decode cX3_draw 19 = .ok (.getfield 10, 3) := by decide +kernel
theorem dX3_draw_22 : decode cX3_draw 22 = .ok (.getfield 80, 3) := by decide +kernel
theorem dX3_draw_25 : decode cX3_draw 25 = .ok (.iload_n 1, 1) := by decide +kernel
theorem dX3_draw_26 : decode cX3_draw 26 = .ok (.iload_n 2, 1) := by decide +kernel
theorem dX3_draw_27 : decode cX3_draw 27 = .ok (.invokestatic 111, 3) := by decide +kernel
theorem dX3_draw_30 : decode cX3_draw 30 = .ok (.putfield 80, 3) := by decide +kernel
theorem dX3_draw_33 : decode cX3_draw 33 = .ok (.aload_n 0, 1) := by decide +kernel
theorem dX3_draw_34 : decode cX3_draw 34 = .ok (.getfield 10, 3) := by decide +kernel
theorem dX3_draw_37 : decode cX3_draw 37 = .ok (.getfield 80, 3) := by decide +kernel
theorem dX3_draw_40 : decode cX3_draw 40 = .ok (.invokestatic 115, 3) := by decide +kernel
theorem dX3_draw_43 : decode cX3_draw 43 = .ok (.ireturn, 1) := by decide +kernel
theorem dX3_press_0 : decode cX3_press 0 = .ok (.iload_n 1, 1) := by decide +kernel
theorem dX3_press_1 : decode cX3_press 1 = .ok (.invokestatic 52, 3) := by decide +kernel
theorem dX3_press_4 : decode cX3_press 4 = .ok (.ifCond .eq 10, 3) := by decide +kernel
theorem dX3_press_7 : decode cX3_press 7 = .ok (.iload_n 2, 1) := by decide +kernel
theorem dX3_press_8 : decode cX3_press 8 = .ok (.invokestatic 100, 3) := by decide +kernel
theorem dX3_press_11 : decode cX3_press 11 = .ok (.ifCond .ne 6, 3) := by decide +kernel
theorem dX3_press_14 : decode cX3_press 14 = .ok (.ldc 51, 2) := by decide +kernel
theorem dX3_press_16 : decode cX3_press 16 = .ok (.ireturn, 1) := by decide +kernel
theorem dX3_press_17 : decode cX3_press 17 = .ok (.aload_n 0, 1) := by decide +kernel
theorem dX3_press_18 : decode cX3_press 18 = .ok (.invokevirtual 60, 3) := by decide +kernel
theorem dX3_press_21 : decode cX3_press 21 = .ok (.aload_n 0, 1) := by decide +kernel
theorem dX3_press_22 : decode cX3_press 22 = .ok (.getfield 10, 3) := by decide +kernel
theorem dX3_press_25 : decode cX3_press 25 = .ok (.getfield 121, 3) := by decide +kernel
theorem dX3_press_28 : decode cX3_press 28 = .ok (.iload_n 1, 1) := by decide +kernel
theorem dX3_press_29 : decode cX3_press 29 = .ok (.aload_n 0, 1) := by decide +kernel
theorem dX3_press_30 : decode cX3_press 30 = .ok (.getfield 10, 3) := by decide +kernel
theorem dX3_press_33 : decode cX3_press 33 = .ok (.getfield 121, 3) := by decide +kernel
theorem dX3_press_36 : decode cX3_press 36 = .ok (.iload_n 1, 1) := by decide +kernel
theorem dX3_press_37 : decode cX3_press 37 = .ok (.iaload, 1) := by decide +kernel
theorem dX3_press_38 : decode cX3_press 38 = .ok (.iload_n 2, 1) := by decide +kernel
theorem dX3_press_39 : decode cX3_press 39 = .ok (.iload_n 3, 1) := by decide +kernel
theorem dX3_press_40 : decode cX3_press 40 = .ok (.invokestatic 111, 3) := by decide +kernel
theorem dX3_press_43 : decode cX3_press 43 = .ok (.iastore, 1) := by decide +kernel
theorem dX3_press_44 : decode cX3_press 44 = .ok (.aload_n 0, 1) := by decide +kernel
theorem dX3_press_45 : decode cX3_press 45 = .ok (.getfield 10, 3) := by decide +kernel
theorem dX3_press_48 : decode cX3_press 48 = .ok (.getfield 121, 3) := by decide +kernel
theorem dX3_press_51 : decode cX3_press 51 = .ok (.iload_n 1, 1) := by decide +kernel
theorem dX3_press_52 : decode cX3_press 52 = .ok (.iaload, 1) := by decide +kernel
theorem dX3_press_53 : decode cX3_press 53 = .ok (.invokestatic 115, 3) := by decide +kernel
theorem dX3_press_56 : decode cX3_press 56 = .ok (.ireturn, 1) := by decide +kernel
theorem dX3_couple_0 : decode cX3_couple 0 = .ok (.aload_n 0, 1) := by decide +kernel
theorem dX3_couple_1 : decode cX3_couple 1 = .ok (.invokevirtual 60, 3) := by decide +kernel
theorem dX3_couple_4 : decode cX3_couple 4 = .ok (.aload_n 0, 1) := by decide +kernel
theorem dX3_couple_5 : decode cX3_couple 5 = .ok (.getfield 10, 3) := by decide +kernel
theorem dX3_couple_8 : decode cX3_couple 8 = .ok (.getfield 124, 3) := by decide +kernel
theorem dX3_couple_11 : decode cX3_couple 11 = .ok (.ifCond .eq 7, 3) := by decide +kernel
theorem dX3_couple_14 : decode cX3_couple 14 = .ok (.iconst 1, 1) := by decide +kernel
theorem dX3_couple_15 : decode cX3_couple 15 = .ok (.goto 4, 3) := by decide +kernel
theorem dX3_couple_18 : decode cX3_couple 18 = .ok (.iconst 0, 1) := by decide +kernel
theorem dX3_couple_19 : decode cX3_couple 19 = .ok (.aload_n 0, 1) := by decide +kernel
theorem dX3_couple_20 : decode cX3_couple 20 = .ok (.getfield 10, 3) := by decide +kernel
theorem dX3_couple_23 : decode cX3_couple 23 = .ok (.getfield 128, 3) := by decide +kernel
theorem dX3_couple_26 : decode cX3_couple 26 = .ok (.ifCond .eq 7, 3) := by decide +kernel
theorem dX3_couple_29 : decode cX3_couple 29 = .ok (.iconst 2, 1) := by decide +kernel
theorem dX3_couple_30 : decode cX3_couple 30 = .ok (.goto 4, 3) := by decide +kernel
theorem dX3_couple_33 : decode cX3_couple 33 = .ok (.iconst 0, 1) := by decide +kernel
theorem dX3_couple_34 : decode cX3_couple 34 = .ok (.iadd, 1) := by decide +kernel
theorem dX3_couple_35 : decode cX3_couple 35 = .ok (.istore_n 3, 1) := by decide +kernel
theorem dX3_couple_36 : decode cX3_couple 36 = .ok (.aload_n 0, 1) := by decide +kernel
theorem dX3_couple_37 : decode cX3_couple 37 = .ok (.getfield 10, 3) := by decide +kernel
theorem dX3_couple_40 : decode cX3_couple 40 = .ok (.iload_n 1, 1) := by decide +kernel
theorem dX3_couple_41 : decode cX3_couple 41 = .ok (.putfield 124, 3) := by decide +kernel
theorem dX3_couple_44 : decode cX3_couple 44 = .ok (.aload_n 0, 1) := by decide +kernel
theorem dX3_couple_45 : decode cX3_couple 45 = .ok (.getfield 10, 3) := by decide +kernel
theorem dX3_couple_48 : decode cX3_couple 48 = .ok (.iload_n 2, 1) := by decide +kernel
theorem dX3_couple_49 : decode cX3_couple 49 = .ok (.putfield 128, 3) := by decide +kernel
theorem dX3_couple_52 : decode cX3_couple 52 = .ok (.iload_n 3, 1) := by decide +kernel
theorem dX3_couple_53 : decode cX3_couple 53 = .ok (.ireturn, 1) := by decide +kernel
theorem dX3_tick_0 : decode cX3_tick 0 = .ok (.iload_n 1, 1) := by decide +kernel
theorem dX3_tick_1 : decode cX3_tick 1 = .ok (.iconst 1, 1) := by decide +kernel
theorem dX3_tick_2 : decode cX3_tick 2 = .ok (.sipush 200, 3) := by decide +kernel
theorem dX3_tick_5 : decode cX3_tick 5 = .ok (.invokestatic 55, 3) := by decide +kernel
theorem dX3_tick_8 : decode cX3_tick 8 = .ok (.ifCond .ne 6, 3) := by decide +kernel
theorem dX3_tick_11 : decode cX3_tick 11 = .ok (.ldc 59, 2) := by decide +kernel
theorem dX3_tick_13 : decode cX3_tick 13 = .ok (.ireturn, 1) := by decide +kernel
theorem dX3_tick_14 : decode cX3_tick 14 = .ok (.aload_n 0, 1) := by decide +kernel
theorem dX3_tick_15 : decode cX3_tick 15 = .ok (.invokevirtual 60, 3) := by decide +kernel
theorem dX3_tick_18 : decode cX3_tick 18 = .ok (.aload_n 0, 1) := by decide +kernel
theorem dX3_tick_19 : decode cX3_tick 19 = .ok (.aload_n 0, 1) := by decide +kernel
theorem dX3_tick_20 : decode cX3_tick 20 = .ok (.getfield 10, 3) := by decide +kernel
theorem dX3_tick_23 : decode cX3_tick 23 = .ok (.iload_n 1, 1) := by decide +kernel
theorem dX3_tick_24 : decode cX3_tick 24 = .ok (.invokevirtual 131, 3) := by decide +kernel
theorem dX3_tick_27 : decode cX3_tick 27 = .ok (.pop, 1) := by decide +kernel
theorem dX3_tick_28 : decode cX3_tick 28 = .ok (.aload_n 0, 1) := by decide +kernel
theorem dX3_tick_29 : decode cX3_tick 29 = .ok (.getfield 10, 3) := by decide +kernel
theorem dX3_tick_32 : decode cX3_tick 32 = .ok (.getfield 135, 3) := by decide +kernel
theorem dX3_tick_35 : decode cX3_tick 35 = .ok (.ireturn, 1) := by decide +kernel
theorem dX3_append_0 : decode cX3_append 0 = .ok (.iload_n 1, 1) := by decide +kernel
theorem dX3_append_1 : decode cX3_append 1 = .ok (.iconst 0, 1) := by decide +kernel
theorem dX3_append_2 : decode cX3_append 2 = .ok (.bipush 127, 2) := by decide +kernel
theorem dX3_append_4 : decode cX3_append 4 = .ok (.invokestatic 55, 3) := by decide +kernel
theorem dX3_append_7 : decode cX3_append 7 = .ok (.ifCond .ne 6, 3) := by decide +kernel
theorem dX3_append_10 : decode cX3_append 10 = .ok (.ldc 59, 2) := by decide +kernel
theorem dX3_append_12 : decode cX3_append 12 = .ok (.ireturn, 1) := by decide +kernel
theorem dX3_append_13 : decode cX3_append 13 = .ok (.aload_n 0, 1) := by decide +kernel
theorem dX3_append_14 : decode cX3_append 14 = .ok (.getfield 33, 3) := by decide +kernel
theorem dX3_append_17 : decode cX3_append 17 = .ok (.iload_n 1, 1) := by decide +kernel
theorem dX3_append_18 : decode cX3_append 18 = .ok (.invokevirtual 138, 3) := by decide +kernel
theorem dX3_append_21 : decode cX3_append 21 = .ok (.ifCond .eq 13, 3) := by decide +kernel
theorem dX3_append_24 : decode cX3_append 24 = .ok (.aload_n 0, 1) := by decide +kernel
theorem dX3_append_25 : decode cX3_append 25 = .ok (.getfield 33, 3) := by decide +kernel
theorem dX3_append_28 : decode cX3_append 28 = .ok (.getfield 141, 3) := by decide +kernel
theorem dX3_append_31 : decode cX3_append 31 = .ok (.goto 5, 3) := by decide +kernel
theorem dX3_append_34 : decode cX3_append 34 = .ok (.ldc 110, 2) := by decide +kernel
theorem dX3_append_36 : decode cX3_append 36 = .ok (.ireturn, 1) := by decide +kernel
theorem dX3_clearText_0 : decode cX3_clearText 0 = .ok (.aload_n 0, 1) := by decide +kernel
theorem dX3_clearText_1 : decode cX3_clearText 1 = .ok (.getfield 33, 3) := by decide +kernel
theorem dX3_clearText_4 : decode cX3_clearText 4 = .ok (.getfield 141, 3) := by decide +kernel
theorem dX3_clearText_7 : decode cX3_clearText 7 = .ok (.istore_n 1, 1) := by decide +kernel
theorem dX3_clearText_8 : decode cX3_clearText 8 = .ok (.aload_n 0, 1) := by decide +kernel
theorem dX3_clearText_9 : decode cX3_clearText 9 = .ok (.getfield 33, 3) := by decide +kernel
theorem dX3_clearText_12 : decode cX3_clearText 12 = .ok (.iconst 0, 1) := by decide +kernel
theorem dX3_clearText_13 : decode cX3_clearText 13 = .ok (.putfield 141, 3) := by decide +kernel
theorem dX3_clearText_16 : decode cX3_clearText 16 = .ok (.iload_n 1, 1) := by decide +kernel
theorem dX3_clearText_17 : decode cX3_clearText 17 = .ok (.ireturn, 1) := by decide +kernel
theorem dX3_faultPosition_0 : decode cX3_faultPosition 0 = .ok (.aload_n 0, 1) := by decide +kernel
theorem dX3_faultPosition_1 : decode cX3_faultPosition 1 = .ok (.getfield 33, 3) := by decide +kernel
theorem dX3_faultPosition_4 : decode cX3_faultPosition 4 = .ok (.invokevirtual 144, 3) := by decide +kernel
theorem dX3_faultPosition_7 : decode cX3_faultPosition 7 = .ok (.ireturn, 1) := by decide +kernel
theorem dX3_play_0 : decode cX3_play 0 = .ok (.aload_n 0, 1) := by decide +kernel
theorem dX3_play_1 : decode cX3_play 1 = .ok (.getfield 33, 3) := by decide +kernel
theorem dX3_play_4 : decode cX3_play 4 = .ok (.invokevirtual 144, 3) := by decide +kernel
theorem dX3_play_7 : decode cX3_play 7 = .ok (.ldc 148, 2) := by decide +kernel
theorem dX3_play_9 : decode cX3_play 9 = .ok (.if_icmp .eq 6, 3) := by decide +kernel
theorem dX3_play_12 : decode cX3_play 12 = .ok (.ldc 149, 2) := by decide +kernel
theorem dX3_play_14 : decode cX3_play 14 = .ok (.ireturn, 1) := by decide +kernel
theorem dX3_play_15 : decode cX3_play 15 = .ok (.aload_n 0, 1) := by decide +kernel
theorem dX3_play_16 : decode cX3_play 16 = .ok (.invokevirtual 60, 3) := by decide +kernel
theorem dX3_play_19 : decode cX3_play 19 = .ok (.aload_n 0, 1) := by decide +kernel
theorem dX3_play_20 : decode cX3_play 20 = .ok (.getfield 33, 3) := by decide +kernel
theorem dX3_play_23 : decode cX3_play 23 = .ok (.invokevirtual 150, 3) := by decide +kernel
theorem dX3_play_26 : decode cX3_play 26 = .ok (.iconst 0, 1) := by decide +kernel
theorem dX3_play_27 : decode cX3_play 27 = .ok (.istore_n 1, 1) := by decide +kernel
theorem dX3_play_28 : decode cX3_play 28 = .ok (.aload_n 0, 1) := by decide +kernel
theorem dX3_play_29 : decode cX3_play 29 = .ok (.getfield 33, 3) := by decide +kernel
theorem dX3_play_32 : decode cX3_play 32 = .ok (.invokevirtual 153, 3) := by decide +kernel
theorem dX3_play_35 : decode cX3_play 35 = .ok (.ifCond .eq 26, 3) := by decide +kernel
theorem dX3_play_38 : decode cX3_play 38 = .ok (.iload_n 1, 1) := by decide +kernel
theorem dX3_play_39 : decode cX3_play 39 = .ok (.bipush 80, 2) := by decide +kernel
theorem dX3_play_41 : decode cX3_play 41 = .ok (.if_icmp .ge 20, 3) := by decide +kernel
theorem dX3_play_44 : decode cX3_play 44 = .ok (.aload_n 0, 1) := by decide +kernel
theorem dX3_play_45 : decode cX3_play 45 = .ok (.getfield 33, 3) := by decide +kernel
theorem dX3_play_48 : decode cX3_play 48 = .ok (.invokevirtual 157, 3) := by decide +kernel
theorem dX3_play_51 : decode cX3_play 51 = .ok (.aload_n 0, 1) := by decide +kernel
theorem dX3_play_52 : decode cX3_play 52 = .ok (.invokevirtual 160, 3) := by decide +kernel
theorem dX3_play_55 : decode cX3_play 55 = .ok (.iinc 1 1, 3) := by decide +kernel
theorem dX3_play_58 : decode cX3_play 58 = .ok (.goto (-30), 3) := by decide +kernel
theorem dX3_play_61 : decode cX3_play 61 = .ok (.iload_n 1, 1) := by decide +kernel
theorem dX3_play_62 : decode cX3_play 62 = .ok (.ireturn, 1) := by decide +kernel
theorem dX3_carryOutAct_0 : decode cX3_carryOutAct 0 = .ok (.aload_n 0, 1) := by decide +kernel
theorem dX3_carryOutAct_1 : decode cX3_carryOutAct 1 = .ok (.getfield 33, 3) := by decide +kernel
theorem dX3_carryOutAct_4 : decode cX3_carryOutAct 4 = .ok (.getfield 163, 3) := by decide +kernel
theorem dX3_carryOutAct_7 : decode cX3_carryOutAct 7 = .ok (.lookupswitch 171 #[(100, 41), (108, 98), (112, 98), (114, 41)], 41) := by decide +kernel
theorem dX3_carryOutAct_48 : decode cX3_carryOutAct 48 = .ok (.aload_n 0, 1) := by decide +kernel
theorem dX3_carryOutAct_49 : decode cX3_carryOutAct 49 = .ok (.getfield 33, 3) := by decide +kernel
theorem dX3_carryOutAct_52 : decode cX3_carryOutAct 52 = .ok (.getfield 166, 3) := by decide +kernel
theorem dX3_carryOutAct_55 : decode cX3_carryOutAct 55 = .ok (.invokestatic 47, 3) := by decide +kernel
theorem dX3_carryOutAct_58 : decode cX3_carryOutAct 58 = .ok (.ifCond .eq 136, 3) := by decide +kernel
theorem dX3_carryOutAct_61 : decode cX3_carryOutAct 61 = .ok (.aload_n 0, 1) := by decide +kernel
theorem dX3_carryOutAct_62 : decode cX3_carryOutAct 62 = .ok (.getfield 10, 3) := by decide +kernel
theorem dX3_carryOutAct_65 : decode cX3_carryOutAct 65 = .ok (.aload_n 0, 1) := by decide +kernel
theorem dX3_carryOutAct_66 : decode cX3_carryOutAct 66 = .ok (.getfield 10, 3) := by decide +kernel
theorem dX3_carryOutAct_69 : decode cX3_carryOutAct 69 = .ok (.getfield 80, 3) := by decide +kernel
theorem dX3_carryOutAct_72 : decode cX3_carryOutAct 72 = .ok (.aload_n 0, 1) := by decide +kernel
theorem dX3_carryOutAct_73 : decode cX3_carryOutAct 73 = .ok (.getfield 33, 3) := by decide +kernel
theorem dX3_carryOutAct_76 : decode cX3_carryOutAct 76 = .ok (.getfield 166, 3) := by decide +kernel
theorem dX3_carryOutAct_79 : decode cX3_carryOutAct 79 = .ok (.aload_n 0, 1) := by decide +kernel
theorem dX3_carryOutAct_80 : decode cX3_carryOutAct 80 = .ok (.getfield 33, 3) := by decide +kernel
theorem dX3_carryOutAct_83 : decode cX3_carryOutAct 83 = .ok (.getfield 163, 3) := by decide +kernel
theorem dX3_carryOutAct_86 : decode cX3_carryOutAct 86 = .ok (.bipush 100, 2) := by decide +kernel
theorem dX3_carryOutAct_88 : decode cX3_carryOutAct 88 = .ok (.if_icmp .ne 7, 3) := by decide +kernel
theorem dX3_carryOutAct_91 : decode cX3_carryOutAct 91 = .ok (.iconst 1, 1) := by decide +kernel
theorem dX3_carryOutAct_92 : decode cX3_carryOutAct 92 = .ok (.goto 4, 3) := by decide +kernel
theorem dX3_carryOutAct_95 : decode cX3_carryOutAct 95 = .ok (.iconst 0, 1) := by decide +kernel
theorem dX3_carryOutAct_96 : decode cX3_carryOutAct 96 = .ok (.invokestatic 111, 3) := by decide +kernel
theorem dX3_carryOutAct_99 : decode cX3_carryOutAct 99 = .ok (.putfield 80, 3) := by decide +kernel
theorem dX3_carryOutAct_102 : decode cX3_carryOutAct 102 = .ok (.goto 92, 3) := by decide +kernel
theorem dX3_carryOutAct_105 : decode cX3_carryOutAct 105 = .ok (.aload_n 0, 1) := by decide +kernel
theorem dX3_carryOutAct_106 : decode cX3_carryOutAct 106 = .ok (.getfield 33, 3) := by decide +kernel
theorem dX3_carryOutAct_109 : decode cX3_carryOutAct 109 = .ok (.getfield 166, 3) := by decide +kernel
theorem dX3_carryOutAct_112 : decode cX3_carryOutAct 112 = .ok (.invokestatic 52, 3) := by decide +kernel
theorem dX3_carryOutAct_115 : decode cX3_carryOutAct 115 = .ok (.ifCond .eq 79, 3) := by decide +kernel
theorem dX3_carryOutAct_118 : decode cX3_carryOutAct 118 = .ok (.aload_n 0, 1) := by decide +kernel
theorem dX3_carryOutAct_119 : decode cX3_carryOutAct 119 = .ok (.getfield 10, 3) := by decide +kernel
theorem dX3_carryOutAct_122 : decode cX3_carryOutAct 122 = .ok (.getfield 121, 3) := by decide +kernel
theorem dX3_carryOutAct_125 : decode cX3_carryOutAct 125 = .ok (.aload_n 0, 1) := by decide +kernel
theorem dX3_carryOutAct_126 : decode cX3_carryOutAct 126 = .ok (.getfield 33, 3) := by decide +kernel
theorem dX3_carryOutAct_129 : decode cX3_carryOutAct 129 = .ok (.getfield 166, 3) := by decide +kernel
theorem dX3_carryOutAct_132 : decode cX3_carryOutAct 132 = .ok (.aload_n 0, 1) := by decide +kernel
theorem dX3_carryOutAct_133 : decode cX3_carryOutAct 133 = .ok (.getfield 10, 3) := by decide +kernel
theorem dX3_carryOutAct_136 : decode cX3_carryOutAct 136 = .ok (.getfield 121, 3) := by decide +kernel
theorem dX3_carryOutAct_139 : decode cX3_carryOutAct 139 = .ok (.aload_n 0, 1) := by decide +kernel
theorem dX3_carryOutAct_140 : decode cX3_carryOutAct 140 = .ok (.getfield 33, 3) := by decide +kernel
theorem dX3_carryOutAct_143 : decode cX3_carryOutAct 143 = .ok (.getfield 166, 3) := by decide +kernel
theorem dX3_carryOutAct_146 : decode cX3_carryOutAct 146 = .ok (.iaload, 1) := by decide +kernel
theorem dX3_carryOutAct_147 : decode cX3_carryOutAct 147 = .ok (.aload_n 0, 1) := by decide +kernel
theorem dX3_carryOutAct_148 : decode cX3_carryOutAct 148 = .ok (.getfield 33, 3) := by decide +kernel
theorem dX3_carryOutAct_151 : decode cX3_carryOutAct 151 = .ok (.getfield 169, 3) := by decide +kernel
theorem dX3_carryOutAct_154 : decode cX3_carryOutAct 154 = .ok (.aload_n 0, 1) := by decide +kernel
theorem dX3_carryOutAct_155 : decode cX3_carryOutAct 155 = .ok (.getfield 33, 3) := by decide +kernel
theorem dX3_carryOutAct_158 : decode cX3_carryOutAct 158 = .ok (.getfield 163, 3) := by decide +kernel
theorem dX3_carryOutAct_161 : decode cX3_carryOutAct 161 = .ok (.bipush 112, 2) := by decide +kernel
theorem dX3_carryOutAct_163 : decode cX3_carryOutAct 163 = .ok (.if_icmp .ne 7, 3) := by decide +kernel
theorem dX3_carryOutAct_166 : decode cX3_carryOutAct 166 = .ok (.iconst 1, 1) := by decide +kernel
theorem dX3_carryOutAct_167 : decode cX3_carryOutAct 167 = .ok (.goto 4, 3) := by decide +kernel
theorem dX3_carryOutAct_170 : decode cX3_carryOutAct 170 = .ok (.iconst 0, 1) := by decide +kernel
theorem dX3_carryOutAct_171 : decode cX3_carryOutAct 171 = .ok (.invokestatic 111, 3) := by decide +kernel
theorem dX3_carryOutAct_174 : decode cX3_carryOutAct 174 = .ok (.iastore, 1) := by decide +kernel
theorem dX3_carryOutAct_175 : decode cX3_carryOutAct 175 = .ok (.goto 19, 3) := by decide +kernel
theorem dX3_carryOutAct_178 : decode cX3_carryOutAct 178 = .ok (.aload_n 0, 1) := by decide +kernel
theorem dX3_carryOutAct_179 : decode cX3_carryOutAct 179 = .ok (.aload_n 0, 1) := by decide +kernel
theorem dX3_carryOutAct_180 : decode cX3_carryOutAct 180 = .ok (.getfield 10, 3) := by decide +kernel
theorem dX3_carryOutAct_183 : decode cX3_carryOutAct 183 = .ok (.aload_n 0, 1) := by decide +kernel
theorem dX3_carryOutAct_184 : decode cX3_carryOutAct 184 = .ok (.getfield 33, 3) := by decide +kernel
theorem dX3_carryOutAct_187 : decode cX3_carryOutAct 187 = .ok (.getfield 169, 3) := by decide +kernel
theorem dX3_carryOutAct_190 : decode cX3_carryOutAct 190 = .ok (.invokevirtual 131, 3) := by decide +kernel
theorem dX3_carryOutAct_193 : decode cX3_carryOutAct 193 = .ok (.pop, 1) := by decide +kernel
theorem dX3_carryOutAct_194 : decode cX3_carryOutAct 194 = .ok (.return_, 1) := by decide +kernel
theorem dX3_tell_0 : decode cX3_tell 0 = .ok (.iload_n 1, 1) := by decide +kernel
theorem dX3_tell_1 : decode cX3_tell 1 = .ok (.iconst 0, 1) := by decide +kernel
theorem dX3_tell_2 : decode cX3_tell 2 = .ok (.bipush 9, 2) := by decide +kernel
theorem dX3_tell_4 : decode cX3_tell 4 = .ok (.invokestatic 55, 3) := by decide +kernel
theorem dX3_tell_7 : decode cX3_tell 7 = .ok (.ifCond .ne 6, 3) := by decide +kernel
theorem dX3_tell_10 : decode cX3_tell 10 = .ok (.ldc 51, 2) := by decide +kernel
theorem dX3_tell_12 : decode cX3_tell 12 = .ok (.ireturn, 1) := by decide +kernel
theorem dX3_tell_13 : decode cX3_tell 13 = .ok (.aload_n 0, 1) := by decide +kernel
theorem dX3_tell_14 : decode cX3_tell 14 = .ok (.invokevirtual 172, 3) := by decide +kernel
theorem dX3_tell_17 : decode cX3_tell 17 = .ok (.aload_n 0, 1) := by decide +kernel
theorem dX3_tell_18 : decode cX3_tell 18 = .ok (.iload_n 1, 1) := by decide +kernel
theorem dX3_tell_19 : decode cX3_tell 19 = .ok (.invokevirtual 175, 3) := by decide +kernel
theorem dX3_tell_22 : decode cX3_tell 22 = .ok (.ireturn, 1) := by decide +kernel
theorem dX3_numberTold_0 : decode cX3_numberTold 0 = .ok (.iload_n 1, 1) := by decide +kernel
theorem dX3_numberTold_1 : decode cX3_numberTold 1 = .ok (.tableswitch 135 0 8 #[51, 59, 67, 75, 83, 94, 102, 113, 124], 51) := by decide +kernel
theorem dX3_numberTold_52 : decode cX3_numberTold 52 = .ok (.aload_n 0, 1) := by decide +kernel
theorem dX3_numberTold_53 : decode cX3_numberTold 53 = .ok (.getfield 10, 3) := by decide +kernel
theorem dX3_numberTold_56 : decode cX3_numberTold 56 = .ok (.getfield 135, 3) := by decide +kernel
theorem dX3_numberTold_59 : decode cX3_numberTold 59 = .ok (.ireturn, 1) := by decide +kernel
theorem dX3_numberTold_60 : decode cX3_numberTold 60 = .ok (.aload_n 0, 1) := by decide +kernel
theorem dX3_numberTold_61 : decode cX3_numberTold 61 = .ok (.getfield 10, 3) := by decide +kernel
theorem dX3_numberTold_64 : decode cX3_numberTold 64 = .ok (.invokevirtual 178, 3) := by decide +kernel
theorem dX3_numberTold_67 : decode cX3_numberTold 67 = .ok (.ireturn, 1) := by decide +kernel
theorem dX3_numberTold_68 : decode cX3_numberTold 68 = .ok (.aload_n 0, 1) := by decide +kernel
theorem dX3_numberTold_69 : decode cX3_numberTold 69 = .ok (.getfield 10, 3) := by decide +kernel
theorem dX3_numberTold_72 : decode cX3_numberTold 72 = .ok (.getfield 181, 3) := by decide +kernel
theorem dX3_numberTold_75 : decode cX3_numberTold 75 = .ok (.ireturn, 1) := by decide +kernel
theorem dX3_numberTold_76 : decode cX3_numberTold 76 = .ok (.aload_n 0, 1) := by decide +kernel
theorem dX3_numberTold_77 : decode cX3_numberTold 77 = .ok (.getfield 10, 3) := by decide +kernel
theorem dX3_numberTold_80 : decode cX3_numberTold 80 = .ok (.getfield 184, 3) := by decide +kernel
theorem dX3_numberTold_83 : decode cX3_numberTold 83 = .ok (.ireturn, 1) := by decide +kernel
theorem dX3_numberTold_84 : decode cX3_numberTold 84 = .ok (.aload_n 0, 1) := by decide +kernel
theorem dX3_numberTold_85 : decode cX3_numberTold 85 = .ok (.getfield 10, 3) := by decide +kernel
theorem dX3_numberTold_88 : decode cX3_numberTold 88 = .ok (.getfield 88, 3) := by decide +kernel
theorem dX3_numberTold_91 : decode cX3_numberTold 91 = .ok (.invokestatic 187, 3) := by decide +kernel
theorem dX3_numberTold_94 : decode cX3_numberTold 94 = .ok (.ireturn, 1) := by decide +kernel
theorem dX3_numberTold_95 : decode cX3_numberTold 95 = .ok (.aload_n 0, 1) := by decide +kernel
theorem dX3_numberTold_96 : decode cX3_numberTold 96 = .ok (.getfield 10, 3) := by decide +kernel
theorem dX3_numberTold_99 : decode cX3_numberTold 99 = .ok (.getfield 190, 3) := by decide +kernel
theorem dX3_numberTold_102 : decode cX3_numberTold 102 = .ok (.ireturn, 1) := by decide +kernel
theorem dX3_numberTold_103 : decode cX3_numberTold 103 = .ok (.aload_n 0, 1) := by decide +kernel
theorem dX3_numberTold_104 : decode cX3_numberTold 104 = .ok (.getfield 40, 3) := by decide +kernel
theorem dX3_numberTold_107 : decode cX3_numberTold 107 = .ok (.getfield 193, 3) := by decide +kernel
theorem dX3_numberTold_110 : decode cX3_numberTold 110 = .ok (.invokestatic 106, 3) := by decide +kernel
theorem dX3_numberTold_113 : decode cX3_numberTold 113 = .ok (.ireturn, 1) := by decide +kernel
theorem dX3_numberTold_114 : decode cX3_numberTold 114 = .ok (.aload_n 0, 1) := by decide +kernel
theorem dX3_numberTold_115 : decode cX3_numberTold 115 = .ok (.getfield 40, 3) := by decide +kernel
theorem dX3_numberTold_118 : decode cX3_numberTold 118 = .ok (.getfield 196, 3) := by decide +kernel
theorem dX3_numberTold_121 : decode cX3_numberTold 121 = .ok (.invokestatic 106, 3) := by decide +kernel
theorem dX3_numberTold_124 : decode cX3_numberTold 124 = .ok (.ireturn, 1) := by decide +kernel
theorem dX3_numberTold_125 : decode cX3_numberTold 125 = .ok (.aload_n 0, 1) := by decide +kernel
theorem dX3_numberTold_126 : decode cX3_numberTold 126 = .ok (.getfield 10, 3) := by decide +kernel
theorem dX3_numberTold_129 : decode cX3_numberTold 129 = .ok (.getfield 103, 3) := by decide +kernel
theorem dX3_numberTold_132 : decode cX3_numberTold 132 = .ok (.invokestatic 106, 3) := by decide +kernel
theorem dX3_numberTold_135 : decode cX3_numberTold 135 = .ok (.ireturn, 1) := by decide +kernel
theorem dX3_numberTold_136 : decode cX3_numberTold 136 = .ok (.aload_n 0, 1) := by decide +kernel
theorem dX3_numberTold_137 : decode cX3_numberTold 137 = .ok (.getfield 10, 3) := by decide +kernel
theorem dX3_numberTold_140 : decode cX3_numberTold 140 = .ok (.getfield 199, 3) := by decide +kernel
theorem dX3_numberTold_143 : decode cX3_numberTold 143 = .ok (.ireturn, 1) := by decide +kernel
theorem dX3_chest_0 : decode cX3_chest 0 = .ok (.iload_n 1, 1) := by decide +kernel
theorem dX3_chest_1 : decode cX3_chest 1 = .ok (.invokestatic 52, 3) := by decide +kernel
theorem dX3_chest_4 : decode cX3_chest 4 = .ok (.ifCond .ne 6, 3) := by decide +kernel
theorem dX3_chest_7 : decode cX3_chest 7 = .ok (.ldc 51, 2) := by decide +kernel
theorem dX3_chest_9 : decode cX3_chest 9 = .ok (.ireturn, 1) := by decide +kernel
theorem dX3_chest_10 : decode cX3_chest 10 = .ok (.aload_n 0, 1) := by decide +kernel
theorem dX3_chest_11 : decode cX3_chest 11 = .ok (.invokevirtual 172, 3) := by decide +kernel
theorem dX3_chest_14 : decode cX3_chest 14 = .ok (.aload_n 0, 1) := by decide +kernel
theorem dX3_chest_15 : decode cX3_chest 15 = .ok (.iload_n 1, 1) := by decide +kernel
theorem dX3_chest_16 : decode cX3_chest 16 = .ok (.iload_n 2, 1) := by decide +kernel
theorem dX3_chest_17 : decode cX3_chest 17 = .ok (.invokevirtual 202, 3) := by decide +kernel
theorem dX3_chest_20 : decode cX3_chest 20 = .ok (.ireturn, 1) := by decide +kernel
theorem dX3_chestTold_0 : decode cX3_chestTold 0 = .ok (.iload_n 2, 1) := by decide +kernel
theorem dX3_chestTold_1 : decode cX3_chestTold 1 = .ok (.tableswitch 56 0 2 #[27, 37, 47], 27) := by decide +kernel
theorem dX3_chestTold_28 : decode cX3_chestTold 28 = .ok (.aload_n 0, 1) := by decide +kernel
theorem dX3_chestTold_29 : decode cX3_chestTold 29 = .ok (.getfield 40, 3) := by decide +kernel
theorem dX3_chestTold_32 : decode cX3_chestTold 32 = .ok (.getfield 205, 3) := by decide +kernel
theorem dX3_chestTold_35 : decode cX3_chestTold 35 = .ok (.iload_n 1, 1) := by decide +kernel
theorem dX3_chestTold_36 : decode cX3_chestTold 36 = .ok (.iaload, 1) := by decide +kernel
theorem dX3_chestTold_37 : decode cX3_chestTold 37 = .ok (.ireturn, 1) := by decide +kernel
theorem dX3_chestTold_38 : decode cX3_chestTold 38 = .ok (.aload_n 0, 1) := by decide +kernel
theorem dX3_chestTold_39 : decode cX3_chestTold 39 = .ok (.getfield 40, 3) := by decide +kernel
theorem dX3_chestTold_42 : decode cX3_chestTold 42 = .ok (.getfield 208, 3) := by decide +kernel
theorem dX3_chestTold_45 : decode cX3_chestTold 45 = .ok (.iload_n 1, 1) := by decide +kernel
theorem dX3_chestTold_46 : decode cX3_chestTold 46 = .ok (.iaload, 1) := by decide +kernel
theorem dX3_chestTold_47 : decode cX3_chestTold 47 = .ok (.ireturn, 1) := by decide +kernel
theorem dX3_chestTold_48 : decode cX3_chestTold 48 = .ok (.aload_n 0, 1) := by decide +kernel
theorem dX3_chestTold_49 : decode cX3_chestTold 49 = .ok (.getfield 10, 3) := by decide +kernel
theorem dX3_chestTold_52 : decode cX3_chestTold 52 = .ok (.iload_n 1, 1) := by decide +kernel
theorem dX3_chestTold_53 : decode cX3_chestTold 53 = .ok (.invokevirtual 211, 3) := by decide +kernel
theorem dX3_chestTold_56 : decode cX3_chestTold 56 = .ok (.ireturn, 1) := by decide +kernel
theorem dX3_chestTold_57 : decode cX3_chestTold 57 = .ok (.ldc 59, 2) := by decide +kernel
theorem dX3_chestTold_59 : decode cX3_chestTold 59 = .ok (.ireturn, 1) := by decide +kernel
theorem dX3_strokes_0 : decode cX3_strokes 0 = .ok (.iload_n 1, 1) := by decide +kernel
theorem dX3_strokes_1 : decode cX3_strokes 1 = .ok (.iconst 0, 1) := by decide +kernel
theorem dX3_strokes_2 : decode cX3_strokes 2 = .ok (.iconst 1, 1) := by decide +kernel
theorem dX3_strokes_3 : decode cX3_strokes 3 = .ok (.invokestatic 55, 3) := by decide +kernel
theorem dX3_strokes_6 : decode cX3_strokes 6 = .ok (.ifCond .ne 6, 3) := by decide +kernel
theorem dX3_strokes_9 : decode cX3_strokes 9 = .ok (.ldc 51, 2) := by decide +kernel
theorem dX3_strokes_11 : decode cX3_strokes 11 = .ok (.ireturn, 1) := by decide +kernel
theorem dX3_strokes_12 : decode cX3_strokes 12 = .ok (.aload_n 0, 1) := by decide +kernel
theorem dX3_strokes_13 : decode cX3_strokes 13 = .ok (.getfield 10, 3) := by decide +kernel
theorem dX3_strokes_16 : decode cX3_strokes 16 = .ok (.getfield 214, 3) := by decide +kernel
theorem dX3_strokes_19 : decode cX3_strokes 19 = .ok (.iload_n 1, 1) := by decide +kernel
theorem dX3_strokes_20 : decode cX3_strokes 20 = .ok (.iaload, 1) := by decide +kernel
theorem dX3_strokes_21 : decode cX3_strokes 21 = .ok (.ireturn, 1) := by decide +kernel
theorem dX3_pipe_0 : decode cX3_pipe 0 = .ok (.iload_n 1, 1) := by decide +kernel
theorem dX3_pipe_1 : decode cX3_pipe 1 = .ok (.invokestatic 47, 3) := by decide +kernel
theorem dX3_pipe_4 : decode cX3_pipe 4 = .ok (.ifCond .eq 10, 3) := by decide +kernel
theorem dX3_pipe_7 : decode cX3_pipe 7 = .ok (.iload_n 2, 1) := by decide +kernel
theorem dX3_pipe_8 : decode cX3_pipe 8 = .ok (.invokestatic 100, 3) := by decide +kernel
theorem dX3_pipe_11 : decode cX3_pipe 11 = .ok (.ifCond .ne 6, 3) := by decide +kernel
theorem dX3_pipe_14 : decode cX3_pipe 14 = .ok (.ldc 51, 2) := by decide +kernel
theorem dX3_pipe_16 : decode cX3_pipe 16 = .ok (.ireturn, 1) := by decide +kernel
theorem dX3_pipe_17 : decode cX3_pipe 17 = .ok (.iload_n 3, 1) := by decide +kernel
theorem dX3_pipe_18 : decode cX3_pipe 18 = .ok (.iconst 0, 1) := by decide +kernel
theorem dX3_pipe_19 : decode cX3_pipe 19 = .ok (.iconst 4, 1) := by decide +kernel
theorem dX3_pipe_20 : decode cX3_pipe 20 = .ok (.invokestatic 55, 3) := by decide +kernel
theorem dX3_pipe_23 : decode cX3_pipe 23 = .ok (.ifCond .ne 6, 3) := by decide +kernel
theorem dX3_pipe_26 : decode cX3_pipe 26 = .ok (.ldc 59, 2) := by decide +kernel
theorem dX3_pipe_28 : decode cX3_pipe 28 = .ok (.ireturn, 1) := by decide +kernel
theorem dX3_pipe_29 : decode cX3_pipe 29 = .ok (.aload_n 0, 1) := by decide +kernel
theorem dX3_pipe_30 : decode cX3_pipe 30 = .ok (.invokevirtual 172, 3) := by decide +kernel
theorem dX3_pipe_33 : decode cX3_pipe 33 = .ok (.aload_n 0, 1) := by decide +kernel
theorem dX3_pipe_34 : decode cX3_pipe 34 = .ok (.iload_n 1, 1) := by decide +kernel
theorem dX3_pipe_35 : decode cX3_pipe 35 = .ok (.iload_n 2, 1) := by decide +kernel
theorem dX3_pipe_36 : decode cX3_pipe 36 = .ok (.iload_n 3, 1) := by decide +kernel
theorem dX3_pipe_37 : decode cX3_pipe 37 = .ok (.invokevirtual 217, 3) := by decide +kernel
theorem dX3_pipe_40 : decode cX3_pipe 40 = .ok (.ireturn, 1) := by decide +kernel
theorem dX3_pipeTold_0 : decode cX3_pipeTold 0 = .ok (.iload_n 3, 1) := by decide +kernel
theorem dX3_pipeTold_1 : decode cX3_pipeTold 1 = .ok (.ifCond .ne 13, 3) := by decide +kernel
theorem dX3_pipeTold_4 : decode cX3_pipeTold 4 = .ok (.aload_n 0, 1) := by decide +kernel
theorem dX3_pipeTold_5 : decode cX3_pipeTold 5 = .ok (.getfield 10, 3) := by decide +kernel
theorem dX3_pipeTold_8 : decode cX3_pipeTold 8 = .ok (.iload_n 1, 1) := by decide +kernel
theorem dX3_pipeTold_9 : decode cX3_pipeTold 9 = .ok (.iload_n 2, 1) := by decide +kernel
theorem dX3_pipeTold_10 : decode cX3_pipeTold 10 = .ok (.invokevirtual 221, 3) := by decide +kernel
theorem dX3_pipeTold_13 : decode cX3_pipeTold 13 = .ok (.ireturn, 1) := by decide +kernel
theorem dX3_pipeTold_14 : decode cX3_pipeTold 14 = .ok (.iload_n 3, 1) := by decide +kernel
theorem dX3_pipeTold_15 : decode cX3_pipeTold 15 = .ok (.iconst 1, 1) := by decide +kernel
theorem dX3_pipeTold_16 : decode cX3_pipeTold 16 = .ok (.if_icmp .ne 17, 3) := by decide +kernel
theorem dX3_pipeTold_19 : decode cX3_pipeTold 19 = .ok (.aload_n 0, 1) := by decide +kernel
theorem dX3_pipeTold_20 : decode cX3_pipeTold 20 = .ok (.getfield 10, 3) := by decide +kernel
theorem dX3_pipeTold_23 : decode cX3_pipeTold 23 = .ok (.getfield 73, 3) := by decide +kernel
theorem dX3_pipeTold_26 : decode cX3_pipeTold 26 = .ok (.iload_n 1, 1) := by decide +kernel
theorem dX3_pipeTold_27 : decode cX3_pipeTold 27 = .ok (.iload_n 2, 1) := by decide +kernel
theorem dX3_pipeTold_28 : decode cX3_pipeTold 28 = .ok (.invokestatic 76, 3) := by decide +kernel
theorem dX3_pipeTold_31 : decode cX3_pipeTold 31 = .ok (.iaload, 1) := by decide +kernel
theorem dX3_pipeTold_32 : decode cX3_pipeTold 32 = .ok (.ireturn, 1) := by decide +kernel
theorem dX3_pipeTold_33 : decode cX3_pipeTold 33 = .ok (.aload_n 0, 1) := by decide +kernel
theorem dX3_pipeTold_34 : decode cX3_pipeTold 34 = .ok (.getfield 40, 3) := by decide +kernel
theorem dX3_pipeTold_37 : decode cX3_pipeTold 37 = .ok (.getfield 193, 3) := by decide +kernel
theorem dX3_pipeTold_40 : decode cX3_pipeTold 40 = .ok (.iload_n 1, 1) := by decide +kernel
theorem dX3_pipeTold_41 : decode cX3_pipeTold 41 = .ok (.iaload, 1) := by decide +kernel
theorem dX3_pipeTold_42 : decode cX3_pipeTold 42 = .ok (.iload_n 2, 1) := by decide +kernel
theorem dX3_pipeTold_43 : decode cX3_pipeTold 43 = .ok (.invokestatic 84, 3) := by decide +kernel
theorem dX3_pipeTold_46 : decode cX3_pipeTold 46 = .ok (.ifCond .ne 6, 3) := by decide +kernel
theorem dX3_pipeTold_49 : decode cX3_pipeTold 49 = .ok (.ldc 148, 2) := by decide +kernel
theorem dX3_pipeTold_51 : decode cX3_pipeTold 51 = .ok (.ireturn, 1) := by decide +kernel
theorem dX3_pipeTold_52 : decode cX3_pipeTold 52 = .ok (.iload_n 3, 1) := by decide +kernel
theorem dX3_pipeTold_53 : decode cX3_pipeTold 53 = .ok (.iconst 2, 1) := by decide +kernel
theorem dX3_pipeTold_54 : decode cX3_pipeTold 54 = .ok (.if_icmp .ne 17, 3) := by decide +kernel
theorem dX3_pipeTold_57 : decode cX3_pipeTold 57 = .ok (.aload_n 0, 1) := by decide +kernel
theorem dX3_pipeTold_58 : decode cX3_pipeTold 58 = .ok (.getfield 40, 3) := by decide +kernel
theorem dX3_pipeTold_61 : decode cX3_pipeTold 61 = .ok (.aload_n 0, 1) := by decide +kernel
theorem dX3_pipeTold_62 : decode cX3_pipeTold 62 = .ok (.getfield 10, 3) := by decide +kernel
theorem dX3_pipeTold_65 : decode cX3_pipeTold 65 = .ok (.iload_n 1, 1) := by decide +kernel
theorem dX3_pipeTold_66 : decode cX3_pipeTold 66 = .ok (.iload_n 2, 1) := by decide +kernel
theorem dX3_pipeTold_67 : decode cX3_pipeTold 67 = .ok (.invokevirtual 224, 3) := by decide +kernel
theorem dX3_pipeTold_70 : decode cX3_pipeTold 70 = .ok (.ireturn, 1) := by decide +kernel
theorem dX3_pipeTold_71 : decode cX3_pipeTold 71 = .ok (.iload_n 3, 1) := by decide +kernel
theorem dX3_pipeTold_72 : decode cX3_pipeTold 72 = .ok (.iconst 3, 1) := by decide +kernel
theorem dX3_pipeTold_73 : decode cX3_pipeTold 73 = .ok (.if_icmp .ne 19, 3) := by decide +kernel
theorem dX3_pipeTold_76 : decode cX3_pipeTold 76 = .ok (.aload_n 0, 1) := by decide +kernel
theorem dX3_pipeTold_77 : decode cX3_pipeTold 77 = .ok (.getfield 40, 3) := by decide +kernel
theorem dX3_pipeTold_80 : decode cX3_pipeTold 80 = .ok (.getfield 228, 3) := by decide +kernel
theorem dX3_pipeTold_83 : decode cX3_pipeTold 83 = .ok (.iload_n 1, 1) := by decide +kernel
theorem dX3_pipeTold_84 : decode cX3_pipeTold 84 = .ok (.iload_n 2, 1) := by decide +kernel
theorem dX3_pipeTold_85 : decode cX3_pipeTold 85 = .ok (.invokestatic 76, 3) := by decide +kernel
theorem dX3_pipeTold_88 : decode cX3_pipeTold 88 = .ok (.iaload, 1) := by decide +kernel
theorem dX3_pipeTold_89 : decode cX3_pipeTold 89 = .ok (.goto 9, 3) := by decide +kernel
theorem dX3_pipeTold_92 : decode cX3_pipeTold 92 = .ok (.aload_n 0, 1) := by decide +kernel
theorem dX3_pipeTold_93 : decode cX3_pipeTold 93 = .ok (.iload_n 1, 1) := by decide +kernel
theorem dX3_pipeTold_94 : decode cX3_pipeTold 94 = .ok (.iload_n 2, 1) := by decide +kernel
theorem dX3_pipeTold_95 : decode cX3_pipeTold 95 = .ok (.invokevirtual 231, 3) := by decide +kernel
theorem dX3_pipeTold_98 : decode cX3_pipeTold 98 = .ok (.ireturn, 1) := by decide +kernel
theorem dX3_reason_0 : decode cX3_reason 0 = .ok (.iload_n 1, 1) := by decide +kernel
theorem dX3_reason_1 : decode cX3_reason 1 = .ok (.invokestatic 47, 3) := by decide +kernel
theorem dX3_reason_4 : decode cX3_reason 4 = .ok (.ifCond .eq 10, 3) := by decide +kernel
theorem dX3_reason_7 : decode cX3_reason 7 = .ok (.iload_n 2, 1) := by decide +kernel
theorem dX3_reason_8 : decode cX3_reason 8 = .ok (.invokestatic 100, 3) := by decide +kernel
theorem dX3_reason_11 : decode cX3_reason 11 = .ok (.ifCond .ne 6, 3) := by decide +kernel
theorem dX3_reason_14 : decode cX3_reason 14 = .ok (.ldc 51, 2) := by decide +kernel
theorem dX3_reason_16 : decode cX3_reason 16 = .ok (.ireturn, 1) := by decide +kernel
theorem dX3_reason_17 : decode cX3_reason 17 = .ok (.aload_n 0, 1) := by decide +kernel
theorem dX3_reason_18 : decode cX3_reason 18 = .ok (.invokevirtual 172, 3) := by decide +kernel
theorem dX3_reason_21 : decode cX3_reason 21 = .ok (.aload_n 0, 1) := by decide +kernel
theorem dX3_reason_22 : decode cX3_reason 22 = .ok (.iload_n 1, 1) := by decide +kernel
theorem dX3_reason_23 : decode cX3_reason 23 = .ok (.iload_n 2, 1) := by decide +kernel
theorem dX3_reason_24 : decode cX3_reason 24 = .ok (.invokevirtual 234, 3) := by decide +kernel
theorem dX3_reason_27 : decode cX3_reason 27 = .ok (.ireturn, 1) := by decide +kernel
theorem dX3_reasonTold_0 : decode cX3_reasonTold 0 = .ok (.aload_n 0, 1) := by decide +kernel
theorem dX3_reasonTold_1 : decode cX3_reasonTold 1 = .ok (.getfield 10, 3) := by decide +kernel
theorem dX3_reasonTold_4 : decode cX3_reasonTold 4 = .ok (.getfield 80, 3) := by decide +kernel
theorem dX3_reasonTold_7 : decode cX3_reasonTold 7 = .ok (.iload_n 1, 1) := by decide +kernel
theorem dX3_reasonTold_8 : decode cX3_reasonTold 8 = .ok (.invokestatic 84, 3) := by decide +kernel
theorem dX3_reasonTold_11 : decode cX3_reasonTold 11 = .ok (.ifCond .ne 5, 3) := by decide +kernel
theorem dX3_reasonTold_14 : decode cX3_reasonTold 14 = .ok (.iconst 1, 1) := by decide +kernel
theorem dX3_reasonTold_15 : decode cX3_reasonTold 15 = .ok (.ireturn, 1) := by decide +kernel
theorem dX3_reasonTold_16 : decode cX3_reasonTold 16 = .ok (.aload_n 0, 1) := by decide +kernel
theorem dX3_reasonTold_17 : decode cX3_reasonTold 17 = .ok (.getfield 40, 3) := by decide +kernel
theorem dX3_reasonTold_20 : decode cX3_reasonTold 20 = .ok (.getfield 193, 3) := by decide +kernel
theorem dX3_reasonTold_23 : decode cX3_reasonTold 23 = .ok (.iload_n 1, 1) := by decide +kernel
theorem dX3_reasonTold_24 : decode cX3_reasonTold 24 = .ok (.iaload, 1) := by decide +kernel
theorem dX3_reasonTold_25 : decode cX3_reasonTold 25 = .ok (.iload_n 2, 1) := by decide +kernel
theorem dX3_reasonTold_26 : decode cX3_reasonTold 26 = .ok (.invokestatic 84, 3) := by decide +kernel
theorem dX3_reasonTold_29 : decode cX3_reasonTold 29 = .ok (.ifCond .ne 5, 3) := by decide +kernel
theorem dX3_reasonTold_32 : decode cX3_reasonTold 32 = .ok (.iconst 2, 1) := by decide +kernel
theorem dX3_reasonTold_33 : decode cX3_reasonTold 33 = .ok (.ireturn, 1) := by decide +kernel
theorem dX3_reasonTold_34 : decode cX3_reasonTold 34 = .ok (.aload_n 0, 1) := by decide +kernel
theorem dX3_reasonTold_35 : decode cX3_reasonTold 35 = .ok (.getfield 40, 3) := by decide +kernel
theorem dX3_reasonTold_38 : decode cX3_reasonTold 38 = .ok (.getfield 205, 3) := by decide +kernel
theorem dX3_reasonTold_41 : decode cX3_reasonTold 41 = .ok (.aload_n 0, 1) := by decide +kernel
theorem dX3_reasonTold_42 : decode cX3_reasonTold 42 = .ok (.getfield 10, 3) := by decide +kernel
theorem dX3_reasonTold_45 : decode cX3_reasonTold 45 = .ok (.iload_n 1, 1) := by decide +kernel
theorem dX3_reasonTold_46 : decode cX3_reasonTold 46 = .ok (.invokevirtual 237, 3) := by decide +kernel
theorem dX3_reasonTold_49 : decode cX3_reasonTold 49 = .ok (.iaload, 1) := by decide +kernel
theorem dX3_reasonTold_50 : decode cX3_reasonTold 50 = .ok (.aload_n 0, 1) := by decide +kernel
theorem dX3_reasonTold_51 : decode cX3_reasonTold 51 = .ok (.getfield 10, 3) := by decide +kernel
theorem dX3_reasonTold_54 : decode cX3_reasonTold 54 = .ok (.getfield 70, 3) := by decide +kernel
theorem dX3_reasonTold_57 : decode cX3_reasonTold 57 = .ok (.iload_n 1, 1) := by decide +kernel
theorem dX3_reasonTold_58 : decode cX3_reasonTold 58 = .ok (.iaload, 1) := by decide +kernel
theorem dX3_reasonTold_59 : decode cX3_reasonTold 59 = .ok (.if_icmp .ge 5, 3) := by decide +kernel
theorem dX3_reasonTold_62 : decode cX3_reasonTold 62 = .ok (.iconst 3, 1) := by decide +kernel
theorem dX3_reasonTold_63 : decode cX3_reasonTold 63 = .ok (.ireturn, 1) := by decide +kernel
theorem dX3_reasonTold_64 : decode cX3_reasonTold 64 = .ok (.aload_n 0, 1) := by decide +kernel
theorem dX3_reasonTold_65 : decode cX3_reasonTold 65 = .ok (.getfield 40, 3) := by decide +kernel
theorem dX3_reasonTold_68 : decode cX3_reasonTold 68 = .ok (.aload_n 0, 1) := by decide +kernel
theorem dX3_reasonTold_69 : decode cX3_reasonTold 69 = .ok (.getfield 10, 3) := by decide +kernel
theorem dX3_reasonTold_72 : decode cX3_reasonTold 72 = .ok (.iload_n 1, 1) := by decide +kernel
theorem dX3_reasonTold_73 : decode cX3_reasonTold 73 = .ok (.iload_n 2, 1) := by decide +kernel
theorem dX3_reasonTold_74 : decode cX3_reasonTold 74 = .ok (.invokevirtual 224, 3) := by decide +kernel
theorem dX3_reasonTold_77 : decode cX3_reasonTold 77 = .ok (.istore_n 3, 1) := by decide +kernel
theorem dX3_reasonTold_78 : decode cX3_reasonTold 78 = .ok (.aload_n 0, 1) := by decide +kernel
theorem dX3_reasonTold_79 : decode cX3_reasonTold 79 = .ok (.getfield 40, 3) := by decide +kernel
theorem dX3_reasonTold_82 : decode cX3_reasonTold 82 = .ok (.getfield 228, 3) := by decide +kernel
theorem dX3_reasonTold_85 : decode cX3_reasonTold 85 = .ok (.iload_n 1, 1) := by decide +kernel
theorem dX3_reasonTold_86 : decode cX3_reasonTold 86 = .ok (.iload_n 2, 1) := by decide +kernel
theorem dX3_reasonTold_87 : decode cX3_reasonTold 87 = .ok (.invokestatic 76, 3) := by decide +kernel
theorem dX3_reasonTold_90 : decode cX3_reasonTold 90 = .ok (.iaload, 1) := by decide +kernel
theorem dX3_reasonTold_91 : decode cX3_reasonTold 91 = .ok (.iload_n 3, 1) := by decide +kernel
theorem dX3_reasonTold_92 : decode cX3_reasonTold 92 = .ok (.if_icmp .ge 5, 3) := by decide +kernel
theorem dX3_reasonTold_95 : decode cX3_reasonTold 95 = .ok (.iconst 4, 1) := by decide +kernel
theorem dX3_reasonTold_96 : decode cX3_reasonTold 96 = .ok (.ireturn, 1) := by decide +kernel
theorem dX3_reasonTold_97 : decode cX3_reasonTold 97 = .ok (.iload_n 3, 1) := by decide +kernel
theorem dX3_reasonTold_98 : decode cX3_reasonTold 98 = .ok (.ifCond .ne 7, 3) := by decide +kernel
theorem dX3_reasonTold_101 : decode cX3_reasonTold 101 = .ok (.iconst 5, 1) := by decide +kernel
theorem dX3_reasonTold_102 : decode cX3_reasonTold 102 = .ok (.goto 4, 3) := by decide +kernel
theorem dX3_reasonTold_105 : decode cX3_reasonTold 105 = .ok (.iconst 0, 1) := by decide +kernel
theorem dX3_reasonTold_106 : decode cX3_reasonTold 106 = .ok (.ireturn, 1) := by decide +kernel
theorem dX3_tune_0 : decode cX3_tune 0 = .ok (.iload_n 1, 1) := by decide +kernel
theorem dX3_tune_1 : decode cX3_tune 1 = .ok (.invokestatic 47, 3) := by decide +kernel
theorem dX3_tune_4 : decode cX3_tune 4 = .ok (.ifCond .eq 10, 3) := by decide +kernel
theorem dX3_tune_7 : decode cX3_tune 7 = .ok (.iload_n 2, 1) := by decide +kernel
theorem dX3_tune_8 : decode cX3_tune 8 = .ok (.invokestatic 100, 3) := by decide +kernel
theorem dX3_tune_11 : decode cX3_tune 11 = .ok (.ifCond .ne 6, 3) := by decide +kernel
theorem dX3_tune_14 : decode cX3_tune 14 = .ok (.ldc 51, 2) := by decide +kernel
theorem dX3_tune_16 : decode cX3_tune 16 = .ok (.ireturn, 1) := by decide +kernel
theorem dX3_tune_17 : decode cX3_tune 17 = .ok (.aload_n 0, 1) := by decide +kernel
theorem dX3_tune_18 : decode cX3_tune 18 = .ok (.invokevirtual 172, 3) := by decide +kernel
theorem dX3_tune_21 : decode cX3_tune 21 = .ok (.aload_n 0, 1) := by decide +kernel
theorem dX3_tune_22 : decode cX3_tune 22 = .ok (.iload_n 1, 1) := by decide +kernel
theorem dX3_tune_23 : decode cX3_tune 23 = .ok (.invokevirtual 240, 3) := by decide +kernel
theorem dX3_tune_26 : decode cX3_tune 26 = .ok (.ineg, 1) := by decide +kernel
theorem dX3_tune_27 : decode cX3_tune 27 = .ok (.istore_n 3, 1) := by decide +kernel
theorem dX3_tune_28 : decode cX3_tune 28 = .ok (.aload_n 0, 1) := by decide +kernel
theorem dX3_tune_29 : decode cX3_tune 29 = .ok (.getfield 40, 3) := by decide +kernel
theorem dX3_tune_32 : decode cX3_tune 32 = .ok (.getfield 196, 3) := by decide +kernel
theorem dX3_tune_35 : decode cX3_tune 35 = .ok (.iload_n 1, 1) := by decide +kernel
theorem dX3_tune_36 : decode cX3_tune 36 = .ok (.iaload, 1) := by decide +kernel
theorem dX3_tune_37 : decode cX3_tune 37 = .ok (.iload_n 2, 1) := by decide +kernel
theorem dX3_tune_38 : decode cX3_tune 38 = .ok (.invokestatic 84, 3) := by decide +kernel
theorem dX3_tune_41 : decode cX3_tune 41 = .ok (.ifCond .eq 16, 3) := by decide +kernel
theorem dX3_tune_44 : decode cX3_tune 44 = .ok (.iload_n 3, 1) := by decide +kernel
theorem dX3_tune_45 : decode cX3_tune 45 = .ok (.sipush (-200), 3) := by decide +kernel
theorem dX3_tune_48 : decode cX3_tune 48 = .ok (.sipush 200, 3) := by decide +kernel
theorem dX3_tune_51 : decode cX3_tune 51 = .ok (.invokestatic 55, 3) := by decide +kernel
theorem dX3_tune_54 : decode cX3_tune 54 = .ok (.ifCond .ne 6, 3) := by decide +kernel
theorem dX3_tune_57 : decode cX3_tune 57 = .ok (.ldc 149, 2) := by decide +kernel
theorem dX3_tune_59 : decode cX3_tune 59 = .ok (.ireturn, 1) := by decide +kernel
theorem dX3_tune_60 : decode cX3_tune 60 = .ok (.aload_n 0, 1) := by decide +kernel
theorem dX3_tune_61 : decode cX3_tune 61 = .ok (.invokevirtual 60, 3) := by decide +kernel
theorem dX3_tune_64 : decode cX3_tune 64 = .ok (.aload_n 0, 1) := by decide +kernel
theorem dX3_tune_65 : decode cX3_tune 65 = .ok (.getfield 10, 3) := by decide +kernel
theorem dX3_tune_68 : decode cX3_tune 68 = .ok (.getfield 73, 3) := by decide +kernel
theorem dX3_tune_71 : decode cX3_tune 71 = .ok (.iload_n 1, 1) := by decide +kernel
theorem dX3_tune_72 : decode cX3_tune 72 = .ok (.iload_n 2, 1) := by decide +kernel
theorem dX3_tune_73 : decode cX3_tune 73 = .ok (.invokestatic 76, 3) := by decide +kernel
theorem dX3_tune_76 : decode cX3_tune 76 = .ok (.iaload, 1) := by decide +kernel
theorem dX3_tune_77 : decode cX3_tune 77 = .ok (.istore 4, 2) := by decide +kernel
theorem dX3_tune_79 : decode cX3_tune 79 = .ok (.aload_n 0, 1) := by decide +kernel
theorem dX3_tune_80 : decode cX3_tune 80 = .ok (.getfield 10, 3) := by decide +kernel
theorem dX3_tune_83 : decode cX3_tune 83 = .ok (.getfield 73, 3) := by decide +kernel
theorem dX3_tune_86 : decode cX3_tune 86 = .ok (.iload_n 1, 1) := by decide +kernel
theorem dX3_tune_87 : decode cX3_tune 87 = .ok (.iload_n 2, 1) := by decide +kernel
theorem dX3_tune_88 : decode cX3_tune 88 = .ok (.invokestatic 76, 3) := by decide +kernel
theorem dX3_tune_91 : decode cX3_tune 91 = .ok (.iload_n 3, 1) := by decide +kernel
theorem dX3_tune_92 : decode cX3_tune 92 = .ok (.iastore, 1) := by decide +kernel
theorem dX3_tune_93 : decode cX3_tune 93 = .ok (.iload 4, 2) := by decide +kernel
theorem dX3_tune_95 : decode cX3_tune 95 = .ok (.ireturn, 1) := by decide +kernel
theorem dX3_mistuned_0 : decode cX3_mistuned 0 = .ok (.aload_n 0, 1) := by decide +kernel
theorem dX3_mistuned_1 : decode cX3_mistuned 1 = .ok (.invokevirtual 172, 3) := by decide +kernel
theorem dX3_mistuned_4 : decode cX3_mistuned 4 = .ok (.aload_n 0, 1) := by decide +kernel
theorem dX3_mistuned_5 : decode cX3_mistuned 5 = .ok (.invokevirtual 243, 3) := by decide +kernel
theorem dX3_mistuned_8 : decode cX3_mistuned 8 = .ok (.ireturn, 1) := by decide +kernel
theorem dX3_greatestDifference_0 : decode cX3_greatestDifference 0 = .ok (.ldc 246, 2) := by decide +kernel
theorem dX3_greatestDifference_2 : decode cX3_greatestDifference 2 = .ok (.istore_n 1, 1) := by decide +kernel
theorem dX3_greatestDifference_3 : decode cX3_greatestDifference 3 = .ok (.ldc 247, 2) := by decide +kernel
theorem dX3_greatestDifference_5 : decode cX3_greatestDifference 5 = .ok (.istore_n 2, 1) := by decide +kernel
theorem dX3_greatestDifference_6 : decode cX3_greatestDifference 6 = .ok (.iconst 0, 1) := by decide +kernel
theorem dX3_greatestDifference_7 : decode cX3_greatestDifference 7 = .ok (.istore_n 3, 1) := by decide +kernel
theorem dX3_greatestDifference_8 : decode cX3_greatestDifference 8 = .ok (.iload_n 3, 1) := by decide +kernel
theorem dX3_greatestDifference_9 : decode cX3_greatestDifference 9 = .ok (.bipush 8, 2) := by decide +kernel
theorem dX3_greatestDifference_11 : decode cX3_greatestDifference 11 = .ok (.if_icmp .ge 65, 3) := by decide +kernel
theorem dX3_greatestDifference_14 : decode cX3_greatestDifference 14 = .ok (.iconst 0, 1) := by decide +kernel
theorem dX3_greatestDifference_15 : decode cX3_greatestDifference 15 = .ok (.istore 4, 2) := by decide +kernel
theorem dX3_greatestDifference_17 : decode cX3_greatestDifference 17 = .ok (.iload 4, 2) := by decide +kernel
theorem dX3_greatestDifference_19 : decode cX3_greatestDifference 19 = .ok (.bipush 24, 2) := by decide +kernel
theorem dX3_greatestDifference_21 : decode cX3_greatestDifference 21 = .ok (.if_icmp .ge 49, 3) := by decide +kernel
theorem dX3_greatestDifference_24 : decode cX3_greatestDifference 24 = .ok (.aload_n 0, 1) := by decide +kernel
theorem dX3_greatestDifference_25 : decode cX3_greatestDifference 25 = .ok (.getfield 40, 3) := by decide +kernel
theorem dX3_greatestDifference_28 : decode cX3_greatestDifference 28 = .ok (.getfield 196, 3) := by decide +kernel
theorem dX3_greatestDifference_31 : decode cX3_greatestDifference 31 = .ok (.iload_n 3, 1) := by decide +kernel
theorem dX3_greatestDifference_32 : decode cX3_greatestDifference 32 = .ok (.iaload, 1) := by decide +kernel
theorem dX3_greatestDifference_33 : decode cX3_greatestDifference 33 = .ok (.iload 4, 2) := by decide +kernel
theorem dX3_greatestDifference_35 : decode cX3_greatestDifference 35 = .ok (.invokestatic 84, 3) := by decide +kernel
theorem dX3_greatestDifference_38 : decode cX3_greatestDifference 38 = .ok (.ifCond .eq 26, 3) := by decide +kernel
theorem dX3_greatestDifference_41 : decode cX3_greatestDifference 41 = .ok (.aload_n 0, 1) := by decide +kernel
theorem dX3_greatestDifference_42 : decode cX3_greatestDifference 42 = .ok (.iload_n 3, 1) := by decide +kernel
theorem dX3_greatestDifference_43 : decode cX3_greatestDifference 43 = .ok (.iload 4, 2) := by decide +kernel
theorem dX3_greatestDifference_45 : decode cX3_greatestDifference 45 = .ok (.invokevirtual 231, 3) := by decide +kernel
theorem dX3_greatestDifference_48 : decode cX3_greatestDifference 48 = .ok (.istore 5, 2) := by decide +kernel
theorem dX3_greatestDifference_50 : decode cX3_greatestDifference 50 = .ok (.iload_n 1, 1) := by decide +kernel
theorem dX3_greatestDifference_51 : decode cX3_greatestDifference 51 = .ok (.iload 5, 2) := by decide +kernel
theorem dX3_greatestDifference_53 : decode cX3_greatestDifference 53 = .ok (.invokestatic 248, 3) := by decide +kernel
theorem dX3_greatestDifference_56 : decode cX3_greatestDifference 56 = .ok (.istore_n 1, 1) := by decide +kernel
theorem dX3_greatestDifference_57 : decode cX3_greatestDifference 57 = .ok (.iload_n 2, 1) := by decide +kernel
theorem dX3_greatestDifference_58 : decode cX3_greatestDifference 58 = .ok (.iload 5, 2) := by decide +kernel
theorem dX3_greatestDifference_60 : decode cX3_greatestDifference 60 = .ok (.invokestatic 253, 3) := by decide +kernel
theorem dX3_greatestDifference_63 : decode cX3_greatestDifference 63 = .ok (.istore_n 2, 1) := by decide +kernel
theorem dX3_greatestDifference_64 : decode cX3_greatestDifference 64 = .ok (.iinc 4 1, 3) := by decide +kernel
theorem dX3_greatestDifference_67 : decode cX3_greatestDifference 67 = .ok (.goto (-50), 3) := by decide +kernel
theorem dX3_greatestDifference_70 : decode cX3_greatestDifference 70 = .ok (.iinc 3 1, 3) := by decide +kernel
theorem dX3_greatestDifference_73 : decode cX3_greatestDifference 73 = .ok (.goto (-65), 3) := by decide +kernel
theorem dX3_greatestDifference_76 : decode cX3_greatestDifference 76 = .ok (.iload_n 1, 1) := by decide +kernel
theorem dX3_greatestDifference_77 : decode cX3_greatestDifference 77 = .ok (.iload_n 2, 1) := by decide +kernel
theorem dX3_greatestDifference_78 : decode cX3_greatestDifference 78 = .ok (.if_icmp .le 8, 3) := by decide +kernel
theorem dX3_greatestDifference_81 : decode cX3_greatestDifference 81 = .ok (.ldc 148, 2) := by decide +kernel
theorem dX3_greatestDifference_83 : decode cX3_greatestDifference 83 = .ok (.goto 6, 3) := by decide +kernel
theorem dX3_greatestDifference_86 : decode cX3_greatestDifference 86 = .ok (.iload_n 2, 1) := by decide +kernel
theorem dX3_greatestDifference_87 : decode cX3_greatestDifference 87 = .ok (.iload_n 1, 1) := by decide +kernel
theorem dX3_greatestDifference_88 : decode cX3_greatestDifference 88 = .ok (.isub, 1) := by decide +kernel
theorem dX3_greatestDifference_89 : decode cX3_greatestDifference 89 = .ok (.ireturn, 1) := by decide +kernel
theorem dX3_search_0 : decode cX3_search 0 = .ok (.iload_n 1, 1) := by decide +kernel
theorem dX3_search_1 : decode cX3_search 1 = .ok (.tableswitch 46 0 2 #[27, 32, 37], 27) := by decide +kernel
theorem dX3_search_28 : decode cX3_search 28 = .ok (.aload_n 0, 1) := by decide +kernel
theorem dX3_search_29 : decode cX3_search 29 = .ok (.invokevirtual 256, 3) := by decide +kernel
theorem dX3_search_32 : decode cX3_search 32 = .ok (.ireturn, 1) := by decide +kernel
theorem dX3_search_33 : decode cX3_search 33 = .ok (.aload_n 0, 1) := by decide +kernel
theorem dX3_search_34 : decode cX3_search 34 = .ok (.invokevirtual 259, 3) := by decide +kernel
theorem dX3_search_37 : decode cX3_search 37 = .ok (.ireturn, 1) := by decide +kernel
theorem dX3_search_38 : decode cX3_search 38 = .ok (.aload_n 0, 1) := by decide +kernel
theorem dX3_search_39 : decode cX3_search 39 = .ok (.aload_n 0, 1) := by decide +kernel
theorem dX3_search_40 : decode cX3_search 40 = .ok (.invokevirtual 256, 3) := by decide +kernel
theorem dX3_search_43 : decode cX3_search 43 = .ok (.invokevirtual 262, 3) := by decide +kernel
theorem dX3_search_46 : decode cX3_search 46 = .ok (.ireturn, 1) := by decide +kernel
theorem dX3_search_47 : decode cX3_search 47 = .ok (.ldc 51, 2) := by decide +kernel
theorem dX3_search_49 : decode cX3_search 49 = .ok (.ireturn, 1) := by decide +kernel
theorem dX3_cipheringStop_0 : decode cX3_cipheringStop 0 = .ok (.aload_n 0, 1) := by decide +kernel
theorem dX3_cipheringStop_1 : decode cX3_cipheringStop 1 = .ok (.sipush 255, 3) := by decide +kernel
theorem dX3_cipheringStop_4 : decode cX3_cipheringStop 4 = .ok (.invokevirtual 265, 3) := by decide +kernel
theorem dX3_cipheringStop_7 : decode cX3_cipheringStop 7 = .ok (.ifCond .ne 6, 3) := by decide +kernel
theorem dX3_cipheringStop_10 : decode cX3_cipheringStop 10 = .ok (.ldc 148, 2) := by decide +kernel
theorem dX3_cipheringStop_12 : decode cX3_cipheringStop 12 = .ok (.ireturn, 1) := by decide +kernel
theorem dX3_cipheringStop_13 : decode cX3_cipheringStop 13 = .ok (.iconst 0, 1) := by decide +kernel
theorem dX3_cipheringStop_14 : decode cX3_cipheringStop 14 = .ok (.istore_n 1, 1) := by decide +kernel
theorem dX3_cipheringStop_15 : decode cX3_cipheringStop 15 = .ok (.iconst 4, 1) := by decide +kernel
theorem dX3_cipheringStop_16 : decode cX3_cipheringStop 16 = .ok (.istore_n 2, 1) := by decide +kernel
theorem dX3_cipheringStop_17 : decode cX3_cipheringStop 17 = .ok (.iload_n 2, 1) := by decide +kernel
theorem dX3_cipheringStop_18 : decode cX3_cipheringStop 18 = .ok (.ifCond .le 26, 3) := by decide +kernel
theorem dX3_cipheringStop_21 : decode cX3_cipheringStop 21 = .ok (.aload_n 0, 1) := by decide +kernel
theorem dX3_cipheringStop_22 : decode cX3_cipheringStop 22 = .ok (.iload_n 1, 1) := by decide +kernel
theorem dX3_cipheringStop_23 : decode cX3_cipheringStop 23 = .ok (.iload_n 2, 1) := by decide +kernel
theorem dX3_cipheringStop_24 : decode cX3_cipheringStop 24 = .ok (.invokestatic 268, 3) := by decide +kernel
theorem dX3_cipheringStop_27 : decode cX3_cipheringStop 27 = .ok (.invokevirtual 265, 3) := by decide +kernel
theorem dX3_cipheringStop_30 : decode cX3_cipheringStop 30 = .ok (.ifCond .ne 7, 3) := by decide +kernel
theorem dX3_cipheringStop_33 : decode cX3_cipheringStop 33 = .ok (.iload_n 1, 1) := by decide +kernel
theorem dX3_cipheringStop_34 : decode cX3_cipheringStop 34 = .ok (.iload_n 2, 1) := by decide +kernel
theorem dX3_cipheringStop_35 : decode cX3_cipheringStop 35 = .ok (.iadd, 1) := by decide +kernel
theorem dX3_cipheringStop_36 : decode cX3_cipheringStop 36 = .ok (.istore_n 1, 1) := by decide +kernel
theorem dX3_cipheringStop_37 : decode cX3_cipheringStop 37 = .ok (.iload_n 2, 1) := by decide +kernel
theorem dX3_cipheringStop_38 : decode cX3_cipheringStop 38 = .ok (.iconst 2, 1) := by decide +kernel
theorem dX3_cipheringStop_39 : decode cX3_cipheringStop 39 = .ok (.idiv, 1) := by decide +kernel
theorem dX3_cipheringStop_40 : decode cX3_cipheringStop 40 = .ok (.istore_n 2, 1) := by decide +kernel
theorem dX3_cipheringStop_41 : decode cX3_cipheringStop 41 = .ok (.goto (-24), 3) := by decide +kernel
theorem dX3_cipheringStop_44 : decode cX3_cipheringStop 44 = .ok (.iload_n 1, 1) := by decide +kernel
theorem dX3_cipheringStop_45 : decode cX3_cipheringStop 45 = .ok (.ireturn, 1) := by decide +kernel
theorem dX3_testsOfSearch_0 : decode cX3_testsOfSearch 0 = .ok (.iconst 1, 1) := by decide +kernel
theorem dX3_testsOfSearch_1 : decode cX3_testsOfSearch 1 = .ok (.istore_n 1, 1) := by decide +kernel
theorem dX3_testsOfSearch_2 : decode cX3_testsOfSearch 2 = .ok (.aload_n 0, 1) := by decide +kernel
theorem dX3_testsOfSearch_3 : decode cX3_testsOfSearch 3 = .ok (.sipush 255, 3) := by decide +kernel
theorem dX3_testsOfSearch_6 : decode cX3_testsOfSearch 6 = .ok (.invokevirtual 265, 3) := by decide +kernel
theorem dX3_testsOfSearch_9 : decode cX3_testsOfSearch 9 = .ok (.ifCond .eq 19, 3) := by decide +kernel
theorem dX3_testsOfSearch_12 : decode cX3_testsOfSearch 12 = .ok (.iconst 4, 1) := by decide +kernel
theorem dX3_testsOfSearch_13 : decode cX3_testsOfSearch 13 = .ok (.istore_n 2, 1) := by decide +kernel
theorem dX3_testsOfSearch_14 : decode cX3_testsOfSearch 14 = .ok (.iload_n 2, 1) := by decide +kernel
theorem dX3_testsOfSearch_15 : decode cX3_testsOfSearch 15 = .ok (.ifCond .le 13, 3) := by decide +kernel
theorem dX3_testsOfSearch_18 : decode cX3_testsOfSearch 18 = .ok (.iinc 1 1, 3) := by decide +kernel
theorem dX3_testsOfSearch_21 : decode cX3_testsOfSearch 21 = .ok (.iload_n 2, 1) := by decide +kernel
theorem dX3_testsOfSearch_22 : decode cX3_testsOfSearch 22 = .ok (.iconst 2, 1) := by decide +kernel
theorem dX3_testsOfSearch_23 : decode cX3_testsOfSearch 23 = .ok (.idiv, 1) := by decide +kernel
theorem dX3_testsOfSearch_24 : decode cX3_testsOfSearch 24 = .ok (.istore_n 2, 1) := by decide +kernel
theorem dX3_testsOfSearch_25 : decode cX3_testsOfSearch 25 = .ok (.goto (-11), 3) := by decide +kernel
theorem dX3_testsOfSearch_28 : decode cX3_testsOfSearch 28 = .ok (.iload_n 1, 1) := by decide +kernel
theorem dX3_testsOfSearch_29 : decode cX3_testsOfSearch 29 = .ok (.ireturn, 1) := by decide +kernel
theorem dX3_lowestCipher_0 : decode cX3_lowestCipher 0 = .ok (.iconst 0, 1) := by decide +kernel
theorem dX3_lowestCipher_1 : decode cX3_lowestCipher 1 = .ok (.istore_n 2, 1) := by decide +kernel
theorem dX3_lowestCipher_2 : decode cX3_lowestCipher 2 = .ok (.iload_n 2, 1) := by decide +kernel
theorem dX3_lowestCipher_3 : decode cX3_lowestCipher 3 = .ok (.bipush 24, 2) := by decide +kernel
theorem dX3_lowestCipher_5 : decode cX3_lowestCipher 5 = .ok (.if_icmp .ge 34, 3) := by decide +kernel
theorem dX3_lowestCipher_8 : decode cX3_lowestCipher 8 = .ok (.iload_n 1, 1) := by decide +kernel
theorem dX3_lowestCipher_9 : decode cX3_lowestCipher 9 = .ok (.invokestatic 47, 3) := by decide +kernel
theorem dX3_lowestCipher_12 : decode cX3_lowestCipher 12 = .ok (.ifCond .eq 27, 3) := by decide +kernel
theorem dX3_lowestCipher_15 : decode cX3_lowestCipher 15 = .ok (.aload_n 0, 1) := by decide +kernel
theorem dX3_lowestCipher_16 : decode cX3_lowestCipher 16 = .ok (.getfield 10, 3) := by decide +kernel
theorem dX3_lowestCipher_19 : decode cX3_lowestCipher 19 = .ok (.getfield 103, 3) := by decide +kernel
theorem dX3_lowestCipher_22 : decode cX3_lowestCipher 22 = .ok (.iload_n 1, 1) := by decide +kernel
theorem dX3_lowestCipher_23 : decode cX3_lowestCipher 23 = .ok (.iaload, 1) := by decide +kernel
theorem dX3_lowestCipher_24 : decode cX3_lowestCipher 24 = .ok (.iload_n 2, 1) := by decide +kernel
theorem dX3_lowestCipher_25 : decode cX3_lowestCipher 25 = .ok (.invokestatic 84, 3) := by decide +kernel
theorem dX3_lowestCipher_28 : decode cX3_lowestCipher 28 = .ok (.ifCond .eq 5, 3) := by decide +kernel
theorem dX3_lowestCipher_31 : decode cX3_lowestCipher 31 = .ok (.iload_n 2, 1) := by decide +kernel
theorem dX3_lowestCipher_32 : decode cX3_lowestCipher 32 = .ok (.ireturn, 1) := by decide +kernel
theorem dX3_lowestCipher_33 : decode cX3_lowestCipher 33 = .ok (.iinc 2 1, 3) := by decide +kernel
theorem dX3_lowestCipher_36 : decode cX3_lowestCipher 36 = .ok (.goto (-34), 3) := by decide +kernel
theorem dX3_lowestCipher_39 : decode cX3_lowestCipher 39 = .ok (.ldc 148, 2) := by decide +kernel
theorem dX3_lowestCipher_41 : decode cX3_lowestCipher 41 = .ok (.ireturn, 1) := by decide +kernel
theorem dX3_isHeard_0 : decode cX3_isHeard 0 = .ok (.aload_n 0, 1) := by decide +kernel
theorem dX3_isHeard_1 : decode cX3_isHeard 1 = .ok (.getfield 44, 3) := by decide +kernel
theorem dX3_isHeard_4 : decode cX3_isHeard 4 = .ok (.aload_n 0, 1) := by decide +kernel
theorem dX3_isHeard_5 : decode cX3_isHeard 5 = .ok (.getfield 10, 3) := by decide +kernel
theorem dX3_isHeard_8 : decode cX3_isHeard 8 = .ok (.iload_n 1, 1) := by decide +kernel
theorem dX3_isHeard_9 : decode cX3_isHeard 9 = .ok (.iconst 0, 1) := by decide +kernel
theorem dX3_isHeard_10 : decode cX3_isHeard 10 = .ok (.invokevirtual 271, 3) := by decide +kernel
theorem dX3_isHeard_13 : decode cX3_isHeard 13 = .ok (.aload_n 0, 1) := by decide +kernel
theorem dX3_isHeard_14 : decode cX3_isHeard 14 = .ok (.getfield 44, 3) := by decide +kernel
theorem dX3_isHeard_17 : decode cX3_isHeard 17 = .ok (.getfield 196, 3) := by decide +kernel
theorem dX3_isHeard_20 : decode cX3_isHeard 20 = .ok (.invokestatic 106, 3) := by decide +kernel
theorem dX3_isHeard_23 : decode cX3_isHeard 23 = .ok (.ifCond .le 7, 3) := by decide +kernel
theorem dX3_isHeard_26 : decode cX3_isHeard 26 = .ok (.iconst 1, 1) := by decide +kernel
theorem dX3_isHeard_27 : decode cX3_isHeard 27 = .ok (.goto 4, 3) := by decide +kernel
theorem dX3_isHeard_30 : decode cX3_isHeard 30 = .ok (.iconst 0, 1) := by decide +kernel
theorem dX3_isHeard_31 : decode cX3_isHeard 31 = .ok (.ireturn, 1) := by decide +kernel
theorem dX3_robbed_0 : decode cX3_robbed 0 = .ok (.iload_n 1, 1) := by decide +kernel
theorem dX3_robbed_1 : decode cX3_robbed 1 = .ok (.invokestatic 47, 3) := by decide +kernel
theorem dX3_robbed_4 : decode cX3_robbed 4 = .ok (.ifCond .ne 6, 3) := by decide +kernel
theorem dX3_robbed_7 : decode cX3_robbed 7 = .ok (.ldc 51, 2) := by decide +kernel
theorem dX3_robbed_9 : decode cX3_robbed 9 = .ok (.ireturn, 1) := by decide +kernel
theorem dX3_robbed_10 : decode cX3_robbed 10 = .ok (.aload_n 0, 1) := by decide +kernel
theorem dX3_robbed_11 : decode cX3_robbed 11 = .ok (.getfield 10, 3) := by decide +kernel
theorem dX3_robbed_14 : decode cX3_robbed 14 = .ok (.getfield 80, 3) := by decide +kernel
theorem dX3_robbed_17 : decode cX3_robbed 17 = .ok (.iload_n 1, 1) := by decide +kernel
theorem dX3_robbed_18 : decode cX3_robbed 18 = .ok (.invokestatic 84, 3) := by decide +kernel
theorem dX3_robbed_21 : decode cX3_robbed 21 = .ok (.ifCond .eq 6, 3) := by decide +kernel
theorem dX3_robbed_24 : decode cX3_robbed 24 = .ok (.ldc 149, 2) := by decide +kernel
theorem dX3_robbed_26 : decode cX3_robbed 26 = .ok (.ireturn, 1) := by decide +kernel
theorem dX3_robbed_27 : decode cX3_robbed 27 = .ok (.aload_n 0, 1) := by decide +kernel
theorem dX3_robbed_28 : decode cX3_robbed 28 = .ok (.invokevirtual 172, 3) := by decide +kernel
theorem dX3_robbed_31 : decode cX3_robbed 31 = .ok (.aload_n 0, 1) := by decide +kernel
theorem dX3_robbed_32 : decode cX3_robbed 32 = .ok (.getfield 44, 3) := by decide +kernel
theorem dX3_robbed_35 : decode cX3_robbed 35 = .ok (.aload_n 0, 1) := by decide +kernel
theorem dX3_robbed_36 : decode cX3_robbed 36 = .ok (.getfield 10, 3) := by decide +kernel
theorem dX3_robbed_39 : decode cX3_robbed 39 = .ok (.aload_n 0, 1) := by decide +kernel
theorem dX3_robbed_40 : decode cX3_robbed 40 = .ok (.getfield 10, 3) := by decide +kernel
theorem dX3_robbed_43 : decode cX3_robbed 43 = .ok (.getfield 80, 3) := by decide +kernel
theorem dX3_robbed_46 : decode cX3_robbed 46 = .ok (.iload_n 1, 1) := by decide +kernel
theorem dX3_robbed_47 : decode cX3_robbed 47 = .ok (.iconst 1, 1) := by decide +kernel
theorem dX3_robbed_48 : decode cX3_robbed 48 = .ok (.invokestatic 111, 3) := by decide +kernel
theorem dX3_robbed_51 : decode cX3_robbed 51 = .ok (.iconst 1, 1) := by decide +kernel
theorem dX3_robbed_52 : decode cX3_robbed 52 = .ok (.invokevirtual 271, 3) := by decide +kernel
theorem dX3_robbed_55 : decode cX3_robbed 55 = .ok (.iconst 0, 1) := by decide +kernel
theorem dX3_robbed_56 : decode cX3_robbed 56 = .ok (.istore_n 2, 1) := by decide +kernel
theorem dX3_robbed_57 : decode cX3_robbed 57 = .ok (.iconst 0, 1) := by decide +kernel
theorem dX3_robbed_58 : decode cX3_robbed 58 = .ok (.istore_n 3, 1) := by decide +kernel
theorem dX3_robbed_59 : decode cX3_robbed 59 = .ok (.iload_n 3, 1) := by decide +kernel
theorem dX3_robbed_60 : decode cX3_robbed 60 = .ok (.bipush 8, 2) := by decide +kernel
theorem dX3_robbed_62 : decode cX3_robbed 62 = .ok (.if_icmp .ge 36, 3) := by decide +kernel
theorem dX3_robbed_65 : decode cX3_robbed 65 = .ok (.iload_n 2, 1) := by decide +kernel
theorem dX3_robbed_66 : decode cX3_robbed 66 = .ok (.aload_n 0, 1) := by decide +kernel
theorem dX3_robbed_67 : decode cX3_robbed 67 = .ok (.getfield 40, 3) := by decide +kernel
theorem dX3_robbed_70 : decode cX3_robbed 70 = .ok (.getfield 196, 3) := by decide +kernel
theorem dX3_robbed_73 : decode cX3_robbed 73 = .ok (.iload_n 3, 1) := by decide +kernel
theorem dX3_robbed_74 : decode cX3_robbed 74 = .ok (.iaload, 1) := by decide +kernel
theorem dX3_robbed_75 : decode cX3_robbed 75 = .ok (.aload_n 0, 1) := by decide +kernel
theorem dX3_robbed_76 : decode cX3_robbed 76 = .ok (.getfield 44, 3) := by decide +kernel
theorem dX3_robbed_79 : decode cX3_robbed 79 = .ok (.getfield 196, 3) := by decide +kernel
theorem dX3_robbed_82 : decode cX3_robbed 82 = .ok (.iload_n 3, 1) := by decide +kernel
theorem dX3_robbed_83 : decode cX3_robbed 83 = .ok (.iaload, 1) := by decide +kernel
theorem dX3_robbed_84 : decode cX3_robbed 84 = .ok (.iconst (-1), 1) := by decide +kernel
theorem dX3_robbed_85 : decode cX3_robbed 85 = .ok (.ixor, 1) := by decide +kernel
theorem dX3_robbed_86 : decode cX3_robbed 86 = .ok (.iand, 1) := by decide +kernel
theorem dX3_robbed_87 : decode cX3_robbed 87 = .ok (.invokestatic 115, 3) := by decide +kernel
theorem dX3_robbed_90 : decode cX3_robbed 90 = .ok (.iadd, 1) := by decide +kernel
theorem dX3_robbed_91 : decode cX3_robbed 91 = .ok (.istore_n 2, 1) := by decide +kernel
theorem dX3_robbed_92 : decode cX3_robbed 92 = .ok (.iinc 3 1, 3) := by decide +kernel
theorem dX3_robbed_95 : decode cX3_robbed 95 = .ok (.goto (-36), 3) := by decide +kernel
theorem dX3_robbed_98 : decode cX3_robbed 98 = .ok (.iload_n 2, 1) := by decide +kernel
theorem dX3_robbed_99 : decode cX3_robbed 99 = .ok (.ireturn, 1) := by decide +kernel
theorem dX3_lowest_0 : decode cX3_lowest 0 = .ok (.iload_n 1, 1) := by decide +kernel
theorem dX3_lowest_1 : decode cX3_lowest 1 = .ok (.iconst 1, 1) := by decide +kernel
theorem dX3_lowest_2 : decode cX3_lowest 2 = .ok (.sipush 1000, 3) := by decide +kernel
theorem dX3_lowest_5 : decode cX3_lowest 5 = .ok (.invokestatic 55, 3) := by decide +kernel
theorem dX3_lowest_8 : decode cX3_lowest 8 = .ok (.ifCond .ne 6, 3) := by decide +kernel
theorem dX3_lowest_11 : decode cX3_lowest 11 = .ok (.ldc 59, 2) := by decide +kernel
theorem dX3_lowest_13 : decode cX3_lowest 13 = .ok (.ireturn, 1) := by decide +kernel
theorem dX3_lowest_14 : decode cX3_lowest 14 = .ok (.aload_n 0, 1) := by decide +kernel
theorem dX3_lowest_15 : decode cX3_lowest 15 = .ok (.getfield 10, 3) := by decide +kernel
theorem dX3_lowest_18 : decode cX3_lowest 18 = .ok (.aload_n 0, 1) := by decide +kernel
theorem dX3_lowest_19 : decode cX3_lowest 19 = .ok (.getfield 16, 3) := by decide +kernel
theorem dX3_lowest_22 : decode cX3_lowest 22 = .ok (.invokestatic 275, 3) := by decide +kernel
theorem dX3_lowest_25 : decode cX3_lowest 25 = .ok (.aload_n 0, 1) := by decide +kernel
theorem dX3_lowest_26 : decode cX3_lowest 26 = .ok (.aload_n 0, 1) := by decide +kernel
theorem dX3_lowest_27 : decode cX3_lowest 27 = .ok (.getfield 16, 3) := by decide +kernel
theorem dX3_lowest_30 : decode cX3_lowest 30 = .ok (.iload_n 1, 1) := by decide +kernel
theorem dX3_lowest_31 : decode cX3_lowest 31 = .ok (.invokevirtual 131, 3) := by decide +kernel
theorem dX3_lowest_34 : decode cX3_lowest 34 = .ok (.ireturn, 1) := by decide +kernel
theorem dX3_undo_0 : decode cX3_undo 0 = .ok (.aload_n 0, 1) := by decide +kernel
theorem dX3_undo_1 : decode cX3_undo 1 = .ok (.getfield 279, 3) := by decide +kernel
theorem dX3_undo_4 : decode cX3_undo 4 = .ok (.iconst 1, 1) := by decide +kernel
theorem dX3_undo_5 : decode cX3_undo 5 = .ok (.iconst 5, 1) := by decide +kernel
theorem dX3_undo_6 : decode cX3_undo 6 = .ok (.invokestatic 55, 3) := by decide +kernel
theorem dX3_undo_9 : decode cX3_undo 9 = .ok (.ifCond .ne 6, 3) := by decide +kernel
theorem dX3_undo_12 : decode cX3_undo 12 = .ok (.ldc 149, 2) := by decide +kernel
theorem dX3_undo_14 : decode cX3_undo 14 = .ok (.ireturn, 1) := by decide +kernel
theorem dX3_undo_15 : decode cX3_undo 15 = .ok (.aload_n 0, 1) := by decide +kernel
theorem dX3_undo_16 : decode cX3_undo 16 = .ok (.dup, 1) := by decide +kernel
theorem dX3_undo_17 : decode cX3_undo 17 = .ok (.getfield 279, 3) := by decide +kernel
theorem dX3_undo_20 : decode cX3_undo 20 = .ok (.iconst 1, 1) := by decide +kernel
theorem dX3_undo_21 : decode cX3_undo 21 = .ok (.isub, 1) := by decide +kernel
theorem dX3_undo_22 : decode cX3_undo 22 = .ok (.putfield 279, 3) := by decide +kernel
theorem dX3_undo_25 : decode cX3_undo 25 = .ok (.aload_n 0, 1) := by decide +kernel
theorem dX3_undo_26 : decode cX3_undo 26 = .ok (.getfield 19, 3) := by decide +kernel
theorem dX3_undo_29 : decode cX3_undo 29 = .ok (.aload_n 0, 1) := by decide +kernel
theorem dX3_undo_30 : decode cX3_undo 30 = .ok (.getfield 279, 3) := by decide +kernel
theorem dX3_undo_33 : decode cX3_undo 33 = .ok (.aaload, 1) := by decide +kernel
theorem dX3_undo_34 : decode cX3_undo 34 = .ok (.aload_n 0, 1) := by decide +kernel
theorem dX3_undo_35 : decode cX3_undo 35 = .ok (.getfield 10, 3) := by decide +kernel
theorem dX3_undo_38 : decode cX3_undo 38 = .ok (.invokestatic 275, 3) := by decide +kernel
theorem dX3_undo_41 : decode cX3_undo 41 = .ok (.aload_n 0, 1) := by decide +kernel
theorem dX3_undo_42 : decode cX3_undo 42 = .ok (.getfield 279, 3) := by decide +kernel
theorem dX3_undo_45 : decode cX3_undo 45 = .ok (.ireturn, 1) := by decide +kernel
theorem dX3_save_0 : decode cX3_save 0 = .ok (.iload_n 1, 1) := by decide +kernel
theorem dX3_save_1 : decode cX3_save 1 = .ok (.invokestatic 282, 3) := by decide +kernel
theorem dX3_save_4 : decode cX3_save 4 = .ok (.ifCond .ne 6, 3) := by decide +kernel
theorem dX3_save_7 : decode cX3_save 7 = .ok (.ldc 51, 2) := by decide +kernel
theorem dX3_save_9 : decode cX3_save 9 = .ok (.ireturn, 1) := by decide +kernel
theorem dX3_save_10 : decode cX3_save 10 = .ok (.aload_n 0, 1) := by decide +kernel
theorem dX3_save_11 : decode cX3_save 11 = .ok (.getfield 10, 3) := by decide +kernel
theorem dX3_save_14 : decode cX3_save 14 = .ok (.aload_n 0, 1) := by decide +kernel
theorem dX3_save_15 : decode cX3_save 15 = .ok (.getfield 23, 3) := by decide +kernel
theorem dX3_save_18 : decode cX3_save 18 = .ok (.iload_n 1, 1) := by decide +kernel
theorem dX3_save_19 : decode cX3_save 19 = .ok (.aaload, 1) := by decide +kernel
theorem dX3_save_20 : decode cX3_save 20 = .ok (.invokestatic 275, 3) := by decide +kernel
theorem dX3_save_23 : decode cX3_save 23 = .ok (.aload_n 0, 1) := by decide +kernel
theorem dX3_save_24 : decode cX3_save 24 = .ok (.getfield 26, 3) := by decide +kernel
theorem dX3_save_27 : decode cX3_save 27 = .ok (.iload_n 1, 1) := by decide +kernel
theorem dX3_save_28 : decode cX3_save 28 = .ok (.iconst 1, 1) := by decide +kernel
theorem dX3_save_29 : decode cX3_save 29 = .ok (.bastore, 1) := by decide +kernel
theorem dX3_save_30 : decode cX3_save 30 = .ok (.aload_n 0, 1) := by decide +kernel
theorem dX3_save_31 : decode cX3_save 31 = .ok (.getfield 10, 3) := by decide +kernel
theorem dX3_save_34 : decode cX3_save 34 = .ok (.getfield 181, 3) := by decide +kernel
theorem dX3_save_37 : decode cX3_save 37 = .ok (.ireturn, 1) := by decide +kernel
theorem dX3_restore_0 : decode cX3_restore 0 = .ok (.iload_n 1, 1) := by decide +kernel
theorem dX3_restore_1 : decode cX3_restore 1 = .ok (.invokestatic 282, 3) := by decide +kernel
theorem dX3_restore_4 : decode cX3_restore 4 = .ok (.ifCond .ne 6, 3) := by decide +kernel
theorem dX3_restore_7 : decode cX3_restore 7 = .ok (.ldc 51, 2) := by decide +kernel
theorem dX3_restore_9 : decode cX3_restore 9 = .ok (.ireturn, 1) := by decide +kernel
theorem dX3_restore_10 : decode cX3_restore 10 = .ok (.aload_n 0, 1) := by decide +kernel
theorem dX3_restore_11 : decode cX3_restore 11 = .ok (.getfield 26, 3) := by decide +kernel
theorem dX3_restore_14 : decode cX3_restore 14 = .ok (.iload_n 1, 1) := by decide +kernel
theorem dX3_restore_15 : decode cX3_restore 15 = .ok (.baload, 1) := by decide +kernel
theorem dX3_restore_16 : decode cX3_restore 16 = .ok (.ifCond .ne 6, 3) := by decide +kernel
theorem dX3_restore_19 : decode cX3_restore 19 = .ok (.ldc 149, 2) := by decide +kernel
theorem dX3_restore_21 : decode cX3_restore 21 = .ok (.ireturn, 1) := by decide +kernel
theorem dX3_restore_22 : decode cX3_restore 22 = .ok (.aload_n 0, 1) := by decide +kernel
theorem dX3_restore_23 : decode cX3_restore 23 = .ok (.invokevirtual 60, 3) := by decide +kernel
theorem dX3_restore_26 : decode cX3_restore 26 = .ok (.aload_n 0, 1) := by decide +kernel
theorem dX3_restore_27 : decode cX3_restore 27 = .ok (.getfield 23, 3) := by decide +kernel
theorem dX3_restore_30 : decode cX3_restore 30 = .ok (.iload_n 1, 1) := by decide +kernel
theorem dX3_restore_31 : decode cX3_restore 31 = .ok (.aaload, 1) := by decide +kernel
theorem dX3_restore_32 : decode cX3_restore 32 = .ok (.aload_n 0, 1) := by decide +kernel
theorem dX3_restore_33 : decode cX3_restore 33 = .ok (.getfield 10, 3) := by decide +kernel
theorem dX3_restore_36 : decode cX3_restore 36 = .ok (.invokestatic 275, 3) := by decide +kernel
theorem dX3_restore_39 : decode cX3_restore 39 = .ok (.aload_n 0, 1) := by decide +kernel
theorem dX3_restore_40 : decode cX3_restore 40 = .ok (.getfield 10, 3) := by decide +kernel
theorem dX3_restore_43 : decode cX3_restore 43 = .ok (.getfield 181, 3) := by decide +kernel
theorem dX3_restore_46 : decode cX3_restore 46 = .ok (.ireturn, 1) := by decide +kernel
theorem dX3_checksum_0 : decode cX3_checksum 0 = .ok (.aload_n 0, 1) := by decide +kernel
theorem dX3_checksum_1 : decode cX3_checksum 1 = .ok (.invokevirtual 172, 3) := by decide +kernel
theorem dX3_checksum_4 : decode cX3_checksum 4 = .ok (.ldc2_w 285, 3) := by decide +kernel
theorem dX3_checksum_7 : decode cX3_checksum 7 = .ok (.lstore_n 1, 1) := by decide +kernel
theorem dX3_checksum_8 : decode cX3_checksum 8 = .ok (.iconst 0, 1) := by decide +kernel
theorem dX3_checksum_9 : decode cX3_checksum 9 = .ok (.istore_n 3, 1) := by decide +kernel
theorem dX3_checksum_10 : decode cX3_checksum 10 = .ok (.iload_n 3, 1) := by decide +kernel
theorem dX3_checksum_11 : decode cX3_checksum 11 = .ok (.bipush 8, 2) := by decide +kernel
theorem dX3_checksum_13 : decode cX3_checksum 13 = .ok (.if_icmp .ge 36, 3) := by decide +kernel
theorem dX3_checksum_16 : decode cX3_checksum 16 = .ok (.iconst 0, 1) := by decide +kernel
theorem dX3_checksum_17 : decode cX3_checksum 17 = .ok (.istore 4, 2) := by decide +kernel
theorem dX3_checksum_19 : decode cX3_checksum 19 = .ok (.iload 4, 2) := by decide +kernel
theorem dX3_checksum_21 : decode cX3_checksum 21 = .ok (.iconst 5, 1) := by decide +kernel
theorem dX3_checksum_22 : decode cX3_checksum 22 = .ok (.if_icmp .ge 21, 3) := by decide +kernel
theorem dX3_checksum_25 : decode cX3_checksum 25 = .ok (.lload_n 1, 1) := by decide +kernel
theorem dX3_checksum_26 : decode cX3_checksum 26 = .ok (.aload_n 0, 1) := by decide +kernel
theorem dX3_checksum_27 : decode cX3_checksum 27 = .ok (.iload_n 3, 1) := by decide +kernel
theorem dX3_checksum_28 : decode cX3_checksum 28 = .ok (.iload 4, 2) := by decide +kernel
theorem dX3_checksum_30 : decode cX3_checksum 30 = .ok (.invokevirtual 287, 3) := by decide +kernel
theorem dX3_checksum_33 : decode cX3_checksum 33 = .ok (.invokestatic 290, 3) := by decide +kernel
theorem dX3_checksum_36 : decode cX3_checksum 36 = .ok (.lstore_n 1, 1) := by decide +kernel
theorem dX3_checksum_37 : decode cX3_checksum 37 = .ok (.iinc 4 1, 3) := by decide +kernel
theorem dX3_checksum_40 : decode cX3_checksum 40 = .ok (.goto (-21), 3) := by decide +kernel
theorem dX3_checksum_43 : decode cX3_checksum 43 = .ok (.iinc 3 1, 3) := by decide +kernel
theorem dX3_checksum_46 : decode cX3_checksum 46 = .ok (.goto (-36), 3) := by decide +kernel
theorem dX3_checksum_49 : decode cX3_checksum 49 = .ok (.iconst 0, 1) := by decide +kernel
theorem dX3_checksum_50 : decode cX3_checksum 50 = .ok (.istore_n 3, 1) := by decide +kernel
theorem dX3_checksum_51 : decode cX3_checksum 51 = .ok (.iload_n 3, 1) := by decide +kernel
theorem dX3_checksum_52 : decode cX3_checksum 52 = .ok (.bipush 9, 2) := by decide +kernel
theorem dX3_checksum_54 : decode cX3_checksum 54 = .ok (.if_icmp .ge 23, 3) := by decide +kernel
theorem dX3_checksum_57 : decode cX3_checksum 57 = .ok (.lload_n 1, 1) := by decide +kernel
theorem dX3_checksum_58 : decode cX3_checksum 58 = .ok (.aload_n 0, 1) := by decide +kernel
theorem dX3_checksum_59 : decode cX3_checksum 59 = .ok (.getfield 10, 3) := by decide +kernel
theorem dX3_checksum_62 : decode cX3_checksum 62 = .ok (.getfield 97, 3) := by decide +kernel
theorem dX3_checksum_65 : decode cX3_checksum 65 = .ok (.iload_n 3, 1) := by decide +kernel
theorem dX3_checksum_66 : decode cX3_checksum 66 = .ok (.iaload, 1) := by decide +kernel
theorem dX3_checksum_67 : decode cX3_checksum 67 = .ok (.invokestatic 290, 3) := by decide +kernel
theorem dX3_checksum_70 : decode cX3_checksum 70 = .ok (.lstore_n 1, 1) := by decide +kernel
theorem dX3_checksum_71 : decode cX3_checksum 71 = .ok (.iinc 3 1, 3) := by decide +kernel
theorem dX3_checksum_74 : decode cX3_checksum 74 = .ok (.goto (-23), 3) := by decide +kernel
theorem dX3_checksum_77 : decode cX3_checksum 77 = .ok (.iconst 0, 1) := by decide +kernel
theorem dX3_checksum_78 : decode cX3_checksum 78 = .ok (.istore_n 3, 1) := by decide +kernel
theorem dX3_checksum_79 : decode cX3_checksum 79 = .ok (.iload_n 3, 1) := by decide +kernel
theorem dX3_checksum_80 : decode cX3_checksum 80 = .ok (.bipush 10, 2) := by decide +kernel
theorem dX3_checksum_82 : decode cX3_checksum 82 = .ok (.if_icmp .ge 19, 3) := by decide +kernel
theorem dX3_checksum_85 : decode cX3_checksum 85 = .ok (.lload_n 1, 1) := by decide +kernel
theorem dX3_checksum_86 : decode cX3_checksum 86 = .ok (.aload_n 0, 1) := by decide +kernel
theorem dX3_checksum_87 : decode cX3_checksum 87 = .ok (.iload_n 3, 1) := by decide +kernel
theorem dX3_checksum_88 : decode cX3_checksum 88 = .ok (.invokevirtual 175, 3) := by decide +kernel
theorem dX3_checksum_91 : decode cX3_checksum 91 = .ok (.invokestatic 290, 3) := by decide +kernel
theorem dX3_checksum_94 : decode cX3_checksum 94 = .ok (.lstore_n 1, 1) := by decide +kernel
theorem dX3_checksum_95 : decode cX3_checksum 95 = .ok (.iinc 3 1, 3) := by decide +kernel
theorem dX3_checksum_98 : decode cX3_checksum 98 = .ok (.goto (-19), 3) := by decide +kernel
theorem dX3_checksum_101 : decode cX3_checksum 101 = .ok (.iconst 0, 1) := by decide +kernel
theorem dX3_checksum_102 : decode cX3_checksum 102 = .ok (.istore_n 3, 1) := by decide +kernel
theorem dX3_checksum_103 : decode cX3_checksum 103 = .ok (.iload_n 3, 1) := by decide +kernel
theorem dX3_checksum_104 : decode cX3_checksum 104 = .ok (.iconst 2, 1) := by decide +kernel
theorem dX3_checksum_105 : decode cX3_checksum 105 = .ok (.if_icmp .ge 36, 3) := by decide +kernel
theorem dX3_checksum_108 : decode cX3_checksum 108 = .ok (.iconst 0, 1) := by decide +kernel
theorem dX3_checksum_109 : decode cX3_checksum 109 = .ok (.istore 4, 2) := by decide +kernel
theorem dX3_checksum_111 : decode cX3_checksum 111 = .ok (.iload 4, 2) := by decide +kernel
theorem dX3_checksum_113 : decode cX3_checksum 113 = .ok (.iconst 3, 1) := by decide +kernel
theorem dX3_checksum_114 : decode cX3_checksum 114 = .ok (.if_icmp .ge 21, 3) := by decide +kernel
theorem dX3_checksum_117 : decode cX3_checksum 117 = .ok (.lload_n 1, 1) := by decide +kernel
theorem dX3_checksum_118 : decode cX3_checksum 118 = .ok (.aload_n 0, 1) := by decide +kernel
theorem dX3_checksum_119 : decode cX3_checksum 119 = .ok (.iload_n 3, 1) := by decide +kernel
theorem dX3_checksum_120 : decode cX3_checksum 120 = .ok (.iload 4, 2) := by decide +kernel
theorem dX3_checksum_122 : decode cX3_checksum 122 = .ok (.invokevirtual 202, 3) := by decide +kernel
theorem dX3_checksum_125 : decode cX3_checksum 125 = .ok (.invokestatic 290, 3) := by decide +kernel
theorem dX3_checksum_128 : decode cX3_checksum 128 = .ok (.lstore_n 1, 1) := by decide +kernel
theorem dX3_checksum_129 : decode cX3_checksum 129 = .ok (.iinc 4 1, 3) := by decide +kernel
theorem dX3_checksum_132 : decode cX3_checksum 132 = .ok (.goto (-21), 3) := by decide +kernel
theorem dX3_checksum_135 : decode cX3_checksum 135 = .ok (.iinc 3 1, 3) := by decide +kernel
theorem dX3_checksum_138 : decode cX3_checksum 138 = .ok (.goto (-35), 3) := by decide +kernel
theorem dX3_checksum_141 : decode cX3_checksum 141 = .ok (.iconst 0, 1) := by decide +kernel
theorem dX3_checksum_142 : decode cX3_checksum 142 = .ok (.istore_n 3, 1) := by decide +kernel
theorem dX3_checksum_143 : decode cX3_checksum 143 = .ok (.iload_n 3, 1) := by decide +kernel
theorem dX3_checksum_144 : decode cX3_checksum 144 = .ok (.iconst 2, 1) := by decide +kernel
theorem dX3_checksum_145 : decode cX3_checksum 145 = .ok (.if_icmp .ge 23, 3) := by decide +kernel
theorem dX3_checksum_148 : decode cX3_checksum 148 = .ok (.lload_n 1, 1) := by decide +kernel
theorem dX3_checksum_149 : decode cX3_checksum 149 = .ok (.aload_n 0, 1) := by decide +kernel
theorem dX3_checksum_150 : decode cX3_checksum 150 = .ok (.getfield 10, 3) := by decide +kernel
theorem dX3_checksum_153 : decode cX3_checksum 153 = .ok (.getfield 214, 3) := by decide +kernel
theorem dX3_checksum_156 : decode cX3_checksum 156 = .ok (.iload_n 3, 1) := by decide +kernel
theorem dX3_checksum_157 : decode cX3_checksum 157 = .ok (.iaload, 1) := by decide +kernel
theorem dX3_checksum_158 : decode cX3_checksum 158 = .ok (.invokestatic 290, 3) := by decide +kernel
theorem dX3_checksum_161 : decode cX3_checksum 161 = .ok (.lstore_n 1, 1) := by decide +kernel
theorem dX3_checksum_162 : decode cX3_checksum 162 = .ok (.iinc 3 1, 3) := by decide +kernel
theorem dX3_checksum_165 : decode cX3_checksum 165 = .ok (.goto (-22), 3) := by decide +kernel
theorem dX3_checksum_168 : decode cX3_checksum 168 = .ok (.aload_n 0, 1) := by decide +kernel
theorem dX3_checksum_169 : decode cX3_checksum 169 = .ok (.lload_n 1, 1) := by decide +kernel
theorem dX3_checksum_170 : decode cX3_checksum 170 = .ok (.invokevirtual 294, 3) := by decide +kernel
theorem dX3_checksum_173 : decode cX3_checksum 173 = .ok (.lstore_n 1, 1) := by decide +kernel
theorem dX3_checksum_174 : decode cX3_checksum 174 = .ok (.lload_n 1, 1) := by decide +kernel
theorem dX3_checksum_175 : decode cX3_checksum 175 = .ok (.aload_n 0, 1) := by decide +kernel
theorem dX3_checksum_176 : decode cX3_checksum 176 = .ok (.invokevirtual 243, 3) := by decide +kernel
theorem dX3_checksum_179 : decode cX3_checksum 179 = .ok (.invokestatic 290, 3) := by decide +kernel
theorem dX3_checksum_182 : decode cX3_checksum 182 = .ok (.lstore_n 1, 1) := by decide +kernel
theorem dX3_checksum_183 : decode cX3_checksum 183 = .ok (.lload_n 1, 1) := by decide +kernel
theorem dX3_checksum_184 : decode cX3_checksum 184 = .ok (.aload_n 0, 1) := by decide +kernel
theorem dX3_checksum_185 : decode cX3_checksum 185 = .ok (.invokevirtual 256, 3) := by decide +kernel
theorem dX3_checksum_188 : decode cX3_checksum 188 = .ok (.invokestatic 290, 3) := by decide +kernel
theorem dX3_checksum_191 : decode cX3_checksum 191 = .ok (.lstore_n 1, 1) := by decide +kernel
theorem dX3_checksum_192 : decode cX3_checksum 192 = .ok (.lload_n 1, 1) := by decide +kernel
theorem dX3_checksum_193 : decode cX3_checksum 193 = .ok (.aload_n 0, 1) := by decide +kernel
theorem dX3_checksum_194 : decode cX3_checksum 194 = .ok (.invokevirtual 259, 3) := by decide +kernel
theorem dX3_checksum_197 : decode cX3_checksum 197 = .ok (.invokestatic 290, 3) := by decide +kernel
theorem dX3_checksum_200 : decode cX3_checksum 200 = .ok (.lreturn, 1) := by decide +kernel
theorem dX3_mixOpenPipes_0 : decode cX3_mixOpenPipes 0 = .ok (.lload_n 1, 1) := by decide +kernel
theorem dX3_mixOpenPipes_1 : decode cX3_mixOpenPipes 1 = .ok (.lstore_n 3, 1) := by decide +kernel
theorem dX3_mixOpenPipes_2 : decode cX3_mixOpenPipes 2 = .ok (.iconst 0, 1) := by decide +kernel
theorem dX3_mixOpenPipes_3 : decode cX3_mixOpenPipes 3 = .ok (.istore 5, 2) := by decide +kernel
theorem dX3_mixOpenPipes_5 : decode cX3_mixOpenPipes 5 = .ok (.iload 5, 2) := by decide +kernel
theorem dX3_mixOpenPipes_7 : decode cX3_mixOpenPipes 7 = .ok (.bipush 8, 2) := by decide +kernel
theorem dX3_mixOpenPipes_9 : decode cX3_mixOpenPipes 9 = .ok (.if_icmp .ge 99, 3) := by decide +kernel
theorem dX3_mixOpenPipes_12 : decode cX3_mixOpenPipes 12 = .ok (.iconst 0, 1) := by decide +kernel
theorem dX3_mixOpenPipes_13 : decode cX3_mixOpenPipes 13 = .ok (.istore 6, 2) := by decide +kernel
theorem dX3_mixOpenPipes_15 : decode cX3_mixOpenPipes 15 = .ok (.iload 6, 2) := by decide +kernel
theorem dX3_mixOpenPipes_17 : decode cX3_mixOpenPipes 17 = .ok (.bipush 24, 2) := by decide +kernel
theorem dX3_mixOpenPipes_19 : decode cX3_mixOpenPipes 19 = .ok (.if_icmp .ge 83, 3) := by decide +kernel
theorem dX3_mixOpenPipes_22 : decode cX3_mixOpenPipes 22 = .ok (.aload_n 0, 1) := by decide +kernel
theorem dX3_mixOpenPipes_23 : decode cX3_mixOpenPipes 23 = .ok (.getfield 40, 3) := by decide +kernel
theorem dX3_mixOpenPipes_26 : decode cX3_mixOpenPipes 26 = .ok (.getfield 193, 3) := by decide +kernel
theorem dX3_mixOpenPipes_29 : decode cX3_mixOpenPipes 29 = .ok (.iload 5, 2) := by decide +kernel
theorem dX3_mixOpenPipes_31 : decode cX3_mixOpenPipes 31 = .ok (.iaload, 1) := by decide +kernel
theorem dX3_mixOpenPipes_32 : decode cX3_mixOpenPipes 32 = .ok (.iload 6, 2) := by decide +kernel
theorem dX3_mixOpenPipes_34 : decode cX3_mixOpenPipes 34 = .ok (.invokestatic 84, 3) := by decide +kernel
theorem dX3_mixOpenPipes_37 : decode cX3_mixOpenPipes 37 = .ok (.ifCond .eq 59, 3) := by decide +kernel
theorem dX3_mixOpenPipes_40 : decode cX3_mixOpenPipes 40 = .ok (.lload_n 3, 1) := by decide +kernel
theorem dX3_mixOpenPipes_41 : decode cX3_mixOpenPipes 41 = .ok (.bipush 100, 2) := by decide +kernel
theorem dX3_mixOpenPipes_43 : decode cX3_mixOpenPipes 43 = .ok (.iload 5, 2) := by decide +kernel
theorem dX3_mixOpenPipes_45 : decode cX3_mixOpenPipes 45 = .ok (.imul, 1) := by decide +kernel
theorem dX3_mixOpenPipes_46 : decode cX3_mixOpenPipes 46 = .ok (.iload 6, 2) := by decide +kernel
theorem dX3_mixOpenPipes_48 : decode cX3_mixOpenPipes 48 = .ok (.iadd, 1) := by decide +kernel
theorem dX3_mixOpenPipes_49 : decode cX3_mixOpenPipes 49 = .ok (.invokestatic 290, 3) := by decide +kernel
theorem dX3_mixOpenPipes_52 : decode cX3_mixOpenPipes 52 = .ok (.lstore_n 3, 1) := by decide +kernel
theorem dX3_mixOpenPipes_53 : decode cX3_mixOpenPipes 53 = .ok (.iconst 0, 1) := by decide +kernel
theorem dX3_mixOpenPipes_54 : decode cX3_mixOpenPipes 54 = .ok (.istore 7, 2) := by decide +kernel
theorem dX3_mixOpenPipes_56 : decode cX3_mixOpenPipes 56 = .ok (.iload 7, 2) := by decide +kernel
theorem dX3_mixOpenPipes_58 : decode cX3_mixOpenPipes 58 = .ok (.iconst 5, 1) := by decide +kernel
theorem dX3_mixOpenPipes_59 : decode cX3_mixOpenPipes 59 = .ok (.if_icmp .ge 24, 3) := by decide +kernel
theorem dX3_mixOpenPipes_62 : decode cX3_mixOpenPipes 62 = .ok (.lload_n 3, 1) := by decide +kernel
theorem dX3_mixOpenPipes_63 : decode cX3_mixOpenPipes 63 = .ok (.aload_n 0, 1) := by decide +kernel
theorem dX3_mixOpenPipes_64 : decode cX3_mixOpenPipes 64 = .ok (.iload 5, 2) := by decide +kernel
theorem dX3_mixOpenPipes_66 : decode cX3_mixOpenPipes 66 = .ok (.iload 6, 2) := by decide +kernel
theorem dX3_mixOpenPipes_68 : decode cX3_mixOpenPipes 68 = .ok (.iload 7, 2) := by decide +kernel
theorem dX3_mixOpenPipes_70 : decode cX3_mixOpenPipes 70 = .ok (.invokevirtual 217, 3) := by decide +kernel
theorem dX3_mixOpenPipes_73 : decode cX3_mixOpenPipes 73 = .ok (.invokestatic 290, 3) := by decide +kernel
theorem dX3_mixOpenPipes_76 : decode cX3_mixOpenPipes 76 = .ok (.lstore_n 3, 1) := by decide +kernel
theorem dX3_mixOpenPipes_77 : decode cX3_mixOpenPipes 77 = .ok (.iinc 7 1, 3) := by decide +kernel
theorem dX3_mixOpenPipes_80 : decode cX3_mixOpenPipes 80 = .ok (.goto (-24), 3) := by decide +kernel
theorem dX3_mixOpenPipes_83 : decode cX3_mixOpenPipes 83 = .ok (.lload_n 3, 1) := by decide +kernel
theorem dX3_mixOpenPipes_84 : decode cX3_mixOpenPipes 84 = .ok (.aload_n 0, 1) := by decide +kernel
theorem dX3_mixOpenPipes_85 : decode cX3_mixOpenPipes 85 = .ok (.iload 5, 2) := by decide +kernel
theorem dX3_mixOpenPipes_87 : decode cX3_mixOpenPipes 87 = .ok (.iload 6, 2) := by decide +kernel
theorem dX3_mixOpenPipes_89 : decode cX3_mixOpenPipes 89 = .ok (.invokevirtual 234, 3) := by decide +kernel
theorem dX3_mixOpenPipes_92 : decode cX3_mixOpenPipes 92 = .ok (.invokestatic 290, 3) := by decide +kernel
theorem dX3_mixOpenPipes_95 : decode cX3_mixOpenPipes 95 = .ok (.lstore_n 3, 1) := by decide +kernel
theorem dX3_mixOpenPipes_96 : decode cX3_mixOpenPipes 96 = .ok (.iinc 6 1, 3) := by decide +kernel
theorem dX3_mixOpenPipes_99 : decode cX3_mixOpenPipes 99 = .ok (.goto (-84), 3) := by decide +kernel
theorem dX3_mixOpenPipes_102 : decode cX3_mixOpenPipes 102 = .ok (.iinc 5 1, 3) := by decide +kernel
theorem dX3_mixOpenPipes_105 : decode cX3_mixOpenPipes 105 = .ok (.goto (-100), 3) := by decide +kernel
theorem dX3_mixOpenPipes_108 : decode cX3_mixOpenPipes 108 = .ok (.lload_n 3, 1) := by decide +kernel
theorem dX3_mixOpenPipes_109 : decode cX3_mixOpenPipes 109 = .ok (.lreturn, 1) := by decide +kernel
theorem dX3_mix_0 : decode cX3_mix 0 = .ok (.ldc2_w 298, 3) := by decide +kernel
theorem dX3_mix_3 : decode cX3_mix 3 = .ok (.lload_n 0, 1) := by decide +kernel
theorem dX3_mix_4 : decode cX3_mix 4 = .ok (.lmul, 1) := by decide +kernel
theorem dX3_mix_5 : decode cX3_mix 5 = .ok (.iload_n 2, 1) := by decide +kernel
theorem dX3_mix_6 : decode cX3_mix 6 = .ok (.i2l, 1) := by decide +kernel
theorem dX3_mix_7 : decode cX3_mix 7 = .ok (.ladd, 1) := by decide +kernel
theorem dX3_mix_8 : decode cX3_mix 8 = .ok (.lreturn, 1) := by decide +kernel
theorem dX3_readWind_0 : decode cX3_readWind 0 = .ok (.aload_n 0, 1) := by decide +kernel
theorem dX3_readWind_1 : decode cX3_readWind 1 = .ok (.getfield 40, 3) := by decide +kernel
theorem dX3_readWind_4 : decode cX3_readWind 4 = .ok (.aload_n 0, 1) := by decide +kernel
theorem dX3_readWind_5 : decode cX3_readWind 5 = .ok (.getfield 10, 3) := by decide +kernel
theorem dX3_readWind_8 : decode cX3_readWind 8 = .ok (.aload_n 0, 1) := by decide +kernel
theorem dX3_readWind_9 : decode cX3_readWind 9 = .ok (.getfield 10, 3) := by decide +kernel
theorem dX3_readWind_12 : decode cX3_readWind 12 = .ok (.getfield 80, 3) := by decide +kernel
theorem dX3_readWind_15 : decode cX3_readWind 15 = .ok (.iconst 1, 1) := by decide +kernel
theorem dX3_readWind_16 : decode cX3_readWind 16 = .ok (.invokevirtual 271, 3) := by decide +kernel
theorem dX3_readWind_19 : decode cX3_readWind 19 = .ok (.return_, 1) := by decide +kernel
theorem dX3_letPass_0 : decode cX3_letPass 0 = .ok (.aload_n 0, 1) := by decide +kernel
theorem dX3_letPass_1 : decode cX3_letPass 1 = .ok (.getfield 44, 3) := by decide +kernel
theorem dX3_letPass_4 : decode cX3_letPass 4 = .ok (.aload_n 1, 1) := by decide +kernel
theorem dX3_letPass_5 : decode cX3_letPass 5 = .ok (.aload_n 1, 1) := by decide +kernel
theorem dX3_letPass_6 : decode cX3_letPass 6 = .ok (.getfield 80, 3) := by decide +kernel
theorem dX3_letPass_9 : decode cX3_letPass 9 = .ok (.iconst 1, 1) := by decide +kernel
theorem dX3_letPass_10 : decode cX3_letPass 10 = .ok (.invokevirtual 300, 3) := by decide +kernel
theorem dX3_letPass_13 : decode cX3_letPass 13 = .ok (.ldc 148, 2) := by decide +kernel
theorem dX3_letPass_15 : decode cX3_letPass 15 = .ok (.istore_n 3, 1) := by decide +kernel
theorem dX3_letPass_16 : decode cX3_letPass 16 = .ok (.ldc 246, 2) := by decide +kernel
theorem dX3_letPass_18 : decode cX3_letPass 18 = .ok (.istore 4, 2) := by decide +kernel
theorem dX3_letPass_20 : decode cX3_letPass 20 = .ok (.iconst 0, 1) := by decide +kernel
theorem dX3_letPass_21 : decode cX3_letPass 21 = .ok (.istore 5, 2) := by decide +kernel
theorem dX3_letPass_23 : decode cX3_letPass 23 = .ok (.iload 5, 2) := by decide +kernel
theorem dX3_letPass_25 : decode cX3_letPass 25 = .ok (.iload_n 2, 1) := by decide +kernel
theorem dX3_letPass_26 : decode cX3_letPass 26 = .ok (.if_icmp .ge 73, 3) := by decide +kernel
theorem dX3_letPass_29 : decode cX3_letPass 29 = .ok (.aload_n 1, 1) := by decide +kernel
theorem dX3_letPass_30 : decode cX3_letPass 30 = .ok (.invokevirtual 303, 3) := by decide +kernel
theorem dX3_letPass_33 : decode cX3_letPass 33 = .ok (.aload_n 1, 1) := by decide +kernel
theorem dX3_letPass_34 : decode cX3_letPass 34 = .ok (.invokevirtual 178, 3) := by decide +kernel
theorem dX3_letPass_37 : decode cX3_letPass 37 = .ok (.istore 6, 2) := by decide +kernel
theorem dX3_letPass_39 : decode cX3_letPass 39 = .ok (.iload 6, 2) := by decide +kernel
theorem dX3_letPass_41 : decode cX3_letPass 41 = .ok (.iload_n 3, 1) := by decide +kernel
theorem dX3_letPass_42 : decode cX3_letPass 42 = .ok (.if_icmp .eq 22, 3) := by decide +kernel
theorem dX3_letPass_45 : decode cX3_letPass 45 = .ok (.aload_n 0, 1) := by decide +kernel
theorem dX3_letPass_46 : decode cX3_letPass 46 = .ok (.getfield 44, 3) := by decide +kernel
theorem dX3_letPass_49 : decode cX3_letPass 49 = .ok (.aload_n 1, 1) := by decide +kernel
theorem dX3_letPass_50 : decode cX3_letPass 50 = .ok (.invokevirtual 306, 3) := by decide +kernel
theorem dX3_letPass_53 : decode cX3_letPass 53 = .ok (.aload_n 0, 1) := by decide +kernel
theorem dX3_letPass_54 : decode cX3_letPass 54 = .ok (.getfield 44, 3) := by decide +kernel
theorem dX3_letPass_57 : decode cX3_letPass 57 = .ok (.aload_n 1, 1) := by decide +kernel
theorem dX3_letPass_58 : decode cX3_letPass 58 = .ok (.invokevirtual 310, 3) := by decide +kernel
theorem dX3_letPass_61 : decode cX3_letPass 61 = .ok (.iload 6, 2) := by decide +kernel
theorem dX3_letPass_63 : decode cX3_letPass 63 = .ok (.istore_n 3, 1) := by decide +kernel
theorem dX3_letPass_64 : decode cX3_letPass 64 = .ok (.aload_n 0, 1) := by decide +kernel
theorem dX3_letPass_65 : decode cX3_letPass 65 = .ok (.getfield 44, 3) := by decide +kernel
theorem dX3_letPass_68 : decode cX3_letPass 68 = .ok (.aload_n 1, 1) := by decide +kernel
theorem dX3_letPass_69 : decode cX3_letPass 69 = .ok (.invokevirtual 313, 3) := by decide +kernel
theorem dX3_letPass_72 : decode cX3_letPass 72 = .ok (.aload_n 1, 1) := by decide +kernel
theorem dX3_letPass_73 : decode cX3_letPass 73 = .ok (.dup, 1) := by decide +kernel
theorem dX3_letPass_74 : decode cX3_letPass 74 = .ok (.getfield 181, 3) := by decide +kernel
theorem dX3_letPass_77 : decode cX3_letPass 77 = .ok (.iconst 1, 1) := by decide +kernel
theorem dX3_letPass_78 : decode cX3_letPass 78 = .ok (.iadd, 1) := by decide +kernel
theorem dX3_letPass_79 : decode cX3_letPass 79 = .ok (.putfield 181, 3) := by decide +kernel
theorem dX3_letPass_82 : decode cX3_letPass 82 = .ok (.iload 4, 2) := by decide +kernel
theorem dX3_letPass_84 : decode cX3_letPass 84 = .ok (.aload_n 1, 1) := by decide +kernel
theorem dX3_letPass_85 : decode cX3_letPass 85 = .ok (.getfield 135, 3) := by decide +kernel
theorem dX3_letPass_88 : decode cX3_letPass 88 = .ok (.invokestatic 248, 3) := by decide +kernel
theorem dX3_letPass_91 : decode cX3_letPass 91 = .ok (.istore 4, 2) := by decide +kernel
theorem dX3_letPass_93 : decode cX3_letPass 93 = .ok (.iinc 5 1, 3) := by decide +kernel
theorem dX3_letPass_96 : decode cX3_letPass 96 = .ok (.goto (-73), 3) := by decide +kernel
theorem dX3_letPass_99 : decode cX3_letPass 99 = .ok (.iload 4, 2) := by decide +kernel
theorem dX3_letPass_101 : decode cX3_letPass 101 = .ok (.ireturn, 1) := by decide +kernel
theorem dX3_detuning_0 : decode cX3_detuning 0 = .ok (.aload_n 0, 1) := by decide +kernel
theorem dX3_detuning_1 : decode cX3_detuning 1 = .ok (.getfield 40, 3) := by decide +kernel
theorem dX3_detuning_4 : decode cX3_detuning 4 = .ok (.getfield 205, 3) := by decide +kernel
theorem dX3_detuning_7 : decode cX3_detuning 7 = .ok (.aload_n 0, 1) := by decide +kernel
theorem dX3_detuning_8 : decode cX3_detuning 8 = .ok (.getfield 10, 3) := by decide +kernel
theorem dX3_detuning_11 : decode cX3_detuning 11 = .ok (.iload_n 1, 1) := by decide +kernel
theorem dX3_detuning_12 : decode cX3_detuning 12 = .ok (.invokevirtual 237, 3) := by decide +kernel
theorem dX3_detuning_15 : decode cX3_detuning 15 = .ok (.iaload, 1) := by decide +kernel
theorem dX3_detuning_16 : decode cX3_detuning 16 = .ok (.aload_n 0, 1) := by decide +kernel
theorem dX3_detuning_17 : decode cX3_detuning 17 = .ok (.getfield 10, 3) := by decide +kernel
theorem dX3_detuning_20 : decode cX3_detuning 20 = .ok (.getfield 97, 3) := by decide +kernel
theorem dX3_detuning_23 : decode cX3_detuning 23 = .ok (.iconst 0, 1) := by decide +kernel
theorem dX3_detuning_24 : decode cX3_detuning 24 = .ok (.iaload, 1) := by decide +kernel
theorem dX3_detuning_25 : decode cX3_detuning 25 = .ok (.isub, 1) := by decide +kernel
theorem dX3_detuning_26 : decode cX3_detuning 26 = .ok (.istore_n 2, 1) := by decide +kernel
theorem dX3_detuning_27 : decode cX3_detuning 27 = .ok (.iload_n 2, 1) := by decide +kernel
theorem dX3_detuning_28 : decode cX3_detuning 28 = .ok (.aload_n 0, 1) := by decide +kernel
theorem dX3_detuning_29 : decode cX3_detuning 29 = .ok (.getfield 10, 3) := by decide +kernel
theorem dX3_detuning_32 : decode cX3_detuning 32 = .ok (.getfield 97, 3) := by decide +kernel
theorem dX3_detuning_35 : decode cX3_detuning 35 = .ok (.bipush 8, 2) := by decide +kernel
theorem dX3_detuning_37 : decode cX3_detuning 37 = .ok (.iaload, 1) := by decide +kernel
theorem dX3_detuning_38 : decode cX3_detuning 38 = .ok (.imul, 1) := by decide +kernel
theorem dX3_detuning_39 : decode cX3_detuning 39 = .ok (.bipush 16, 2) := by decide +kernel
theorem dX3_detuning_41 : decode cX3_detuning 41 = .ok (.invokestatic 316, 3) := by decide +kernel
theorem dX3_detuning_44 : decode cX3_detuning 44 = .ok (.ireturn, 1) := by decide +kernel
theorem dX3_pitch_0 : decode cX3_pitch 0 = .ok (.aload_n 0, 1) := by decide +kernel
theorem dX3_pitch_1 : decode cX3_pitch 1 = .ok (.getfield 10, 3) := by decide +kernel
theorem dX3_pitch_4 : decode cX3_pitch 4 = .ok (.getfield 73, 3) := by decide +kernel
theorem dX3_pitch_7 : decode cX3_pitch 7 = .ok (.iload_n 1, 1) := by decide +kernel
theorem dX3_pitch_8 : decode cX3_pitch 8 = .ok (.iload_n 2, 1) := by decide +kernel
theorem dX3_pitch_9 : decode cX3_pitch 9 = .ok (.invokestatic 76, 3) := by decide +kernel
theorem dX3_pitch_12 : decode cX3_pitch 12 = .ok (.iaload, 1) := by decide +kernel
theorem dX3_pitch_13 : decode cX3_pitch 13 = .ok (.aload_n 0, 1) := by decide +kernel
theorem dX3_pitch_14 : decode cX3_pitch 14 = .ok (.iload_n 1, 1) := by decide +kernel
theorem dX3_pitch_15 : decode cX3_pitch 15 = .ok (.invokevirtual 240, 3) := by decide +kernel
theorem dX3_pitch_18 : decode cX3_pitch 18 = .ok (.iadd, 1) := by decide +kernel
theorem dX3_pitch_19 : decode cX3_pitch 19 = .ok (.ireturn, 1) := by decide +kernel
theorem dX3_remember_0 : decode cX3_remember 0 = .ok (.aload_n 0, 1) := by decide +kernel
theorem dX3_remember_1 : decode cX3_remember 1 = .ok (.getfield 279, 3) := by decide +kernel
theorem dX3_remember_4 : decode cX3_remember 4 = .ok (.iconst 5, 1) := by decide +kernel
theorem dX3_remember_5 : decode cX3_remember 5 = .ok (.if_icmp .lt 49, 3) := by decide +kernel
theorem dX3_remember_8 : decode cX3_remember 8 = .ok (.aload_n 0, 1) := by decide +kernel
theorem dX3_remember_9 : decode cX3_remember 9 = .ok (.getfield 19, 3) := by decide +kernel
theorem dX3_remember_12 : decode cX3_remember 12 = .ok (.iconst 0, 1) := by decide +kernel
theorem dX3_remember_13 : decode cX3_remember 13 = .ok (.aaload, 1) := by decide +kernel
theorem dX3_remember_14 : decode cX3_remember 14 = .ok (.astore_n 1, 1) := by decide +kernel
theorem dX3_remember_15 : decode cX3_remember 15 = .ok (.iconst 1, 1) := by decide +kernel
theorem dX3_remember_16 : decode cX3_remember 16 = .ok (.istore_n 2, 1) := by decide +kernel
theorem dX3_remember_17 : decode cX3_remember 17 = .ok (.iload_n 2, 1) := by decide +kernel
theorem dX3_remember_18 : decode cX3_remember 18 = .ok (.iconst 5, 1) := by decide +kernel
theorem dX3_remember_19 : decode cX3_remember 19 = .ok (.if_icmp .ge 23, 3) := by decide +kernel
theorem dX3_remember_22 : decode cX3_remember 22 = .ok (.aload_n 0, 1) := by decide +kernel
theorem dX3_remember_23 : decode cX3_remember 23 = .ok (.getfield 19, 3) := by decide +kernel
theorem dX3_remember_26 : decode cX3_remember 26 = .ok (.iload_n 2, 1) := by decide +kernel
theorem dX3_remember_27 : decode cX3_remember 27 = .ok (.iconst 1, 1) := by decide +kernel
theorem dX3_remember_28 : decode cX3_remember 28 = .ok (.isub, 1) := by decide +kernel
theorem dX3_remember_29 : decode cX3_remember 29 = .ok (.aload_n 0, 1) := by decide +kernel
theorem dX3_remember_30 : decode cX3_remember 30 = .ok (.getfield 19, 3) := by decide +kernel
theorem dX3_remember_33 : decode cX3_remember 33 = .ok (.iload_n 2, 1) := by decide +kernel
theorem dX3_remember_34 : decode cX3_remember 34 = .ok (.aaload, 1) := by decide +kernel
theorem dX3_remember_35 : decode cX3_remember 35 = .ok (.aastore, 1) := by decide +kernel
theorem dX3_remember_36 : decode cX3_remember 36 = .ok (.iinc 2 1, 3) := by decide +kernel
theorem dX3_remember_39 : decode cX3_remember 39 = .ok (.goto (-22), 3) := by decide +kernel
theorem dX3_remember_42 : decode cX3_remember 42 = .ok (.aload_n 0, 1) := by decide +kernel
theorem dX3_remember_43 : decode cX3_remember 43 = .ok (.getfield 19, 3) := by decide +kernel
theorem dX3_remember_46 : decode cX3_remember 46 = .ok (.iconst 4, 1) := by decide +kernel
theorem dX3_remember_47 : decode cX3_remember 47 = .ok (.aload_n 1, 1) := by decide +kernel
theorem dX3_remember_48 : decode cX3_remember 48 = .ok (.aastore, 1) := by decide +kernel
theorem dX3_remember_49 : decode cX3_remember 49 = .ok (.aload_n 0, 1) := by decide +kernel
theorem dX3_remember_50 : decode cX3_remember 50 = .ok (.iconst 4, 1) := by decide +kernel
theorem dX3_remember_51 : decode cX3_remember 51 = .ok (.putfield 279, 3) := by decide +kernel
theorem dX3_remember_54 : decode cX3_remember 54 = .ok (.aload_n 0, 1) := by decide +kernel
theorem dX3_remember_55 : decode cX3_remember 55 = .ok (.getfield 279, 3) := by decide +kernel
theorem dX3_remember_58 : decode cX3_remember 58 = .ok (.ifCond .lt 29, 3) := by decide +kernel
theorem dX3_remember_61 : decode cX3_remember 61 = .ok (.aload_n 0, 1) := by decide +kernel
theorem dX3_remember_62 : decode cX3_remember 62 = .ok (.getfield 10, 3) := by decide +kernel
theorem dX3_remember_65 : decode cX3_remember 65 = .ok (.aload_n 0, 1) := by decide +kernel
theorem dX3_remember_66 : decode cX3_remember 66 = .ok (.getfield 19, 3) := by decide +kernel
theorem dX3_remember_69 : decode cX3_remember 69 = .ok (.aload_n 0, 1) := by decide +kernel
theorem dX3_remember_70 : decode cX3_remember 70 = .ok (.getfield 279, 3) := by decide +kernel
theorem dX3_remember_73 : decode cX3_remember 73 = .ok (.aaload, 1) := by decide +kernel
theorem dX3_remember_74 : decode cX3_remember 74 = .ok (.invokestatic 275, 3) := by decide +kernel
theorem dX3_remember_77 : decode cX3_remember 77 = .ok (.aload_n 0, 1) := by decide +kernel
theorem dX3_remember_78 : decode cX3_remember 78 = .ok (.dup, 1) := by decide +kernel
theorem dX3_remember_79 : decode cX3_remember 79 = .ok (.getfield 279, 3) := by decide +kernel
theorem dX3_remember_82 : decode cX3_remember 82 = .ok (.iconst 1, 1) := by decide +kernel
theorem dX3_remember_83 : decode cX3_remember 83 = .ok (.iadd, 1) := by decide +kernel
theorem dX3_remember_84 : decode cX3_remember 84 = .ok (.putfield 279, 3) := by decide +kernel
theorem dX3_remember_87 : decode cX3_remember 87 = .ok (.return_, 1) := by decide +kernel
theorem dX3_copyState_0 : decode cX3_copyState 0 = .ok (.aload_n 0, 1) := by decide +kernel
theorem dX3_copyState_1 : decode cX3_copyState 1 = .ok (.ifnull 17, 3) := by decide +kernel
theorem dX3_copyState_4 : decode cX3_copyState 4 = .ok (.aload_n 1, 1) := by decide +kernel
theorem dX3_copyState_5 : decode cX3_copyState 5 = .ok (.ifnull 13, 3) := by decide +kernel
theorem dX3_copyState_8 : decode cX3_copyState 8 = .ok (.aload_n 1, 1) := by decide +kernel
theorem dX3_copyState_9 : decode cX3_copyState 9 = .ok (.aload_n 0, 1) := by decide +kernel
theorem dX3_copyState_10 : decode cX3_copyState 10 = .ok (.invokevirtual 319, 3) := by decide +kernel
theorem dX3_copyState_13 : decode cX3_copyState 13 = .ok (.aload_n 1, 1) := by decide +kernel
theorem dX3_copyState_14 : decode cX3_copyState 14 = .ok (.aload_n 0, 1) := by decide +kernel
theorem dX3_copyState_15 : decode cX3_copyState 15 = .ok (.invokevirtual 322, 3) := by decide +kernel
theorem dX3_copyState_18 : decode cX3_copyState 18 = .ok (.return_, 1) := by decide +kernel
theorem dX3_isStop_0 : decode cX3_isStop 0 = .ok (.iload_n 0, 1) := by decide +kernel
theorem dX3_isStop_1 : decode cX3_isStop 1 = .ok (.iconst 0, 1) := by decide +kernel
theorem dX3_isStop_2 : decode cX3_isStop 2 = .ok (.bipush 7, 2) := by decide +kernel
theorem dX3_isStop_4 : decode cX3_isStop 4 = .ok (.invokestatic 55, 3) := by decide +kernel
theorem dX3_isStop_7 : decode cX3_isStop 7 = .ok (.ireturn, 1) := by decide +kernel
theorem dX3_isManual_0 : decode cX3_isManual 0 = .ok (.iload_n 0, 1) := by decide +kernel
theorem dX3_isManual_1 : decode cX3_isManual 1 = .ok (.iconst 0, 1) := by decide +kernel
theorem dX3_isManual_2 : decode cX3_isManual 2 = .ok (.iconst 1, 1) := by decide +kernel
theorem dX3_isManual_3 : decode cX3_isManual 3 = .ok (.invokestatic 55, 3) := by decide +kernel
theorem dX3_isManual_6 : decode cX3_isManual 6 = .ok (.ireturn, 1) := by decide +kernel
theorem dX3_isKey_0 : decode cX3_isKey 0 = .ok (.iload_n 0, 1) := by decide +kernel
theorem dX3_isKey_1 : decode cX3_isKey 1 = .ok (.iconst 0, 1) := by decide +kernel
theorem dX3_isKey_2 : decode cX3_isKey 2 = .ok (.bipush 23, 2) := by decide +kernel
theorem dX3_isKey_4 : decode cX3_isKey 4 = .ok (.invokestatic 55, 3) := by decide +kernel
theorem dX3_isKey_7 : decode cX3_isKey 7 = .ok (.ireturn, 1) := by decide +kernel
theorem dX3_isSlot_0 : decode cX3_isSlot 0 = .ok (.iload_n 0, 1) := by decide +kernel
theorem dX3_isSlot_1 : decode cX3_isSlot 1 = .ok (.iconst 0, 1) := by decide +kernel
theorem dX3_isSlot_2 : decode cX3_isSlot 2 = .ok (.iconst 1, 1) := by decide +kernel
theorem dX3_isSlot_3 : decode cX3_isSlot 3 = .ok (.invokestatic 55, 3) := by decide +kernel
theorem dX3_isSlot_6 : decode cX3_isSlot 6 = .ok (.ireturn, 1) := by decide +kernel
theorem dX3_isWithin_0 : decode cX3_isWithin 0 = .ok (.iload_n 0, 1) := by decide +kernel
theorem dX3_isWithin_1 : decode cX3_isWithin 1 = .ok (.iload_n 1, 1) := by decide +kernel
theorem dX3_isWithin_2 : decode cX3_isWithin 2 = .ok (.if_icmp .lt 12, 3) := by decide +kernel
theorem dX3_isWithin_5 : decode cX3_isWithin 5 = .ok (.iload_n 0, 1) := by decide +kernel
theorem dX3_isWithin_6 : decode cX3_isWithin 6 = .ok (.iload_n 2, 1) := by decide +kernel
theorem dX3_isWithin_7 : decode cX3_isWithin 7 = .ok (.if_icmp .gt 7, 3) := by decide +kernel
theorem dX3_isWithin_10 : decode cX3_isWithin 10 = .ok (.iconst 1, 1) := by decide +kernel
theorem dX3_isWithin_11 : decode cX3_isWithin 11 = .ok (.goto 4, 3) := by decide +kernel
theorem dX3_isWithin_14 : decode cX3_isWithin 14 = .ok (.iconst 0, 1) := by decide +kernel
theorem dX3_isWithin_15 : decode cX3_isWithin 15 = .ok (.ireturn, 1) := by decide +kernel
theorem dX3_pipeIndex_0 : decode cX3_pipeIndex 0 = .ok (.iload_n 0, 1) := by decide +kernel
theorem dX3_pipeIndex_1 : decode cX3_pipeIndex 1 = .ok (.bipush 24, 2) := by decide +kernel
theorem dX3_pipeIndex_3 : decode cX3_pipeIndex 3 = .ok (.imul, 1) := by decide +kernel
theorem dX3_pipeIndex_4 : decode cX3_pipeIndex 4 = .ok (.iload_n 1, 1) := by decide +kernel
theorem dX3_pipeIndex_5 : decode cX3_pipeIndex 5 = .ok (.iadd, 1) := by decide +kernel
theorem dX3_pipeIndex_6 : decode cX3_pipeIndex 6 = .ok (.ireturn, 1) := by decide +kernel
theorem dX3_divide_0 : decode cX3_divide 0 = .ok (.iload_n 1, 1) := by decide +kernel
theorem dX3_divide_1 : decode cX3_divide 1 = .ok (.ifCond .ne 7, 3) := by decide +kernel
theorem dX3_divide_4 : decode cX3_divide 4 = .ok (.iconst 0, 1) := by decide +kernel
theorem dX3_divide_5 : decode cX3_divide 5 = .ok (.goto 8, 3) := by decide +kernel
theorem dX3_divide_8 : decode cX3_divide 8 = .ok (.iload_n 0, 1) := by decide +kernel
theorem dX3_divide_9 : decode cX3_divide 9 = .ok (.iload_n 1, 1) := by decide +kernel
theorem dX3_divide_10 : decode cX3_divide 10 = .ok (.invokestatic 325, 3) := by decide +kernel
theorem dX3_divide_13 : decode cX3_divide 13 = .ok (.ireturn, 1) := by decide +kernel
theorem dX3_isIn_0 : decode cX3_isIn 0 = .ok (.iload_n 0, 1) := by decide +kernel
theorem dX3_isIn_1 : decode cX3_isIn 1 = .ok (.iload_n 1, 1) := by decide +kernel
theorem dX3_isIn_2 : decode cX3_isIn 2 = .ok (.ishr, 1) := by decide +kernel
theorem dX3_isIn_3 : decode cX3_isIn 3 = .ok (.iconst 1, 1) := by decide +kernel
theorem dX3_isIn_4 : decode cX3_isIn 4 = .ok (.iand, 1) := by decide +kernel
theorem dX3_isIn_5 : decode cX3_isIn 5 = .ok (.ifCond .eq 7, 3) := by decide +kernel
theorem dX3_isIn_8 : decode cX3_isIn 8 = .ok (.iconst 1, 1) := by decide +kernel
theorem dX3_isIn_9 : decode cX3_isIn 9 = .ok (.goto 4, 3) := by decide +kernel
theorem dX3_isIn_12 : decode cX3_isIn 12 = .ok (.iconst 0, 1) := by decide +kernel
theorem dX3_isIn_13 : decode cX3_isIn 13 = .ok (.ireturn, 1) := by decide +kernel
theorem dX3_with_0 : decode cX3_with 0 = .ok (.iload_n 2, 1) := by decide +kernel
theorem dX3_with_1 : decode cX3_with 1 = .ok (.ifCond .eq 11, 3) := by decide +kernel
theorem dX3_with_4 : decode cX3_with 4 = .ok (.iload_n 0, 1) := by decide +kernel
theorem dX3_with_5 : decode cX3_with 5 = .ok (.iconst 1, 1) := by decide +kernel
theorem dX3_with_6 : decode cX3_with 6 = .ok (.iload_n 1, 1) := by decide +kernel
theorem dX3_with_7 : decode cX3_with 7 = .ok (.ishl, 1) := by decide +kernel
theorem dX3_with_8 : decode cX3_with 8 = .ok (.ior, 1) := by decide +kernel
theorem dX3_with_9 : decode cX3_with 9 = .ok (.goto 10, 3) := by decide +kernel
theorem dX3_with_12 : decode cX3_with 12 = .ok (.iload_n 0, 1) := by decide +kernel
theorem dX3_with_13 : decode cX3_with 13 = .ok (.iconst 1, 1) := by decide +kernel
theorem dX3_with_14 : decode cX3_with 14 = .ok (.iload_n 1, 1) := by decide +kernel
theorem dX3_with_15 : decode cX3_with 15 = .ok (.ishl, 1) := by decide +kernel
theorem dX3_with_16 : decode cX3_with 16 = .ok (.iconst (-1), 1) := by decide +kernel
theorem dX3_with_17 : decode cX3_with 17 = .ok (.ixor, 1) := by decide +kernel
theorem dX3_with_18 : decode cX3_with 18 = .ok (.iand, 1) := by decide +kernel
theorem dX3_with_19 : decode cX3_with 19 = .ok (.ireturn, 1) := by decide +kernel
theorem dX3_rowOfStops_0 : decode cX3_rowOfStops 0 = .ok (.iconst 1, 1) := by decide +kernel
theorem dX3_rowOfStops_1 : decode cX3_rowOfStops 1 = .ok (.iload_n 1, 1) := by decide +kernel
theorem dX3_rowOfStops_2 : decode cX3_rowOfStops 2 = .ok (.ishl, 1) := by decide +kernel
theorem dX3_rowOfStops_3 : decode cX3_rowOfStops 3 = .ok (.iconst 1, 1) := by decide +kernel
theorem dX3_rowOfStops_4 : decode cX3_rowOfStops 4 = .ok (.isub, 1) := by decide +kernel
theorem dX3_rowOfStops_5 : decode cX3_rowOfStops 5 = .ok (.iload_n 0, 1) := by decide +kernel
theorem dX3_rowOfStops_6 : decode cX3_rowOfStops 6 = .ok (.ishl, 1) := by decide +kernel
theorem dX3_rowOfStops_7 : decode cX3_rowOfStops 7 = .ok (.ireturn, 1) := by decide +kernel
theorem dX3_countOfAll_0 : decode cX3_countOfAll 0 = .ok (.iconst 0, 1) := by decide +kernel
theorem dX3_countOfAll_1 : decode cX3_countOfAll 1 = .ok (.istore_n 1, 1) := by decide +kernel
theorem dX3_countOfAll_2 : decode cX3_countOfAll 2 = .ok (.aload_n 0, 1) := by decide +kernel
theorem dX3_countOfAll_3 : decode cX3_countOfAll 3 = .ok (.astore_n 2, 1) := by decide +kernel
theorem dX3_countOfAll_4 : decode cX3_countOfAll 4 = .ok (.aload_n 2, 1) := by decide +kernel
theorem dX3_countOfAll_5 : decode cX3_countOfAll 5 = .ok (.arraylength, 1) := by decide +kernel
theorem dX3_countOfAll_6 : decode cX3_countOfAll 6 = .ok (.istore_n 3, 1) := by decide +kernel
theorem dX3_countOfAll_7 : decode cX3_countOfAll 7 = .ok (.iconst 0, 1) := by decide +kernel
theorem dX3_countOfAll_8 : decode cX3_countOfAll 8 = .ok (.istore 4, 2) := by decide +kernel
theorem dX3_countOfAll_10 : decode cX3_countOfAll 10 = .ok (.iload 4, 2) := by decide +kernel
theorem dX3_countOfAll_12 : decode cX3_countOfAll 12 = .ok (.iload_n 3, 1) := by decide +kernel
theorem dX3_countOfAll_13 : decode cX3_countOfAll 13 = .ok (.if_icmp .ge 23, 3) := by decide +kernel
theorem dX3_countOfAll_16 : decode cX3_countOfAll 16 = .ok (.aload_n 2, 1) := by decide +kernel
theorem dX3_countOfAll_17 : decode cX3_countOfAll 17 = .ok (.iload 4, 2) := by decide +kernel
theorem dX3_countOfAll_19 : decode cX3_countOfAll 19 = .ok (.iaload, 1) := by decide +kernel
theorem dX3_countOfAll_20 : decode cX3_countOfAll 20 = .ok (.istore 5, 2) := by decide +kernel
theorem dX3_countOfAll_22 : decode cX3_countOfAll 22 = .ok (.iload_n 1, 1) := by decide +kernel
theorem dX3_countOfAll_23 : decode cX3_countOfAll 23 = .ok (.iload 5, 2) := by decide +kernel
theorem dX3_countOfAll_25 : decode cX3_countOfAll 25 = .ok (.invokestatic 115, 3) := by decide +kernel
theorem dX3_countOfAll_28 : decode cX3_countOfAll 28 = .ok (.iadd, 1) := by decide +kernel
theorem dX3_countOfAll_29 : decode cX3_countOfAll 29 = .ok (.istore_n 1, 1) := by decide +kernel
theorem dX3_countOfAll_30 : decode cX3_countOfAll 30 = .ok (.iinc 4 1, 3) := by decide +kernel
theorem dX3_countOfAll_33 : decode cX3_countOfAll 33 = .ok (.goto (-23), 3) := by decide +kernel
theorem dX3_countOfAll_36 : decode cX3_countOfAll 36 = .ok (.iload_n 1, 1) := by decide +kernel
theorem dX3_countOfAll_37 : decode cX3_countOfAll 37 = .ok (.ireturn, 1) := by decide +kernel
theorem dX3_sumOf_0 : decode cX3_sumOf 0 = .ok (.iconst 0, 1) := by decide +kernel
theorem dX3_sumOf_1 : decode cX3_sumOf 1 = .ok (.istore_n 1, 1) := by decide +kernel
theorem dX3_sumOf_2 : decode cX3_sumOf 2 = .ok (.aload_n 0, 1) := by decide +kernel
theorem dX3_sumOf_3 : decode cX3_sumOf 3 = .ok (.astore_n 2, 1) := by decide +kernel
theorem dX3_sumOf_4 : decode cX3_sumOf 4 = .ok (.aload_n 2, 1) := by decide +kernel
theorem dX3_sumOf_5 : decode cX3_sumOf 5 = .ok (.arraylength, 1) := by decide +kernel
theorem dX3_sumOf_6 : decode cX3_sumOf 6 = .ok (.istore_n 3, 1) := by decide +kernel
theorem dX3_sumOf_7 : decode cX3_sumOf 7 = .ok (.iconst 0, 1) := by decide +kernel
theorem dX3_sumOf_8 : decode cX3_sumOf 8 = .ok (.istore 4, 2) := by decide +kernel
theorem dX3_sumOf_10 : decode cX3_sumOf 10 = .ok (.iload 4, 2) := by decide +kernel
theorem dX3_sumOf_12 : decode cX3_sumOf 12 = .ok (.iload_n 3, 1) := by decide +kernel
theorem dX3_sumOf_13 : decode cX3_sumOf 13 = .ok (.if_icmp .ge 20, 3) := by decide +kernel
theorem dX3_sumOf_16 : decode cX3_sumOf 16 = .ok (.aload_n 2, 1) := by decide +kernel
theorem dX3_sumOf_17 : decode cX3_sumOf 17 = .ok (.iload 4, 2) := by decide +kernel
theorem dX3_sumOf_19 : decode cX3_sumOf 19 = .ok (.iaload, 1) := by decide +kernel
theorem dX3_sumOf_20 : decode cX3_sumOf 20 = .ok (.istore 5, 2) := by decide +kernel
theorem dX3_sumOf_22 : decode cX3_sumOf 22 = .ok (.iload_n 1, 1) := by decide +kernel
theorem dX3_sumOf_23 : decode cX3_sumOf 23 = .ok (.iload 5, 2) := by decide +kernel
theorem dX3_sumOf_25 : decode cX3_sumOf 25 = .ok (.iadd, 1) := by decide +kernel
theorem dX3_sumOf_26 : decode cX3_sumOf 26 = .ok (.istore_n 1, 1) := by decide +kernel
theorem dX3_sumOf_27 : decode cX3_sumOf 27 = .ok (.iinc 4 1, 3) := by decide +kernel
theorem dX3_sumOf_30 : decode cX3_sumOf 30 = .ok (.goto (-20), 3) := by decide +kernel
theorem dX3_sumOf_33 : decode cX3_sumOf 33 = .ok (.iload_n 1, 1) := by decide +kernel
theorem dX3_sumOf_34 : decode cX3_sumOf 34 = .ok (.ireturn, 1) := by decide +kernel
end
section
theorem dX4_init_0 : decode cX4_init 0 = .ok (.aload_n 0, 1) := by decide +kernel
theorem dX4_init_1 : decode cX4_init 1 = .ok (.invokespecial 1, 3) := by decide +kernel
theorem dX4_init_4 : decode cX4_init 4 = .ok (.aload_n 0, 1) := by decide +kernel
theorem dX4_init_5 : decode cX4_init 5 = .ok (.sipush 264, 3) := by decide +kernel
theorem dX4_init_8 : decode cX4_init 8 = .ok (.newarray .int, 2) := by decide +kernel
theorem dX4_init_10 : decode cX4_init 10 = .ok (.putfield 7, 3) := by decide +kernel
theorem dX4_init_13 : decode cX4_init 13 = .ok (.aload_n 0, 1) := by decide +kernel
theorem dX4_init_14 : decode cX4_init 14 = .ok (.sipush 264, 3) := by decide +kernel
theorem dX4_init_17 : decode cX4_init 17 = .ok (.newarray .int, 2) := by decide +kernel
theorem dX4_init_19 : decode cX4_init 19 = .ok (.putfield 13, 3) := by decide +kernel
theorem dX4_init_22 : decode cX4_init 22 = .ok (.aload_n 0, 1) := by decide +kernel
theorem dX4_init_23 : decode cX4_init 23 = .ok (.sipush 1320, 3) := by decide +kernel
theorem dX4_init_26 : decode cX4_init 26 = .ok (.newarray .int, 2) := by decide +kernel
theorem dX4_init_28 : decode cX4_init 28 = .ok (.putfield 16, 3) := by decide +kernel
theorem dX4_init_31 : decode cX4_init 31 = .ok (.aload_n 0, 1) := by decide +kernel
theorem dX4_init_32 : decode cX4_init 32 = .ok (.sipush 528, 3) := by decide +kernel
theorem dX4_init_35 : decode cX4_init 35 = .ok (.newarray .int, 2) := by decide +kernel
theorem dX4_init_37 : decode cX4_init 37 = .ok (.putfield 19, 3) := by decide +kernel
theorem dX4_init_40 : decode cX4_init 40 = .ok (.aload_n 0, 1) := by decide +kernel
theorem dX4_init_41 : decode cX4_init 41 = .ok (.iconst 2, 1) := by decide +kernel
theorem dX4_init_42 : decode cX4_init 42 = .ok (.newarray .boolean, 2) := by decide +kernel
theorem dX4_init_44 : decode cX4_init 44 = .ok (.putfield 22, 3) := by decide +kernel
theorem dX4_init_47 : decode cX4_init 47 = .ok (.aload_n 0, 1) := by decide +kernel
theorem dX4_init_48 : decode cX4_init 48 = .ok (.bipush 80, 2) := by decide +kernel
theorem dX4_init_50 : decode cX4_init 50 = .ok (.newarray .int, 2) := by decide +kernel
theorem dX4_init_52 : decode cX4_init 52 = .ok (.putfield 26, 3) := by decide +kernel
theorem dX4_init_55 : decode cX4_init 55 = .ok (.aload_n 0, 1) := by decide +kernel
theorem dX4_init_56 : decode cX4_init 56 = .ok (.bipush 9, 2) := by decide +kernel
theorem dX4_init_58 : decode cX4_init 58 = .ok (.newarray .int, 2) := by decide +kernel
theorem dX4_init_60 : decode cX4_init 60 = .ok (.dup, 1) := by decide +kernel
theorem dX4_init_61 : decode cX4_init 61 = .ok (.iconst 0, 1) := by decide +kernel
theorem dX4_init_62 : decode cX4_init 62 = .ok (.bipush 20, 2) := by decide +kernel
theorem dX4_init_64 : decode cX4_init 64 = .ok (.iastore, 1) := by decide +kernel
theorem dX4_init_65 : decode cX4_init 65 = .ok (.dup, 1) := by decide +kernel
theorem dX4_init_66 : decode cX4_init 66 = .ok (.iconst 1, 1) := by decide +kernel
theorem dX4_init_67 : decode cX4_init 67 = .ok (.iconst 0, 1) := by decide +kernel
theorem dX4_init_68 : decode cX4_init 68 = .ok (.iastore, 1) := by decide +kernel
theorem dX4_init_69 : decode cX4_init 69 = .ok (.dup, 1) := by decide +kernel
theorem dX4_init_70 : decode cX4_init 70 = .ok (.iconst 2, 1) := by decide +kernel
theorem dX4_init_71 : decode cX4_init 71 = .ok (.iconst 0, 1) := by decide +kernel
theorem dX4_init_72 : decode cX4_init 72 = .ok (.iastore, 1) := by decide +kernel
theorem dX4_init_73 : decode cX4_init 73 = .ok (.dup, 1) := by decide +kernel
theorem dX4_init_74 : decode cX4_init 74 = .ok (.iconst 3, 1) := by decide +kernel
theorem dX4_init_75 : decode cX4_init 75 = .ok (.bipush 100, 2) := by decide +kernel
theorem dX4_init_77 : decode cX4_init 77 = .ok (.iastore, 1) := by decide +kernel
theorem dX4_init_78 : decode cX4_init 78 = .ok (.dup, 1) := by decide +kernel
theorem dX4_init_79 : decode cX4_init 79 = .ok (.iconst 4, 1) := by decide +kernel
theorem dX4_init_80 : decode cX4_init 80 = .ok (.sipush 1000, 3) := by decide +kernel
theorem dX4_init_83 : decode cX4_init 83 = .ok (.iastore, 1) := by decide +kernel
theorem dX4_init_84 : decode cX4_init 84 = .ok (.dup, 1) := by decide +kernel
theorem dX4_init_85 : decode cX4_init 85 = .ok (.iconst 5, 1) := by decide +kernel
theorem dX4_init_86 : decode cX4_init 86 = .ok (.iconst 0, 1) := by decide +kernel
theorem dX4_init_87 : decode cX4_init 87 = .ok (.iastore, 1) := by decide +kernel
theorem dX4_init_88 : decode cX4_init 88 = .ok (.dup, 1) := by decide +kernel
theorem dX4_init_89 : decode cX4_init 89 = .ok (.bipush 6, 2) := by decide +kernel
theorem dX4_init_91 : decode cX4_init 91 = .ok (.bipush 10, 2) := by decide +kernel
theorem dX4_init_93 : decode cX4_init 93 = .ok (.iastore, 1) := by decide +kernel
theorem dX4_init_94 : decode cX4_init 94 = .ok (.dup, 1) := by decide +kernel
theorem dX4_init_95 : decode cX4_init 95 = .ok (.bipush 7, 2) := by decide +kernel
theorem dX4_init_97 : decode cX4_init 97 = .ok (.iconst 1, 1) := by decide +kernel
theorem dX4_init_98 : decode cX4_init 98 = .ok (.iastore, 1) := by decide +kernel
theorem dX4_init_99 : decode cX4_init 99 = .ok (.dup, 1) := by decide +kernel
theorem dX4_init_100 : decode cX4_init 100 = .ok (.bipush 8, 2) := by decide +kernel
theorem dX4_init_102 : decode cX4_init 102 = .ok (.iconst 0, 1) := by decide +kernel
theorem dX4_init_103 : decode cX4_init 103 = .ok (.iastore, 1) := by decide +kernel
theorem dX4_init_104 : decode cX4_init 104 = .ok (.putfield 29, 3) := by decide +kernel
theorem dX4_init_107 : decode cX4_init 107 = .ok (.aload_n 0, 1) := by decide +kernel
theorem dX4_init_108 : decode cX4_init 108 = .ok (.bipush 9, 2) := by decide +kernel
theorem dX4_init_110 : decode cX4_init 110 = .ok (.newarray .int, 2) := by decide +kernel
theorem dX4_init_112 : decode cX4_init 112 = .ok (.dup, 1) := by decide +kernel
theorem dX4_init_113 : decode cX4_init 113 = .ok (.iconst 0, 1) := by decide +kernel
theorem dX4_init_114 : decode cX4_init 114 = .ok (.sipush 200, 3) := by decide +kernel
theorem dX4_init_117 : decode cX4_init 117 = .ok (.iastore, 1) := by decide +kernel
theorem dX4_init_118 : decode cX4_init 118 = .ok (.dup, 1) := by decide +kernel
theorem dX4_init_119 : decode cX4_init 119 = .ok (.iconst 1, 1) := by decide +kernel
theorem dX4_init_120 : decode cX4_init 120 = .ok (.bipush 100, 2) := by decide +kernel
theorem dX4_init_122 : decode cX4_init 122 = .ok (.iastore, 1) := by decide +kernel
theorem dX4_init_123 : decode cX4_init 123 = .ok (.dup, 1) := by decide +kernel
theorem dX4_init_124 : decode cX4_init 124 = .ok (.iconst 2, 1) := by decide +kernel
theorem dX4_init_125 : decode cX4_init 125 = .ok (.bipush 100, 2) := by decide +kernel
theorem dX4_init_127 : decode cX4_init 127 = .ok (.iastore, 1) := by decide +kernel
theorem dX4_init_128 : decode cX4_init 128 = .ok (.dup, 1) := by decide +kernel
theorem dX4_init_129 : decode cX4_init 129 = .ok (.iconst 3, 1) := by decide +kernel
theorem dX4_init_130 : decode cX4_init 130 = .ok (.sipush 2000, 3) := by decide +kernel
theorem dX4_init_133 : decode cX4_init 133 = .ok (.iastore, 1) := by decide +kernel
theorem dX4_init_134 : decode cX4_init 134 = .ok (.dup, 1) := by decide +kernel
theorem dX4_init_135 : decode cX4_init 135 = .ok (.iconst 4, 1) := by decide +kernel
theorem dX4_init_136 : decode cX4_init 136 = .ok (.sipush 20000, 3) := by decide +kernel
theorem dX4_init_139 : decode cX4_init 139 = .ok (.iastore, 1) := by decide +kernel
theorem dX4_init_140 : decode cX4_init 140 = .ok (.dup, 1) := by decide +kernel
theorem dX4_init_141 : decode cX4_init 141 = .ok (.iconst 5, 1) := by decide +kernel
theorem dX4_init_142 : decode cX4_init 142 = .ok (.sipush 20000, 3) := by decide +kernel
theorem dX4_init_145 : decode cX4_init 145 = .ok (.iastore, 1) := by decide +kernel
theorem dX4_init_146 : decode cX4_init 146 = .ok (.dup, 1) := by decide +kernel
theorem dX4_init_147 : decode cX4_init 147 = .ok (.bipush 6, 2) := by decide +kernel
theorem dX4_init_149 : decode cX4_init 149 = .ok (.sipush 500, 3) := by decide +kernel
theorem dX4_init_152 : decode cX4_init 152 = .ok (.iastore, 1) := by decide +kernel
theorem dX4_init_153 : decode cX4_init 153 = .ok (.dup, 1) := by decide +kernel
theorem dX4_init_154 : decode cX4_init 154 = .ok (.bipush 7, 2) := by decide +kernel
theorem dX4_init_156 : decode cX4_init 156 = .ok (.bipush 8, 2) := by decide +kernel
theorem dX4_init_158 : decode cX4_init 158 = .ok (.iastore, 1) := by decide +kernel
theorem dX4_init_159 : decode cX4_init 159 = .ok (.dup, 1) := by decide +kernel
theorem dX4_init_160 : decode cX4_init 160 = .ok (.bipush 8, 2) := by decide +kernel
theorem dX4_init_162 : decode cX4_init 162 = .ok (.bipush 32, 2) := by decide +kernel
theorem dX4_init_164 : decode cX4_init 164 = .ok (.iastore, 1) := by decide +kernel
theorem dX4_init_165 : decode cX4_init 165 = .ok (.putfield 32, 3) := by decide +kernel
theorem dX4_init_168 : decode cX4_init 168 = .ok (.aload_n 0, 1) := by decide +kernel
theorem dX4_init_169 : decode cX4_init 169 = .ok (.bipush 9, 2) := by decide +kernel
theorem dX4_init_171 : decode cX4_init 171 = .ok (.newarray .int, 2) := by decide +kernel
theorem dX4_init_173 : decode cX4_init 173 = .ok (.dup, 1) := by decide +kernel
theorem dX4_init_174 : decode cX4_init 174 = .ok (.iconst 0, 1) := by decide +kernel
theorem dX4_init_175 : decode cX4_init 175 = .ok (.bipush 80, 2) := by decide +kernel
theorem dX4_init_177 : decode cX4_init 177 = .ok (.iastore, 1) := by decide +kernel
theorem dX4_init_178 : decode cX4_init 178 = .ok (.dup, 1) := by decide +kernel
theorem dX4_init_179 : decode cX4_init 179 = .ok (.iconst 1, 1) := by decide +kernel
theorem dX4_init_180 : decode cX4_init 180 = .ok (.bipush 10, 2) := by decide +kernel
theorem dX4_init_182 : decode cX4_init 182 = .ok (.iastore, 1) := by decide +kernel
theorem dX4_init_183 : decode cX4_init 183 = .ok (.dup, 1) := by decide +kernel
theorem dX4_init_184 : decode cX4_init 184 = .ok (.iconst 2, 1) := by decide +kernel
theorem dX4_init_185 : decode cX4_init 185 = .ok (.bipush 10, 2) := by decide +kernel
theorem dX4_init_187 : decode cX4_init 187 = .ok (.iastore, 1) := by decide +kernel
theorem dX4_init_188 : decode cX4_init 188 = .ok (.dup, 1) := by decide +kernel
theorem dX4_init_189 : decode cX4_init 189 = .ok (.iconst 3, 1) := by decide +kernel
theorem dX4_init_190 : decode cX4_init 190 = .ok (.sipush 500, 3) := by decide +kernel
theorem dX4_init_193 : decode cX4_init 193 = .ok (.iastore, 1) := by decide +kernel
theorem dX4_init_194 : decode cX4_init 194 = .ok (.dup, 1) := by decide +kernel
theorem dX4_init_195 : decode cX4_init 195 = .ok (.iconst 4, 1) := by decide +kernel
theorem dX4_init_196 : decode cX4_init 196 = .ok (.sipush 6000, 3) := by decide +kernel
theorem dX4_init_199 : decode cX4_init 199 = .ok (.iastore, 1) := by decide +kernel
theorem dX4_init_200 : decode cX4_init 200 = .ok (.dup, 1) := by decide +kernel
theorem dX4_init_201 : decode cX4_init 201 = .ok (.iconst 5, 1) := by decide +kernel
theorem dX4_init_202 : decode cX4_init 202 = .ok (.sipush 4000, 3) := by decide +kernel
theorem dX4_init_205 : decode cX4_init 205 = .ok (.iastore, 1) := by decide +kernel
theorem dX4_init_206 : decode cX4_init 206 = .ok (.dup, 1) := by decide +kernel
theorem dX4_init_207 : decode cX4_init 207 = .ok (.bipush 6, 2) := by decide +kernel
theorem dX4_init_209 : decode cX4_init 209 = .ok (.bipush 120, 2) := by decide +kernel
theorem dX4_init_211 : decode cX4_init 211 = .ok (.iastore, 1) := by decide +kernel
theorem dX4_init_212 : decode cX4_init 212 = .ok (.dup, 1) := by decide +kernel
theorem dX4_init_213 : decode cX4_init 213 = .ok (.bipush 7, 2) := by decide +kernel
theorem dX4_init_215 : decode cX4_init 215 = .ok (.iconst 4, 1) := by decide +kernel
theorem dX4_init_216 : decode cX4_init 216 = .ok (.iastore, 1) := by decide +kernel
theorem dX4_init_217 : decode cX4_init 217 = .ok (.dup, 1) := by decide +kernel
theorem dX4_init_218 : decode cX4_init 218 = .ok (.bipush 8, 2) := by decide +kernel
theorem dX4_init_220 : decode cX4_init 220 = .ok (.bipush 8, 2) := by decide +kernel
theorem dX4_init_222 : decode cX4_init 222 = .ok (.iastore, 1) := by decide +kernel
theorem dX4_init_223 : decode cX4_init 223 = .ok (.putfield 35, 3) := by decide +kernel
theorem dX4_init_226 : decode cX4_init 226 = .ok (.aload_n 0, 1) := by decide +kernel
theorem dX4_init_227 : decode cX4_init 227 = .ok (.iconst 2, 1) := by decide +kernel
theorem dX4_init_228 : decode cX4_init 228 = .ok (.newarray .int, 2) := by decide +kernel
theorem dX4_init_230 : decode cX4_init 230 = .ok (.putfield 38, 3) := by decide +kernel
theorem dX4_init_233 : decode cX4_init 233 = .ok (.aload_n 0, 1) := by decide +kernel
theorem dX4_init_234 : decode cX4_init 234 = .ok (.bipush 8, 2) := by decide +kernel
theorem dX4_init_236 : decode cX4_init 236 = .ok (.newarray .int, 2) := by decide +kernel
theorem dX4_init_238 : decode cX4_init 238 = .ok (.putfield 41, 3) := by decide +kernel
theorem dX4_init_241 : decode cX4_init 241 = .ok (.aload_n 0, 1) := by decide +kernel
theorem dX4_init_242 : decode cX4_init 242 = .ok (.iconst 2, 1) := by decide +kernel
theorem dX4_init_243 : decode cX4_init 243 = .ok (.newarray .int, 2) := by decide +kernel
theorem dX4_init_245 : decode cX4_init 245 = .ok (.putfield 44, 3) := by decide +kernel
theorem dX4_init_248 : decode cX4_init 248 = .ok (.aload_n 0, 1) := by decide +kernel
theorem dX4_init_249 : decode cX4_init 249 = .ok (.iconst 2, 1) := by decide +kernel
theorem dX4_init_250 : decode cX4_init 250 = .ok (.newarray .int, 2) := by decide +kernel
theorem dX4_init_252 : decode cX4_init 252 = .ok (.putfield 47, 3) := by decide +kernel
theorem dX4_init_255 : decode cX4_init 255 = .ok (.aload_n 0, 1) := by decide +kernel
theorem dX4_init_256 : decode cX4_init 256 = .ok (.sipush 192, 3) := by decide +kernel
theorem dX4_init_259 : decode cX4_init 259 = .ok (.newarray .int, 2) := by decide +kernel
theorem dX4_init_261 : decode cX4_init 261 = .ok (.putfield 50, 3) := by decide +kernel
theorem dX4_init_264 : decode cX4_init 264 = .ok (.aload_n 0, 1) := by decide +kernel
theorem dX4_init_265 : decode cX4_init 265 = .ok (.sipush 192, 3) := by decide +kernel
theorem dX4_init_268 : decode cX4_init 268 = .ok (.newarray .int, 2) := by decide +kernel
theorem dX4_init_270 : decode cX4_init 270 = .ok (.putfield 53, 3) := by decide +kernel
theorem dX4_init_273 : decode cX4_init 273 = .ok (.aload_n 0, 1) := by decide +kernel
theorem dX4_init_274 : decode cX4_init 274 = .ok (.sipush 192, 3) := by decide +kernel
theorem dX4_init_277 : decode cX4_init 277 = .ok (.newarray .boolean, 2) := by decide +kernel
theorem dX4_init_279 : decode cX4_init 279 = .ok (.putfield 56, 3) := by decide +kernel
theorem dX4_init_282 : decode cX4_init 282 = .ok (.aload_n 0, 1) := by decide +kernel
theorem dX4_init_283 : decode cX4_init 283 = .ok (.getfield 7, 3) := by decide +kernel
theorem dX4_init_286 : decode cX4_init 286 = .ok (.iconst 0, 1) := by decide +kernel
theorem dX4_init_287 : decode cX4_init 287 = .ok (.sipush 3000, 3) := by decide +kernel
theorem dX4_init_290 : decode cX4_init 290 = .ok (.iastore, 1) := by decide +kernel
theorem dX4_init_291 : decode cX4_init 291 = .ok (.iconst 0, 1) := by decide +kernel
theorem dX4_init_292 : decode cX4_init 292 = .ok (.istore_n 1, 1) := by decide +kernel
theorem dX4_init_293 : decode cX4_init 293 = .ok (.iload_n 1, 1) := by decide +kernel
theorem dX4_init_294 : decode cX4_init 294 = .ok (.bipush 9, 2) := by decide +kernel
theorem dX4_init_296 : decode cX4_init 296 = .ok (.if_icmp .ge 23, 3) := by decide +kernel
theorem dX4_init_299 : decode cX4_init 299 = .ok (.aload_n 0, 1) := by decide +kernel
theorem dX4_init_300 : decode cX4_init 300 = .ok (.getfield 7, 3) := by decide +kernel
theorem dX4_init_303 : decode cX4_init 303 = .ok (.iconst 1, 1) := by decide +kernel
theorem dX4_init_304 : decode cX4_init 304 = .ok (.iload_n 1, 1) := by decide +kernel
theorem dX4_init_305 : decode cX4_init 305 = .ok (.iadd, 1) := by decide +kernel
theorem dX4_init_306 : decode cX4_init 306 = .ok (.aload_n 0, 1) := by decide +kernel
theorem dX4_init_307 : decode cX4_init 307 = .ok (.getfield 35, 3) := by decide +kernel
theorem dX4_init_310 : decode cX4_init 310 = .ok (.iload_n 1, 1) := by decide +kernel
theorem dX4_init_311 : decode cX4_init 311 = .ok (.iaload, 1) := by decide +kernel
theorem dX4_init_312 : decode cX4_init 312 = .ok (.iastore, 1) := by decide +kernel
theorem dX4_init_313 : decode cX4_init 313 = .ok (.iinc 1 1, 3) := by decide +kernel
theorem dX4_init_316 : decode cX4_init 316 = .ok (.goto (-23), 3) := by decide +kernel
theorem dX4_init_319 : decode cX4_init 319 = .ok (.iconst 0, 1) := by decide +kernel
theorem dX4_init_320 : decode cX4_init 320 = .ok (.istore_n 1, 1) := by decide +kernel
theorem dX4_init_321 : decode cX4_init 321 = .ok (.iload_n 1, 1) := by decide +kernel
theorem dX4_init_322 : decode cX4_init 322 = .ok (.bipush 8, 2) := by decide +kernel
theorem dX4_init_324 : decode cX4_init 324 = .ok (.if_icmp .ge 60, 3) := by decide +kernel
theorem dX4_init_327 : decode cX4_init 327 = .ok (.aload_n 0, 1) := by decide +kernel
theorem dX4_init_328 : decode cX4_init 328 = .ok (.getfield 7, 3) := by decide +kernel
theorem dX4_init_331 : decode cX4_init 331 = .ok (.bipush 24, 2) := by decide +kernel
theorem dX4_init_333 : decode cX4_init 333 = .ok (.iconst 5, 1) := by decide +kernel
theorem dX4_init_334 : decode cX4_init 334 = .ok (.iload_n 1, 1) := by decide +kernel
theorem dX4_init_335 : decode cX4_init 335 = .ok (.imul, 1) := by decide +kernel
theorem dX4_init_336 : decode cX4_init 336 = .ok (.iadd, 1) := by decide +kernel
theorem dX4_init_337 : decode cX4_init 337 = .ok (.iload_n 1, 1) := by decide +kernel
theorem dX4_init_338 : decode cX4_init 338 = .ok (.iconst 2, 1) := by decide +kernel
theorem dX4_init_339 : decode cX4_init 339 = .ok (.irem, 1) := by decide +kernel
theorem dX4_init_340 : decode cX4_init 340 = .ok (.iastore, 1) := by decide +kernel
theorem dX4_init_341 : decode cX4_init 341 = .ok (.aload_n 0, 1) := by decide +kernel
theorem dX4_init_342 : decode cX4_init 342 = .ok (.getfield 7, 3) := by decide +kernel
theorem dX4_init_345 : decode cX4_init 345 = .ok (.bipush 24, 2) := by decide +kernel
theorem dX4_init_347 : decode cX4_init 347 = .ok (.iconst 5, 1) := by decide +kernel
theorem dX4_init_348 : decode cX4_init 348 = .ok (.iload_n 1, 1) := by decide +kernel
theorem dX4_init_349 : decode cX4_init 349 = .ok (.imul, 1) := by decide +kernel
theorem dX4_init_350 : decode cX4_init 350 = .ok (.iadd, 1) := by decide +kernel
theorem dX4_init_351 : decode cX4_init 351 = .ok (.iconst 1, 1) := by decide +kernel
theorem dX4_init_352 : decode cX4_init 352 = .ok (.iadd, 1) := by decide +kernel
theorem dX4_init_353 : decode cX4_init 353 = .ok (.iconst 4, 1) := by decide +kernel
theorem dX4_init_354 : decode cX4_init 354 = .ok (.iconst 2, 1) := by decide +kernel
theorem dX4_init_355 : decode cX4_init 355 = .ok (.iload_n 1, 1) := by decide +kernel
theorem dX4_init_356 : decode cX4_init 356 = .ok (.imul, 1) := by decide +kernel
theorem dX4_init_357 : decode cX4_init 357 = .ok (.iadd, 1) := by decide +kernel
theorem dX4_init_358 : decode cX4_init 358 = .ok (.iastore, 1) := by decide +kernel
theorem dX4_init_359 : decode cX4_init 359 = .ok (.aload_n 0, 1) := by decide +kernel
theorem dX4_init_360 : decode cX4_init 360 = .ok (.getfield 7, 3) := by decide +kernel
theorem dX4_init_363 : decode cX4_init 363 = .ok (.bipush 24, 2) := by decide +kernel
theorem dX4_init_365 : decode cX4_init 365 = .ok (.iconst 5, 1) := by decide +kernel
theorem dX4_init_366 : decode cX4_init 366 = .ok (.iload_n 1, 1) := by decide +kernel
theorem dX4_init_367 : decode cX4_init 367 = .ok (.imul, 1) := by decide +kernel
theorem dX4_init_368 : decode cX4_init 368 = .ok (.iadd, 1) := by decide +kernel
theorem dX4_init_369 : decode cX4_init 369 = .ok (.iconst 2, 1) := by decide +kernel
theorem dX4_init_370 : decode cX4_init 370 = .ok (.iadd, 1) := by decide +kernel
theorem dX4_init_371 : decode cX4_init 371 = .ok (.bipush 20, 2) := by decide +kernel
theorem dX4_init_373 : decode cX4_init 373 = .ok (.iconst 5, 1) := by decide +kernel
theorem dX4_init_374 : decode cX4_init 374 = .ok (.iload_n 1, 1) := by decide +kernel
theorem dX4_init_375 : decode cX4_init 375 = .ok (.imul, 1) := by decide +kernel
theorem dX4_init_376 : decode cX4_init 376 = .ok (.iadd, 1) := by decide +kernel
theorem dX4_init_377 : decode cX4_init 377 = .ok (.iastore, 1) := by decide +kernel
theorem dX4_init_378 : decode cX4_init 378 = .ok (.iinc 1 1, 3) := by decide +kernel
theorem dX4_init_381 : decode cX4_init 381 = .ok (.goto (-60), 3) := by decide +kernel
theorem dX4_init_384 : decode cX4_init 384 = .ok (.return_, 1) := by decide +kernel
theorem dX4_in_0 : decode cX4_in 0 = .ok (.iload_n 0, 1) := by decide +kernel
theorem dX4_in_1 : decode cX4_in 1 = .ok (.iload_n 1, 1) := by decide +kernel
theorem dX4_in_2 : decode cX4_in 2 = .ok (.if_icmp .lt 12, 3) := by decide +kernel
theorem dX4_in_5 : decode cX4_in 5 = .ok (.iload_n 0, 1) := by decide +kernel
theorem dX4_in_6 : decode cX4_in 6 = .ok (.iload_n 2, 1) := by decide +kernel
theorem dX4_in_7 : decode cX4_in 7 = .ok (.if_icmp .gt 7, 3) := by decide +kernel
theorem dX4_in_10 : decode cX4_in 10 = .ok (.iconst 1, 1) := by decide +kernel
theorem dX4_in_11 : decode cX4_in 11 = .ok (.goto 4, 3) := by decide +kernel
theorem dX4_in_14 : decode cX4_in 14 = .ok (.iconst 0, 1) := by decide +kernel
theorem dX4_in_15 : decode cX4_in 15 = .ok (.ireturn, 1) := by decide +kernel
theorem dX4_isStop_0 : decode cX4_isStop 0 = .ok (.iload_n 0, 1) := by decide +kernel
theorem dX4_isStop_1 : decode cX4_isStop 1 = .ok (.iconst 0, 1) := by decide +kernel
theorem dX4_isStop_2 : decode cX4_isStop 2 = .ok (.bipush 7, 2) := by decide +kernel
theorem dX4_isStop_4 : decode cX4_isStop 4 = .ok (.invokestatic 59, 3) := by decide +kernel
theorem dX4_isStop_7 : decode cX4_isStop 7 = .ok (.ireturn, 1) := by decide +kernel
theorem dX4_isKey_0 : decode cX4_isKey 0 = .ok (.iload_n 0, 1) := by decide +kernel
theorem dX4_isKey_1 : decode cX4_isKey 1 = .ok (.iconst 0, 1) := by decide +kernel
theorem dX4_isKey_2 : decode cX4_isKey 2 = .ok (.bipush 23, 2) := by decide +kernel
theorem dX4_isKey_4 : decode cX4_isKey 4 = .ok (.invokestatic 59, 3) := by decide +kernel
theorem dX4_isKey_7 : decode cX4_isKey 7 = .ok (.ireturn, 1) := by decide +kernel
theorem dX4_down_0 : decode cX4_down 0 = .ok (.iload_n 0, 1) := by decide +kernel
theorem dX4_down_1 : decode cX4_down 1 = .ok (.iload_n 1, 1) := by decide +kernel
theorem dX4_down_2 : decode cX4_down 2 = .ok (.idiv, 1) := by decide +kernel
theorem dX4_down_3 : decode cX4_down 3 = .ok (.istore_n 2, 1) := by decide +kernel
theorem dX4_down_4 : decode cX4_down 4 = .ok (.iload_n 0, 1) := by decide +kernel
theorem dX4_down_5 : decode cX4_down 5 = .ok (.iload_n 1, 1) := by decide +kernel
theorem dX4_down_6 : decode cX4_down 6 = .ok (.irem, 1) := by decide +kernel
theorem dX4_down_7 : decode cX4_down 7 = .ok (.ifCond .ge 9, 3) := by decide +kernel
theorem dX4_down_10 : decode cX4_down 10 = .ok (.iload_n 2, 1) := by decide +kernel
theorem dX4_down_11 : decode cX4_down 11 = .ok (.iconst 1, 1) := by decide +kernel
theorem dX4_down_12 : decode cX4_down 12 = .ok (.isub, 1) := by decide +kernel
theorem dX4_down_13 : decode cX4_down 13 = .ok (.goto 4, 3) := by decide +kernel
theorem dX4_down_16 : decode cX4_down 16 = .ok (.iload_n 2, 1) := by decide +kernel
theorem dX4_down_17 : decode cX4_down 17 = .ok (.ireturn, 1) := by decide +kernel
theorem dX4_puts_0 : decode cX4_puts 0 = .ok (.aload_n 0, 1) := by decide +kernel
theorem dX4_puts_1 : decode cX4_puts 1 = .ok (.getfield 7, 3) := by decide +kernel
theorem dX4_puts_4 : decode cX4_puts 4 = .ok (.iload_n 1, 1) := by decide +kernel
theorem dX4_puts_5 : decode cX4_puts 5 = .ok (.iaload, 1) := by decide +kernel
theorem dX4_puts_6 : decode cX4_puts 6 = .ok (.istore_n 3, 1) := by decide +kernel
theorem dX4_puts_7 : decode cX4_puts 7 = .ok (.aload_n 0, 1) := by decide +kernel
theorem dX4_puts_8 : decode cX4_puts 8 = .ok (.getfield 7, 3) := by decide +kernel
theorem dX4_puts_11 : decode cX4_puts 11 = .ok (.iload_n 1, 1) := by decide +kernel
theorem dX4_puts_12 : decode cX4_puts 12 = .ok (.iload_n 2, 1) := by decide +kernel
theorem dX4_puts_13 : decode cX4_puts 13 = .ok (.iastore, 1) := by decide +kernel
theorem dX4_puts_14 : decode cX4_puts 14 = .ok (.iload_n 3, 1) := by decide +kernel
theorem dX4_puts_15 : decode cX4_puts 15 = .ok (.ireturn, 1) := by decide +kernel
theorem dX4_records_0 : decode cX4_records 0 = .ok (.aload_n 0, 1) := by decide +kernel
theorem dX4_records_1 : decode cX4_records 1 = .ok (.getfield 63, 3) := by decide +kernel
theorem dX4_records_4 : decode cX4_records 4 = .ok (.iconst 5, 1) := by decide +kernel
theorem dX4_records_5 : decode cX4_records 5 = .ok (.if_icmp .ne 39, 3) := by decide +kernel
theorem dX4_records_8 : decode cX4_records 8 = .ok (.iconst 0, 1) := by decide +kernel
theorem dX4_records_9 : decode cX4_records 9 = .ok (.istore_n 1, 1) := by decide +kernel
theorem dX4_records_10 : decode cX4_records 10 = .ok (.iload_n 1, 1) := by decide +kernel
theorem dX4_records_11 : decode cX4_records 11 = .ok (.sipush 1056, 3) := by decide +kernel
theorem dX4_records_14 : decode cX4_records 14 = .ok (.if_icmp .ge 25, 3) := by decide +kernel
theorem dX4_records_17 : decode cX4_records 17 = .ok (.aload_n 0, 1) := by decide +kernel
theorem dX4_records_18 : decode cX4_records 18 = .ok (.getfield 16, 3) := by decide +kernel
theorem dX4_records_21 : decode cX4_records 21 = .ok (.iload_n 1, 1) := by decide +kernel
theorem dX4_records_22 : decode cX4_records 22 = .ok (.aload_n 0, 1) := by decide +kernel
theorem dX4_records_23 : decode cX4_records 23 = .ok (.getfield 16, 3) := by decide +kernel
theorem dX4_records_26 : decode cX4_records 26 = .ok (.iload_n 1, 1) := by decide +kernel
theorem dX4_records_27 : decode cX4_records 27 = .ok (.sipush 264, 3) := by decide +kernel
theorem dX4_records_30 : decode cX4_records 30 = .ok (.iadd, 1) := by decide +kernel
theorem dX4_records_31 : decode cX4_records 31 = .ok (.iaload, 1) := by decide +kernel
theorem dX4_records_32 : decode cX4_records 32 = .ok (.iastore, 1) := by decide +kernel
theorem dX4_records_33 : decode cX4_records 33 = .ok (.iinc 1 1, 3) := by decide +kernel
theorem dX4_records_36 : decode cX4_records 36 = .ok (.goto (-26), 3) := by decide +kernel
theorem dX4_records_39 : decode cX4_records 39 = .ok (.aload_n 0, 1) := by decide +kernel
theorem dX4_records_40 : decode cX4_records 40 = .ok (.iconst 4, 1) := by decide +kernel
theorem dX4_records_41 : decode cX4_records 41 = .ok (.putfield 63, 3) := by decide +kernel
theorem dX4_records_44 : decode cX4_records 44 = .ok (.iconst 0, 1) := by decide +kernel
theorem dX4_records_45 : decode cX4_records 45 = .ok (.istore_n 1, 1) := by decide +kernel
theorem dX4_records_46 : decode cX4_records 46 = .ok (.iload_n 1, 1) := by decide +kernel
theorem dX4_records_47 : decode cX4_records 47 = .ok (.sipush 264, 3) := by decide +kernel
theorem dX4_records_50 : decode cX4_records 50 = .ok (.if_icmp .ge 30, 3) := by decide +kernel
theorem dX4_records_53 : decode cX4_records 53 = .ok (.aload_n 0, 1) := by decide +kernel
theorem dX4_records_54 : decode cX4_records 54 = .ok (.getfield 16, 3) := by decide +kernel
theorem dX4_records_57 : decode cX4_records 57 = .ok (.sipush 264, 3) := by decide +kernel
theorem dX4_records_60 : decode cX4_records 60 = .ok (.aload_n 0, 1) := by decide +kernel
theorem dX4_records_61 : decode cX4_records 61 = .ok (.getfield 63, 3) := by decide +kernel
theorem dX4_records_64 : decode cX4_records 64 = .ok (.imul, 1) := by decide +kernel
theorem dX4_records_65 : decode cX4_records 65 = .ok (.iload_n 1, 1) := by decide +kernel
theorem dX4_records_66 : decode cX4_records 66 = .ok (.iadd, 1) := by decide +kernel
theorem dX4_records_67 : decode cX4_records 67 = .ok (.aload_n 0, 1) := by decide +kernel
theorem dX4_records_68 : decode cX4_records 68 = .ok (.getfield 7, 3) := by decide +kernel
theorem dX4_records_71 : decode cX4_records 71 = .ok (.iload_n 1, 1) := by decide +kernel
theorem dX4_records_72 : decode cX4_records 72 = .ok (.iaload, 1) := by decide +kernel
theorem dX4_records_73 : decode cX4_records 73 = .ok (.iastore, 1) := by decide +kernel
theorem dX4_records_74 : decode cX4_records 74 = .ok (.iinc 1 1, 3) := by decide +kernel
theorem dX4_records_77 : decode cX4_records 77 = .ok (.goto (-31), 3) := by decide +kernel
theorem dX4_records_80 : decode cX4_records 80 = .ok (.aload_n 0, 1) := by decide +kernel
theorem dX4_records_81 : decode cX4_records 81 = .ok (.dup, 1) := by decide +kernel
theorem dX4_records_82 : decode cX4_records 82 = .ok (.getfield 63, 3) := by decide +kernel
theorem dX4_records_85 : decode cX4_records 85 = .ok (.iconst 1, 1) := by decide +kernel
theorem dX4_records_86 : decode cX4_records 86 = .ok (.iadd, 1) := by decide +kernel
theorem dX4_records_87 : decode cX4_records 87 = .ok (.putfield 63, 3) := by decide +kernel
theorem dX4_records_90 : decode cX4_records 90 = .ok (.return_, 1) := by decide +kernel
theorem dX4_size_0 : decode cX4_size 0 = .ok (.iconst 0, 1) := by decide +kernel
theorem dX4_size_1 : decode cX4_size 1 = .ok (.istore_n 1, 1) := by decide +kernel
theorem dX4_size_2 : decode cX4_size 2 = .ok (.iload_n 0, 1) := by decide +kernel
theorem dX4_size_3 : decode cX4_size 3 = .ok (.istore_n 2, 1) := by decide +kernel
theorem dX4_size_4 : decode cX4_size 4 = .ok (.iload_n 2, 1) := by decide +kernel
theorem dX4_size_5 : decode cX4_size 5 = .ok (.ifCond .eq 15, 3) := by decide +kernel
theorem dX4_size_8 : decode cX4_size 8 = .ok (.iinc 1 1, 3) := by decide +kernel
theorem dX4_size_11 : decode cX4_size 11 = .ok (.iload_n 2, 1) := by decide +kernel
theorem dX4_size_12 : decode cX4_size 12 = .ok (.iload_n 2, 1) := by decide +kernel
theorem dX4_size_13 : decode cX4_size 13 = .ok (.iconst 1, 1) := by decide +kernel
theorem dX4_size_14 : decode cX4_size 14 = .ok (.isub, 1) := by decide +kernel
theorem dX4_size_15 : decode cX4_size 15 = .ok (.iand, 1) := by decide +kernel
theorem dX4_size_16 : decode cX4_size 16 = .ok (.istore_n 2, 1) := by decide +kernel
theorem dX4_size_17 : decode cX4_size 17 = .ok (.goto (-13), 3) := by decide +kernel
theorem dX4_size_20 : decode cX4_size 20 = .ok (.iload_n 1, 1) := by decide +kernel
theorem dX4_size_21 : decode cX4_size 21 = .ok (.ireturn, 1) := by decide +kernel
theorem dX4_layOut_0 : decode cX4_layOut 0 = .ok (.iload_n 1, 1) := by decide +kernel
theorem dX4_layOut_1 : decode cX4_layOut 1 = .ok (.invokestatic 67, 3) := by decide +kernel
theorem dX4_layOut_4 : decode cX4_layOut 4 = .ok (.ifCond .ne 6, 3) := by decide +kernel
theorem dX4_layOut_7 : decode cX4_layOut 7 = .ok (.ldc 71, 2) := by decide +kernel
theorem dX4_layOut_9 : decode cX4_layOut 9 = .ok (.ireturn, 1) := by decide +kernel
theorem dX4_layOut_10 : decode cX4_layOut 10 = .ok (.iload_n 2, 1) := by decide +kernel
theorem dX4_layOut_11 : decode cX4_layOut 11 = .ok (.iconst 0, 1) := by decide +kernel
theorem dX4_layOut_12 : decode cX4_layOut 12 = .ok (.iconst 1, 1) := by decide +kernel
theorem dX4_layOut_13 : decode cX4_layOut 13 = .ok (.invokestatic 59, 3) := by decide +kernel
theorem dX4_layOut_16 : decode cX4_layOut 16 = .ok (.ifCond .eq 25, 3) := by decide +kernel
theorem dX4_layOut_19 : decode cX4_layOut 19 = .ok (.iload_n 3, 1) := by decide +kernel
theorem dX4_layOut_20 : decode cX4_layOut 20 = .ok (.iconst 1, 1) := by decide +kernel
theorem dX4_layOut_21 : decode cX4_layOut 21 = .ok (.bipush 40, 2) := by decide +kernel
theorem dX4_layOut_23 : decode cX4_layOut 23 = .ok (.invokestatic 59, 3) := by decide +kernel
theorem dX4_layOut_26 : decode cX4_layOut 26 = .ok (.ifCond .eq 15, 3) := by decide +kernel
theorem dX4_layOut_29 : decode cX4_layOut 29 = .ok (.iload 4, 2) := by decide +kernel
theorem dX4_layOut_31 : decode cX4_layOut 31 = .ok (.iconst 0, 1) := by decide +kernel
theorem dX4_layOut_32 : decode cX4_layOut 32 = .ok (.sipush 200, 3) := by decide +kernel
theorem dX4_layOut_35 : decode cX4_layOut 35 = .ok (.invokestatic 59, 3) := by decide +kernel
theorem dX4_layOut_38 : decode cX4_layOut 38 = .ok (.ifCond .ne 6, 3) := by decide +kernel
theorem dX4_layOut_41 : decode cX4_layOut 41 = .ok (.ldc 72, 2) := by decide +kernel
theorem dX4_layOut_43 : decode cX4_layOut 43 = .ok (.ireturn, 1) := by decide +kernel
theorem dX4_layOut_44 : decode cX4_layOut 44 = .ok (.aload_n 0, 1) := by decide +kernel
theorem dX4_layOut_45 : decode cX4_layOut 45 = .ok (.invokevirtual 73, 3) := by decide +kernel
theorem dX4_layOut_48 : decode cX4_layOut 48 = .ok (.iconst 0, 1) := by decide +kernel
theorem dX4_layOut_49 : decode cX4_layOut 49 = .ok (.istore 5, 2) := by decide +kernel
theorem dX4_layOut_51 : decode cX4_layOut 51 = .ok (.iload 5, 2) := by decide +kernel
theorem dX4_layOut_53 : decode cX4_layOut 53 = .ok (.bipush 24, 2) := by decide +kernel
theorem dX4_layOut_55 : decode cX4_layOut 55 = .ok (.if_icmp .ge 25, 3) := by decide +kernel
theorem dX4_layOut_58 : decode cX4_layOut 58 = .ok (.aload_n 0, 1) := by decide +kernel
theorem dX4_layOut_59 : decode cX4_layOut 59 = .ok (.getfield 7, 3) := by decide +kernel
theorem dX4_layOut_62 : decode cX4_layOut 62 = .ok (.bipush 64, 2) := by decide +kernel
theorem dX4_layOut_64 : decode cX4_layOut 64 = .ok (.bipush 24, 2) := by decide +kernel
theorem dX4_layOut_66 : decode cX4_layOut 66 = .ok (.iload_n 1, 1) := by decide +kernel
theorem dX4_layOut_67 : decode cX4_layOut 67 = .ok (.imul, 1) := by decide +kernel
theorem dX4_layOut_68 : decode cX4_layOut 68 = .ok (.iadd, 1) := by decide +kernel
theorem dX4_layOut_69 : decode cX4_layOut 69 = .ok (.iload 5, 2) := by decide +kernel
theorem dX4_layOut_71 : decode cX4_layOut 71 = .ok (.iadd, 1) := by decide +kernel
theorem dX4_layOut_72 : decode cX4_layOut 72 = .ok (.iconst 0, 1) := by decide +kernel
theorem dX4_layOut_73 : decode cX4_layOut 73 = .ok (.iastore, 1) := by decide +kernel
theorem dX4_layOut_74 : decode cX4_layOut 74 = .ok (.iinc 5 1, 3) := by decide +kernel
theorem dX4_layOut_77 : decode cX4_layOut 77 = .ok (.goto (-26), 3) := by decide +kernel
theorem dX4_layOut_80 : decode cX4_layOut 80 = .ok (.aload_n 0, 1) := by decide +kernel
theorem dX4_layOut_81 : decode cX4_layOut 81 = .ok (.getfield 7, 3) := by decide +kernel
theorem dX4_layOut_84 : decode cX4_layOut 84 = .ok (.bipush 24, 2) := by decide +kernel
theorem dX4_layOut_86 : decode cX4_layOut 86 = .ok (.iconst 5, 1) := by decide +kernel
theorem dX4_layOut_87 : decode cX4_layOut 87 = .ok (.iload_n 1, 1) := by decide +kernel
theorem dX4_layOut_88 : decode cX4_layOut 88 = .ok (.imul, 1) := by decide +kernel
theorem dX4_layOut_89 : decode cX4_layOut 89 = .ok (.iadd, 1) := by decide +kernel
theorem dX4_layOut_90 : decode cX4_layOut 90 = .ok (.iload_n 2, 1) := by decide +kernel
theorem dX4_layOut_91 : decode cX4_layOut 91 = .ok (.iastore, 1) := by decide +kernel
theorem dX4_layOut_92 : decode cX4_layOut 92 = .ok (.aload_n 0, 1) := by decide +kernel
theorem dX4_layOut_93 : decode cX4_layOut 93 = .ok (.getfield 7, 3) := by decide +kernel
theorem dX4_layOut_96 : decode cX4_layOut 96 = .ok (.bipush 24, 2) := by decide +kernel
theorem dX4_layOut_98 : decode cX4_layOut 98 = .ok (.iconst 5, 1) := by decide +kernel
theorem dX4_layOut_99 : decode cX4_layOut 99 = .ok (.iload_n 1, 1) := by decide +kernel
theorem dX4_layOut_100 : decode cX4_layOut 100 = .ok (.imul, 1) := by decide +kernel
theorem dX4_layOut_101 : decode cX4_layOut 101 = .ok (.iadd, 1) := by decide +kernel
theorem dX4_layOut_102 : decode cX4_layOut 102 = .ok (.iconst 2, 1) := by decide +kernel
theorem dX4_layOut_103 : decode cX4_layOut 103 = .ok (.iadd, 1) := by decide +kernel
theorem dX4_layOut_104 : decode cX4_layOut 104 = .ok (.iload 4, 2) := by decide +kernel
theorem dX4_layOut_106 : decode cX4_layOut 106 = .ok (.iastore, 1) := by decide +kernel
theorem dX4_layOut_107 : decode cX4_layOut 107 = .ok (.aload_n 0, 1) := by decide +kernel
theorem dX4_layOut_108 : decode cX4_layOut 108 = .ok (.bipush 24, 2) := by decide +kernel
theorem dX4_layOut_110 : decode cX4_layOut 110 = .ok (.iconst 5, 1) := by decide +kernel
theorem dX4_layOut_111 : decode cX4_layOut 111 = .ok (.iload_n 1, 1) := by decide +kernel
theorem dX4_layOut_112 : decode cX4_layOut 112 = .ok (.imul, 1) := by decide +kernel
theorem dX4_layOut_113 : decode cX4_layOut 113 = .ok (.iadd, 1) := by decide +kernel
theorem dX4_layOut_114 : decode cX4_layOut 114 = .ok (.iconst 1, 1) := by decide +kernel
theorem dX4_layOut_115 : decode cX4_layOut 115 = .ok (.iadd, 1) := by decide +kernel
theorem dX4_layOut_116 : decode cX4_layOut 116 = .ok (.iload_n 3, 1) := by decide +kernel
theorem dX4_layOut_117 : decode cX4_layOut 117 = .ok (.invokevirtual 76, 3) := by decide +kernel
theorem dX4_layOut_120 : decode cX4_layOut 120 = .ok (.ireturn, 1) := by decide +kernel
theorem dX4_stop_0 : decode cX4_stop 0 = .ok (.iload_n 1, 1) := by decide +kernel
theorem dX4_stop_1 : decode cX4_stop 1 = .ok (.invokestatic 67, 3) := by decide +kernel
theorem dX4_stop_4 : decode cX4_stop 4 = .ok (.ifCond .ne 6, 3) := by decide +kernel
theorem dX4_stop_7 : decode cX4_stop 7 = .ok (.ldc 71, 2) := by decide +kernel
theorem dX4_stop_9 : decode cX4_stop 9 = .ok (.ireturn, 1) := by decide +kernel
theorem dX4_stop_10 : decode cX4_stop 10 = .ok (.iload_n 2, 1) := by decide +kernel
theorem dX4_stop_11 : decode cX4_stop 11 = .ok (.iconst 0, 1) := by decide +kernel
theorem dX4_stop_12 : decode cX4_stop 12 = .ok (.iconst 4, 1) := by decide +kernel
theorem dX4_stop_13 : decode cX4_stop 13 = .ok (.invokestatic 59, 3) := by decide +kernel
theorem dX4_stop_16 : decode cX4_stop 16 = .ok (.ifCond .eq 19, 3) := by decide +kernel
theorem dX4_stop_19 : decode cX4_stop 19 = .ok (.aload_n 0, 1) := by decide +kernel
theorem dX4_stop_20 : decode cX4_stop 20 = .ok (.getfield 7, 3) := by decide +kernel
theorem dX4_stop_23 : decode cX4_stop 23 = .ok (.bipush 24, 2) := by decide +kernel
theorem dX4_stop_25 : decode cX4_stop 25 = .ok (.iconst 5, 1) := by decide +kernel
theorem dX4_stop_26 : decode cX4_stop 26 = .ok (.iload_n 1, 1) := by decide +kernel
theorem dX4_stop_27 : decode cX4_stop 27 = .ok (.imul, 1) := by decide +kernel
theorem dX4_stop_28 : decode cX4_stop 28 = .ok (.iadd, 1) := by decide +kernel
theorem dX4_stop_29 : decode cX4_stop 29 = .ok (.iload_n 2, 1) := by decide +kernel
theorem dX4_stop_30 : decode cX4_stop 30 = .ok (.iadd, 1) := by decide +kernel
theorem dX4_stop_31 : decode cX4_stop 31 = .ok (.iaload, 1) := by decide +kernel
theorem dX4_stop_32 : decode cX4_stop 32 = .ok (.goto 5, 3) := by decide +kernel
theorem dX4_stop_35 : decode cX4_stop 35 = .ok (.ldc 72, 2) := by decide +kernel
theorem dX4_stop_37 : decode cX4_stop 37 = .ok (.ireturn, 1) := by decide +kernel
theorem dX4_set_0 : decode cX4_set 0 = .ok (.iload_n 1, 1) := by decide +kernel
theorem dX4_set_1 : decode cX4_set 1 = .ok (.iconst 0, 1) := by decide +kernel
theorem dX4_set_2 : decode cX4_set 2 = .ok (.bipush 8, 2) := by decide +kernel
theorem dX4_set_4 : decode cX4_set 4 = .ok (.invokestatic 59, 3) := by decide +kernel
theorem dX4_set_7 : decode cX4_set 7 = .ok (.ifCond .ne 6, 3) := by decide +kernel
theorem dX4_set_10 : decode cX4_set 10 = .ok (.ldc 71, 2) := by decide +kernel
theorem dX4_set_12 : decode cX4_set 12 = .ok (.ireturn, 1) := by decide +kernel
theorem dX4_set_13 : decode cX4_set 13 = .ok (.iload_n 2, 1) := by decide +kernel
theorem dX4_set_14 : decode cX4_set 14 = .ok (.aload_n 0, 1) := by decide +kernel
theorem dX4_set_15 : decode cX4_set 15 = .ok (.getfield 29, 3) := by decide +kernel
theorem dX4_set_18 : decode cX4_set 18 = .ok (.iload_n 1, 1) := by decide +kernel
theorem dX4_set_19 : decode cX4_set 19 = .ok (.iaload, 1) := by decide +kernel
theorem dX4_set_20 : decode cX4_set 20 = .ok (.aload_n 0, 1) := by decide +kernel
theorem dX4_set_21 : decode cX4_set 21 = .ok (.getfield 32, 3) := by decide +kernel
theorem dX4_set_24 : decode cX4_set 24 = .ok (.iload_n 1, 1) := by decide +kernel
theorem dX4_set_25 : decode cX4_set 25 = .ok (.iaload, 1) := by decide +kernel
theorem dX4_set_26 : decode cX4_set 26 = .ok (.invokestatic 59, 3) := by decide +kernel
theorem dX4_set_29 : decode cX4_set 29 = .ok (.ifCond .ne 6, 3) := by decide +kernel
theorem dX4_set_32 : decode cX4_set 32 = .ok (.ldc 72, 2) := by decide +kernel
theorem dX4_set_34 : decode cX4_set 34 = .ok (.ireturn, 1) := by decide +kernel
theorem dX4_set_35 : decode cX4_set 35 = .ok (.aload_n 0, 1) := by decide +kernel
theorem dX4_set_36 : decode cX4_set 36 = .ok (.invokevirtual 73, 3) := by decide +kernel
theorem dX4_set_39 : decode cX4_set 39 = .ok (.aload_n 0, 1) := by decide +kernel
theorem dX4_set_40 : decode cX4_set 40 = .ok (.iconst 1, 1) := by decide +kernel
theorem dX4_set_41 : decode cX4_set 41 = .ok (.iload_n 1, 1) := by decide +kernel
theorem dX4_set_42 : decode cX4_set 42 = .ok (.iadd, 1) := by decide +kernel
theorem dX4_set_43 : decode cX4_set 43 = .ok (.iload_n 2, 1) := by decide +kernel
theorem dX4_set_44 : decode cX4_set 44 = .ok (.invokevirtual 76, 3) := by decide +kernel
theorem dX4_set_47 : decode cX4_set 47 = .ok (.ireturn, 1) := by decide +kernel
theorem dX4_ciphersAll_0 : decode cX4_ciphersAll 0 = .ok (.iconst 0, 1) := by decide +kernel
theorem dX4_ciphersAll_1 : decode cX4_ciphersAll 1 = .ok (.istore_n 1, 1) := by decide +kernel
theorem dX4_ciphersAll_2 : decode cX4_ciphersAll 2 = .ok (.iconst 0, 1) := by decide +kernel
theorem dX4_ciphersAll_3 : decode cX4_ciphersAll 3 = .ok (.istore_n 2, 1) := by decide +kernel
theorem dX4_ciphersAll_4 : decode cX4_ciphersAll 4 = .ok (.iload_n 2, 1) := by decide +kernel
theorem dX4_ciphersAll_5 : decode cX4_ciphersAll 5 = .ok (.bipush 8, 2) := by decide +kernel
theorem dX4_ciphersAll_7 : decode cX4_ciphersAll 7 = .ok (.if_icmp .ge 25, 3) := by decide +kernel
theorem dX4_ciphersAll_10 : decode cX4_ciphersAll 10 = .ok (.iload_n 1, 1) := by decide +kernel
theorem dX4_ciphersAll_11 : decode cX4_ciphersAll 11 = .ok (.aload_n 0, 1) := by decide +kernel
theorem dX4_ciphersAll_12 : decode cX4_ciphersAll 12 = .ok (.getfield 7, 3) := by decide +kernel
theorem dX4_ciphersAll_15 : decode cX4_ciphersAll 15 = .ok (.sipush 256, 3) := by decide +kernel
theorem dX4_ciphersAll_18 : decode cX4_ciphersAll 18 = .ok (.iload_n 2, 1) := by decide +kernel
theorem dX4_ciphersAll_19 : decode cX4_ciphersAll 19 = .ok (.iadd, 1) := by decide +kernel
theorem dX4_ciphersAll_20 : decode cX4_ciphersAll 20 = .ok (.iaload, 1) := by decide +kernel
theorem dX4_ciphersAll_21 : decode cX4_ciphersAll 21 = .ok (.invokestatic 80, 3) := by decide +kernel
theorem dX4_ciphersAll_24 : decode cX4_ciphersAll 24 = .ok (.iadd, 1) := by decide +kernel
theorem dX4_ciphersAll_25 : decode cX4_ciphersAll 25 = .ok (.istore_n 1, 1) := by decide +kernel
theorem dX4_ciphersAll_26 : decode cX4_ciphersAll 26 = .ok (.iinc 2 1, 3) := by decide +kernel
theorem dX4_ciphersAll_29 : decode cX4_ciphersAll 29 = .ok (.goto (-25), 3) := by decide +kernel
theorem dX4_ciphersAll_32 : decode cX4_ciphersAll 32 = .ok (.iload_n 1, 1) := by decide +kernel
theorem dX4_ciphersAll_33 : decode cX4_ciphersAll 33 = .ok (.ireturn, 1) := by decide +kernel
theorem dX4_with_0 : decode cX4_with 0 = .ok (.iload_n 2, 1) := by decide +kernel
theorem dX4_with_1 : decode cX4_with 1 = .ok (.ifCond .eq 11, 3) := by decide +kernel
theorem dX4_with_4 : decode cX4_with 4 = .ok (.iload_n 0, 1) := by decide +kernel
theorem dX4_with_5 : decode cX4_with 5 = .ok (.iconst 1, 1) := by decide +kernel
theorem dX4_with_6 : decode cX4_with 6 = .ok (.iload_n 1, 1) := by decide +kernel
theorem dX4_with_7 : decode cX4_with 7 = .ok (.ishl, 1) := by decide +kernel
theorem dX4_with_8 : decode cX4_with 8 = .ok (.ior, 1) := by decide +kernel
theorem dX4_with_9 : decode cX4_with 9 = .ok (.goto 10, 3) := by decide +kernel
theorem dX4_with_12 : decode cX4_with 12 = .ok (.iload_n 0, 1) := by decide +kernel
theorem dX4_with_13 : decode cX4_with 13 = .ok (.iconst 1, 1) := by decide +kernel
theorem dX4_with_14 : decode cX4_with 14 = .ok (.iload_n 1, 1) := by decide +kernel
theorem dX4_with_15 : decode cX4_with 15 = .ok (.ishl, 1) := by decide +kernel
theorem dX4_with_16 : decode cX4_with 16 = .ok (.iconst (-1), 1) := by decide +kernel
theorem dX4_with_17 : decode cX4_with 17 = .ok (.ixor, 1) := by decide +kernel
theorem dX4_with_18 : decode cX4_with 18 = .ok (.iand, 1) := by decide +kernel
theorem dX4_with_19 : decode cX4_with 19 = .ok (.ireturn, 1) := by decide +kernel
theorem dX4_cipher_0 : decode cX4_cipher 0 = .ok (.iload_n 1, 1) := by decide +kernel
theorem dX4_cipher_1 : decode cX4_cipher 1 = .ok (.invokestatic 67, 3) := by decide +kernel
theorem dX4_cipher_4 : decode cX4_cipher 4 = .ok (.ifCond .eq 10, 3) := by decide +kernel
theorem dX4_cipher_7 : decode cX4_cipher 7 = .ok (.iload_n 2, 1) := by decide +kernel
theorem dX4_cipher_8 : decode cX4_cipher 8 = .ok (.invokestatic 84, 3) := by decide +kernel
theorem dX4_cipher_11 : decode cX4_cipher 11 = .ok (.ifCond .ne 6, 3) := by decide +kernel
theorem dX4_cipher_14 : decode cX4_cipher 14 = .ok (.ldc 71, 2) := by decide +kernel
theorem dX4_cipher_16 : decode cX4_cipher 16 = .ok (.ireturn, 1) := by decide +kernel
theorem dX4_cipher_17 : decode cX4_cipher 17 = .ok (.aload_n 0, 1) := by decide +kernel
theorem dX4_cipher_18 : decode cX4_cipher 18 = .ok (.getfield 7, 3) := by decide +kernel
theorem dX4_cipher_21 : decode cX4_cipher 21 = .ok (.sipush 256, 3) := by decide +kernel
theorem dX4_cipher_24 : decode cX4_cipher 24 = .ok (.iload_n 1, 1) := by decide +kernel
theorem dX4_cipher_25 : decode cX4_cipher 25 = .ok (.iadd, 1) := by decide +kernel
theorem dX4_cipher_26 : decode cX4_cipher 26 = .ok (.iaload, 1) := by decide +kernel
theorem dX4_cipher_27 : decode cX4_cipher 27 = .ok (.iload_n 2, 1) := by decide +kernel
theorem dX4_cipher_28 : decode cX4_cipher 28 = .ok (.ishr, 1) := by decide +kernel
theorem dX4_cipher_29 : decode cX4_cipher 29 = .ok (.iconst 1, 1) := by decide +kernel
theorem dX4_cipher_30 : decode cX4_cipher 30 = .ok (.iand, 1) := by decide +kernel
theorem dX4_cipher_31 : decode cX4_cipher 31 = .ok (.iconst 1, 1) := by decide +kernel
theorem dX4_cipher_32 : decode cX4_cipher 32 = .ok (.if_icmp .ne 7, 3) := by decide +kernel
theorem dX4_cipher_35 : decode cX4_cipher 35 = .ok (.iconst 1, 1) := by decide +kernel
theorem dX4_cipher_36 : decode cX4_cipher 36 = .ok (.goto 4, 3) := by decide +kernel
theorem dX4_cipher_39 : decode cX4_cipher 39 = .ok (.iconst 0, 1) := by decide +kernel
theorem dX4_cipher_40 : decode cX4_cipher 40 = .ok (.istore 4, 2) := by decide +kernel
theorem dX4_cipher_42 : decode cX4_cipher 42 = .ok (.iload_n 3, 1) := by decide +kernel
theorem dX4_cipher_43 : decode cX4_cipher 43 = .ok (.ifCond .eq 20, 3) := by decide +kernel
theorem dX4_cipher_46 : decode cX4_cipher 46 = .ok (.iload 4, 2) := by decide +kernel
theorem dX4_cipher_48 : decode cX4_cipher 48 = .ok (.ifCond .ne 15, 3) := by decide +kernel
theorem dX4_cipher_51 : decode cX4_cipher 51 = .ok (.aload_n 0, 1) := by decide +kernel
theorem dX4_cipher_52 : decode cX4_cipher 52 = .ok (.invokevirtual 87, 3) := by decide +kernel
theorem dX4_cipher_55 : decode cX4_cipher 55 = .ok (.bipush 6, 2) := by decide +kernel
theorem dX4_cipher_57 : decode cX4_cipher 57 = .ok (.if_icmp .ne 6, 3) := by decide +kernel
theorem dX4_cipher_60 : decode cX4_cipher 60 = .ok (.ldc 91, 2) := by decide +kernel
theorem dX4_cipher_62 : decode cX4_cipher 62 = .ok (.ireturn, 1) := by decide +kernel
theorem dX4_cipher_63 : decode cX4_cipher 63 = .ok (.aload_n 0, 1) := by decide +kernel
theorem dX4_cipher_64 : decode cX4_cipher 64 = .ok (.invokevirtual 73, 3) := by decide +kernel
theorem dX4_cipher_67 : decode cX4_cipher 67 = .ok (.aload_n 0, 1) := by decide +kernel
theorem dX4_cipher_68 : decode cX4_cipher 68 = .ok (.getfield 7, 3) := by decide +kernel
theorem dX4_cipher_71 : decode cX4_cipher 71 = .ok (.sipush 256, 3) := by decide +kernel
theorem dX4_cipher_74 : decode cX4_cipher 74 = .ok (.iload_n 1, 1) := by decide +kernel
theorem dX4_cipher_75 : decode cX4_cipher 75 = .ok (.iadd, 1) := by decide +kernel
theorem dX4_cipher_76 : decode cX4_cipher 76 = .ok (.aload_n 0, 1) := by decide +kernel
theorem dX4_cipher_77 : decode cX4_cipher 77 = .ok (.getfield 7, 3) := by decide +kernel
theorem dX4_cipher_80 : decode cX4_cipher 80 = .ok (.sipush 256, 3) := by decide +kernel
theorem dX4_cipher_83 : decode cX4_cipher 83 = .ok (.iload_n 1, 1) := by decide +kernel
theorem dX4_cipher_84 : decode cX4_cipher 84 = .ok (.iadd, 1) := by decide +kernel
theorem dX4_cipher_85 : decode cX4_cipher 85 = .ok (.iaload, 1) := by decide +kernel
theorem dX4_cipher_86 : decode cX4_cipher 86 = .ok (.iload_n 2, 1) := by decide +kernel
theorem dX4_cipher_87 : decode cX4_cipher 87 = .ok (.iload_n 3, 1) := by decide +kernel
theorem dX4_cipher_88 : decode cX4_cipher 88 = .ok (.invokestatic 92, 3) := by decide +kernel
theorem dX4_cipher_91 : decode cX4_cipher 91 = .ok (.iastore, 1) := by decide +kernel
theorem dX4_cipher_92 : decode cX4_cipher 92 = .ok (.aload_n 0, 1) := by decide +kernel
theorem dX4_cipher_93 : decode cX4_cipher 93 = .ok (.invokevirtual 87, 3) := by decide +kernel
theorem dX4_cipher_96 : decode cX4_cipher 96 = .ok (.ireturn, 1) := by decide +kernel
theorem dX4_drawn_0 : decode cX4_drawn 0 = .ok (.iconst 0, 1) := by decide +kernel
theorem dX4_drawn_1 : decode cX4_drawn 1 = .ok (.istore_n 1, 1) := by decide +kernel
theorem dX4_drawn_2 : decode cX4_drawn 2 = .ok (.iconst 0, 1) := by decide +kernel
theorem dX4_drawn_3 : decode cX4_drawn 3 = .ok (.istore_n 2, 1) := by decide +kernel
theorem dX4_drawn_4 : decode cX4_drawn 4 = .ok (.iload_n 2, 1) := by decide +kernel
theorem dX4_drawn_5 : decode cX4_drawn 5 = .ok (.bipush 8, 2) := by decide +kernel
theorem dX4_drawn_7 : decode cX4_drawn 7 = .ok (.if_icmp .ge 27, 3) := by decide +kernel
theorem dX4_drawn_10 : decode cX4_drawn 10 = .ok (.iload_n 1, 1) := by decide +kernel
theorem dX4_drawn_11 : decode cX4_drawn 11 = .ok (.aload_n 0, 1) := by decide +kernel
theorem dX4_drawn_12 : decode cX4_drawn 12 = .ok (.getfield 7, 3) := by decide +kernel
theorem dX4_drawn_15 : decode cX4_drawn 15 = .ok (.bipush 24, 2) := by decide +kernel
theorem dX4_drawn_17 : decode cX4_drawn 17 = .ok (.iconst 5, 1) := by decide +kernel
theorem dX4_drawn_18 : decode cX4_drawn 18 = .ok (.iload_n 2, 1) := by decide +kernel
theorem dX4_drawn_19 : decode cX4_drawn 19 = .ok (.imul, 1) := by decide +kernel
theorem dX4_drawn_20 : decode cX4_drawn 20 = .ok (.iadd, 1) := by decide +kernel
theorem dX4_drawn_21 : decode cX4_drawn 21 = .ok (.iconst 3, 1) := by decide +kernel
theorem dX4_drawn_22 : decode cX4_drawn 22 = .ok (.iadd, 1) := by decide +kernel
theorem dX4_drawn_23 : decode cX4_drawn 23 = .ok (.iaload, 1) := by decide +kernel
theorem dX4_drawn_24 : decode cX4_drawn 24 = .ok (.iload_n 2, 1) := by decide +kernel
theorem dX4_drawn_25 : decode cX4_drawn 25 = .ok (.ishl, 1) := by decide +kernel
theorem dX4_drawn_26 : decode cX4_drawn 26 = .ok (.ior, 1) := by decide +kernel
theorem dX4_drawn_27 : decode cX4_drawn 27 = .ok (.istore_n 1, 1) := by decide +kernel
theorem dX4_drawn_28 : decode cX4_drawn 28 = .ok (.iinc 2 1, 3) := by decide +kernel
theorem dX4_drawn_31 : decode cX4_drawn 31 = .ok (.goto (-27), 3) := by decide +kernel
theorem dX4_drawn_34 : decode cX4_drawn 34 = .ok (.iload_n 1, 1) := by decide +kernel
theorem dX4_drawn_35 : decode cX4_drawn 35 = .ok (.ireturn, 1) := by decide +kernel
theorem dX4_draws_0 : decode cX4_draws 0 = .ok (.aload_n 0, 1) := by decide +kernel
theorem dX4_draws_1 : decode cX4_draws 1 = .ok (.getfield 7, 3) := by decide +kernel
theorem dX4_draws_4 : decode cX4_draws 4 = .ok (.bipush 24, 2) := by decide +kernel
theorem dX4_draws_6 : decode cX4_draws 6 = .ok (.iconst 5, 1) := by decide +kernel
theorem dX4_draws_7 : decode cX4_draws 7 = .ok (.iload_n 1, 1) := by decide +kernel
theorem dX4_draws_8 : decode cX4_draws 8 = .ok (.imul, 1) := by decide +kernel
theorem dX4_draws_9 : decode cX4_draws 9 = .ok (.iadd, 1) := by decide +kernel
theorem dX4_draws_10 : decode cX4_draws 10 = .ok (.iconst 3, 1) := by decide +kernel
theorem dX4_draws_11 : decode cX4_draws 11 = .ok (.iadd, 1) := by decide +kernel
theorem dX4_draws_12 : decode cX4_draws 12 = .ok (.iload_n 2, 1) := by decide +kernel
theorem dX4_draws_13 : decode cX4_draws 13 = .ok (.ifCond .eq 7, 3) := by decide +kernel
theorem dX4_draws_16 : decode cX4_draws 16 = .ok (.iconst 1, 1) := by decide +kernel
theorem dX4_draws_17 : decode cX4_draws 17 = .ok (.goto 4, 3) := by decide +kernel
theorem dX4_draws_20 : decode cX4_draws 20 = .ok (.iconst 0, 1) := by decide +kernel
theorem dX4_draws_21 : decode cX4_draws 21 = .ok (.iastore, 1) := by decide +kernel
theorem dX4_draws_22 : decode cX4_draws 22 = .ok (.aload_n 0, 1) := by decide +kernel
theorem dX4_draws_23 : decode cX4_draws 23 = .ok (.invokevirtual 96, 3) := by decide +kernel
theorem dX4_draws_26 : decode cX4_draws 26 = .ok (.invokestatic 80, 3) := by decide +kernel
theorem dX4_draws_29 : decode cX4_draws 29 = .ok (.ireturn, 1) := by decide +kernel
theorem dX4_draw_0 : decode cX4_draw 0 = .ok (.iload_n 1, 1) := by decide +kernel
theorem dX4_draw_1 : decode cX4_draw 1 = .ok (.invokestatic 67, 3) := by decide +kernel
theorem dX4_draw_4 : decode cX4_draw 4 = .ok (.ifCond .ne 6, 3) := by decide +kernel
theorem dX4_draw_7 : decode cX4_draw 7 = .ok (.ldc 71, 2) := by decide +kernel
theorem dX4_draw_9 : decode cX4_draw 9 = .ok (.ireturn, 1) := by decide +kernel
theorem dX4_draw_10 : decode cX4_draw 10 = .ok (.aload_n 0, 1) := by decide +kernel
theorem dX4_draw_11 : decode cX4_draw 11 = .ok (.invokevirtual 73, 3) := by decide +kernel
theorem dX4_draw_14 : decode cX4_draw 14 = .ok (.aload_n 0, 1) := by decide +kernel
theorem dX4_draw_15 : decode cX4_draw 15 = .ok (.iload_n 1, 1) := by decide +kernel
theorem dX4_draw_16 : decode cX4_draw 16 = .ok (.iload_n 2, 1) := by decide +kernel
theorem dX4_draw_17 : decode cX4_draw 17 = .ok (.invokevirtual 99, 3) := by decide +kernel
theorem dX4_draw_20 : decode cX4_draw 20 = .ok (.ireturn, 1) := by decide +kernel
theorem dX4_presses_0 : decode cX4_presses 0 = .ok (.aload_n 0, 1) := by decide +kernel
theorem dX4_presses_1 : decode cX4_presses 1 = .ok (.getfield 7, 3) := by decide +kernel
theorem dX4_presses_4 : decode cX4_presses 4 = .ok (.bipush 11, 2) := by decide +kernel
theorem dX4_presses_6 : decode cX4_presses 6 = .ok (.iload_n 1, 1) := by decide +kernel
theorem dX4_presses_7 : decode cX4_presses 7 = .ok (.iadd, 1) := by decide +kernel
theorem dX4_presses_8 : decode cX4_presses 8 = .ok (.aload_n 0, 1) := by decide +kernel
theorem dX4_presses_9 : decode cX4_presses 9 = .ok (.getfield 7, 3) := by decide +kernel
theorem dX4_presses_12 : decode cX4_presses 12 = .ok (.bipush 11, 2) := by decide +kernel
theorem dX4_presses_14 : decode cX4_presses 14 = .ok (.iload_n 1, 1) := by decide +kernel
theorem dX4_presses_15 : decode cX4_presses 15 = .ok (.iadd, 1) := by decide +kernel
theorem dX4_presses_16 : decode cX4_presses 16 = .ok (.iaload, 1) := by decide +kernel
theorem dX4_presses_17 : decode cX4_presses 17 = .ok (.iload_n 2, 1) := by decide +kernel
theorem dX4_presses_18 : decode cX4_presses 18 = .ok (.iload_n 3, 1) := by decide +kernel
theorem dX4_presses_19 : decode cX4_presses 19 = .ok (.invokestatic 92, 3) := by decide +kernel
theorem dX4_presses_22 : decode cX4_presses 22 = .ok (.iastore, 1) := by decide +kernel
theorem dX4_presses_23 : decode cX4_presses 23 = .ok (.aload_n 0, 1) := by decide +kernel
theorem dX4_presses_24 : decode cX4_presses 24 = .ok (.getfield 7, 3) := by decide +kernel
theorem dX4_presses_27 : decode cX4_presses 27 = .ok (.bipush 11, 2) := by decide +kernel
theorem dX4_presses_29 : decode cX4_presses 29 = .ok (.iload_n 1, 1) := by decide +kernel
theorem dX4_presses_30 : decode cX4_presses 30 = .ok (.iadd, 1) := by decide +kernel
theorem dX4_presses_31 : decode cX4_presses 31 = .ok (.iaload, 1) := by decide +kernel
theorem dX4_presses_32 : decode cX4_presses 32 = .ok (.invokestatic 80, 3) := by decide +kernel
theorem dX4_presses_35 : decode cX4_presses 35 = .ok (.ireturn, 1) := by decide +kernel
theorem dX4_press_0 : decode cX4_press 0 = .ok (.iload_n 1, 1) := by decide +kernel
theorem dX4_press_1 : decode cX4_press 1 = .ok (.iconst 0, 1) := by decide +kernel
theorem dX4_press_2 : decode cX4_press 2 = .ok (.iconst 1, 1) := by decide +kernel
theorem dX4_press_3 : decode cX4_press 3 = .ok (.invokestatic 59, 3) := by decide +kernel
theorem dX4_press_6 : decode cX4_press 6 = .ok (.ifCond .eq 10, 3) := by decide +kernel
theorem dX4_press_9 : decode cX4_press 9 = .ok (.iload_n 2, 1) := by decide +kernel
theorem dX4_press_10 : decode cX4_press 10 = .ok (.invokestatic 84, 3) := by decide +kernel
theorem dX4_press_13 : decode cX4_press 13 = .ok (.ifCond .ne 6, 3) := by decide +kernel
theorem dX4_press_16 : decode cX4_press 16 = .ok (.ldc 71, 2) := by decide +kernel
theorem dX4_press_18 : decode cX4_press 18 = .ok (.ireturn, 1) := by decide +kernel
theorem dX4_press_19 : decode cX4_press 19 = .ok (.aload_n 0, 1) := by decide +kernel
theorem dX4_press_20 : decode cX4_press 20 = .ok (.invokevirtual 73, 3) := by decide +kernel
theorem dX4_press_23 : decode cX4_press 23 = .ok (.aload_n 0, 1) := by decide +kernel
theorem dX4_press_24 : decode cX4_press 24 = .ok (.iload_n 1, 1) := by decide +kernel
theorem dX4_press_25 : decode cX4_press 25 = .ok (.iload_n 2, 1) := by decide +kernel
theorem dX4_press_26 : decode cX4_press 26 = .ok (.iload_n 3, 1) := by decide +kernel
theorem dX4_press_27 : decode cX4_press 27 = .ok (.invokevirtual 103, 3) := by decide +kernel
theorem dX4_press_30 : decode cX4_press 30 = .ok (.ireturn, 1) := by decide +kernel
theorem dX4_couple_0 : decode cX4_couple 0 = .ok (.aload_n 0, 1) := by decide +kernel
theorem dX4_couple_1 : decode cX4_couple 1 = .ok (.invokevirtual 73, 3) := by decide +kernel
theorem dX4_couple_4 : decode cX4_couple 4 = .ok (.aload_n 0, 1) := by decide +kernel
theorem dX4_couple_5 : decode cX4_couple 5 = .ok (.bipush 10, 2) := by decide +kernel
theorem dX4_couple_7 : decode cX4_couple 7 = .ok (.iload_n 1, 1) := by decide +kernel
theorem dX4_couple_8 : decode cX4_couple 8 = .ok (.ifCond .eq 7, 3) := by decide +kernel
theorem dX4_couple_11 : decode cX4_couple 11 = .ok (.iconst 1, 1) := by decide +kernel
theorem dX4_couple_12 : decode cX4_couple 12 = .ok (.goto 4, 3) := by decide +kernel
theorem dX4_couple_15 : decode cX4_couple 15 = .ok (.iconst 0, 1) := by decide +kernel
theorem dX4_couple_16 : decode cX4_couple 16 = .ok (.iload_n 2, 1) := by decide +kernel
theorem dX4_couple_17 : decode cX4_couple 17 = .ok (.ifCond .eq 7, 3) := by decide +kernel
theorem dX4_couple_20 : decode cX4_couple 20 = .ok (.iconst 2, 1) := by decide +kernel
theorem dX4_couple_21 : decode cX4_couple 21 = .ok (.goto 4, 3) := by decide +kernel
theorem dX4_couple_24 : decode cX4_couple 24 = .ok (.iconst 0, 1) := by decide +kernel
theorem dX4_couple_25 : decode cX4_couple 25 = .ok (.iadd, 1) := by decide +kernel
theorem dX4_couple_26 : decode cX4_couple 26 = .ok (.invokevirtual 76, 3) := by decide +kernel
theorem dX4_couple_29 : decode cX4_couple 29 = .ok (.ireturn, 1) := by decide +kernel
theorem dX4_acts_0 : decode cX4_acts 0 = .ok (.iload_n 1, 1) := by decide +kernel
theorem dX4_acts_1 : decode cX4_acts 1 = .ok (.ifCond .eq 13, 3) := by decide +kernel
theorem dX4_acts_4 : decode cX4_acts 4 = .ok (.aload_n 0, 1) := by decide +kernel
theorem dX4_acts_5 : decode cX4_acts 5 = .ok (.getfield 7, 3) := by decide +kernel
theorem dX4_acts_8 : decode cX4_acts 8 = .ok (.bipush 11, 2) := by decide +kernel
theorem dX4_acts_10 : decode cX4_acts 10 = .ok (.iaload, 1) := by decide +kernel
theorem dX4_acts_11 : decode cX4_acts 11 = .ok (.goto 4, 3) := by decide +kernel
theorem dX4_acts_14 : decode cX4_acts 14 = .ok (.iconst 0, 1) := by decide +kernel
theorem dX4_acts_15 : decode cX4_acts 15 = .ok (.istore_n 2, 1) := by decide +kernel
theorem dX4_acts_16 : decode cX4_acts 16 = .ok (.iload_n 1, 1) := by decide +kernel
theorem dX4_acts_17 : decode cX4_acts 17 = .ok (.ifCond .eq 13, 3) := by decide +kernel
theorem dX4_acts_20 : decode cX4_acts 20 = .ok (.aload_n 0, 1) := by decide +kernel
theorem dX4_acts_21 : decode cX4_acts 21 = .ok (.getfield 7, 3) := by decide +kernel
theorem dX4_acts_24 : decode cX4_acts 24 = .ok (.bipush 12, 2) := by decide +kernel
theorem dX4_acts_26 : decode cX4_acts 26 = .ok (.iaload, 1) := by decide +kernel
theorem dX4_acts_27 : decode cX4_acts 27 = .ok (.goto 4, 3) := by decide +kernel
theorem dX4_acts_30 : decode cX4_acts 30 = .ok (.iconst 0, 1) := by decide +kernel
theorem dX4_acts_31 : decode cX4_acts 31 = .ok (.istore_n 3, 1) := by decide +kernel
theorem dX4_acts_32 : decode cX4_acts 32 = .ok (.aload_n 0, 1) := by decide +kernel
theorem dX4_acts_33 : decode cX4_acts 33 = .ok (.getfield 38, 3) := by decide +kernel
theorem dX4_acts_36 : decode cX4_acts 36 = .ok (.iconst 0, 1) := by decide +kernel
theorem dX4_acts_37 : decode cX4_acts 37 = .ok (.iload_n 2, 1) := by decide +kernel
theorem dX4_acts_38 : decode cX4_acts 38 = .ok (.aload_n 0, 1) := by decide +kernel
theorem dX4_acts_39 : decode cX4_acts 39 = .ok (.getfield 7, 3) := by decide +kernel
theorem dX4_acts_42 : decode cX4_acts 42 = .ok (.bipush 10, 2) := by decide +kernel
theorem dX4_acts_44 : decode cX4_acts 44 = .ok (.iaload, 1) := by decide +kernel
theorem dX4_acts_45 : decode cX4_acts 45 = .ok (.iconst 2, 1) := by decide +kernel
theorem dX4_acts_46 : decode cX4_acts 46 = .ok (.iand, 1) := by decide +kernel
theorem dX4_acts_47 : decode cX4_acts 47 = .ok (.iconst 2, 1) := by decide +kernel
theorem dX4_acts_48 : decode cX4_acts 48 = .ok (.if_icmp .ne 10, 3) := by decide +kernel
theorem dX4_acts_51 : decode cX4_acts 51 = .ok (.iload_n 2, 1) := by decide +kernel
theorem dX4_acts_52 : decode cX4_acts 52 = .ok (.bipush 12, 2) := by decide +kernel
theorem dX4_acts_54 : decode cX4_acts 54 = .ok (.ishl, 1) := by decide +kernel
theorem dX4_acts_55 : decode cX4_acts 55 = .ok (.goto 4, 3) := by decide +kernel
theorem dX4_acts_58 : decode cX4_acts 58 = .ok (.iconst 0, 1) := by decide +kernel
theorem dX4_acts_59 : decode cX4_acts 59 = .ok (.ior, 1) := by decide +kernel
theorem dX4_acts_60 : decode cX4_acts 60 = .ok (.ldc 106, 2) := by decide +kernel
theorem dX4_acts_62 : decode cX4_acts 62 = .ok (.iand, 1) := by decide +kernel
theorem dX4_acts_63 : decode cX4_acts 63 = .ok (.iastore, 1) := by decide +kernel
theorem dX4_acts_64 : decode cX4_acts 64 = .ok (.aload_n 0, 1) := by decide +kernel
theorem dX4_acts_65 : decode cX4_acts 65 = .ok (.getfield 38, 3) := by decide +kernel
theorem dX4_acts_68 : decode cX4_acts 68 = .ok (.iconst 1, 1) := by decide +kernel
theorem dX4_acts_69 : decode cX4_acts 69 = .ok (.iload_n 3, 1) := by decide +kernel
theorem dX4_acts_70 : decode cX4_acts 70 = .ok (.aload_n 0, 1) := by decide +kernel
theorem dX4_acts_71 : decode cX4_acts 71 = .ok (.getfield 7, 3) := by decide +kernel
theorem dX4_acts_74 : decode cX4_acts 74 = .ok (.bipush 10, 2) := by decide +kernel
theorem dX4_acts_76 : decode cX4_acts 76 = .ok (.iaload, 1) := by decide +kernel
theorem dX4_acts_77 : decode cX4_acts 77 = .ok (.iconst 1, 1) := by decide +kernel
theorem dX4_acts_78 : decode cX4_acts 78 = .ok (.iand, 1) := by decide +kernel
theorem dX4_acts_79 : decode cX4_acts 79 = .ok (.iconst 1, 1) := by decide +kernel
theorem dX4_acts_80 : decode cX4_acts 80 = .ok (.if_icmp .ne 12, 3) := by decide +kernel
theorem dX4_acts_83 : decode cX4_acts 83 = .ok (.aload_n 0, 1) := by decide +kernel
theorem dX4_acts_84 : decode cX4_acts 84 = .ok (.getfield 38, 3) := by decide +kernel
theorem dX4_acts_87 : decode cX4_acts 87 = .ok (.iconst 0, 1) := by decide +kernel
theorem dX4_acts_88 : decode cX4_acts 88 = .ok (.iaload, 1) := by decide +kernel
theorem dX4_acts_89 : decode cX4_acts 89 = .ok (.goto 4, 3) := by decide +kernel
theorem dX4_acts_92 : decode cX4_acts 92 = .ok (.iconst 0, 1) := by decide +kernel
theorem dX4_acts_93 : decode cX4_acts 93 = .ok (.ior, 1) := by decide +kernel
theorem dX4_acts_94 : decode cX4_acts 94 = .ok (.iastore, 1) := by decide +kernel
theorem dX4_acts_95 : decode cX4_acts 95 = .ok (.return_, 1) := by decide +kernel
theorem dX4_need_0 : decode cX4_need 0 = .ok (.aload_n 0, 1) := by decide +kernel
theorem dX4_need_1 : decode cX4_need 1 = .ok (.getfield 7, 3) := by decide +kernel
theorem dX4_need_4 : decode cX4_need 4 = .ok (.bipush 24, 2) := by decide +kernel
theorem dX4_need_6 : decode cX4_need 6 = .ok (.iconst 5, 1) := by decide +kernel
theorem dX4_need_7 : decode cX4_need 7 = .ok (.iload_n 1, 1) := by decide +kernel
theorem dX4_need_8 : decode cX4_need 8 = .ok (.imul, 1) := by decide +kernel
theorem dX4_need_9 : decode cX4_need 9 = .ok (.iadd, 1) := by decide +kernel
theorem dX4_need_10 : decode cX4_need 10 = .ok (.iconst 1, 1) := by decide +kernel
theorem dX4_need_11 : decode cX4_need 11 = .ok (.iadd, 1) := by decide +kernel
theorem dX4_need_12 : decode cX4_need 12 = .ok (.iaload, 1) := by decide +kernel
theorem dX4_need_13 : decode cX4_need 13 = .ok (.bipush 23, 2) := by decide +kernel
theorem dX4_need_15 : decode cX4_need 15 = .ok (.iload_n 2, 1) := by decide +kernel
theorem dX4_need_16 : decode cX4_need 16 = .ok (.isub, 1) := by decide +kernel
theorem dX4_need_17 : decode cX4_need 17 = .ok (.iconst 4, 1) := by decide +kernel
theorem dX4_need_18 : decode cX4_need 18 = .ok (.idiv, 1) := by decide +kernel
theorem dX4_need_19 : decode cX4_need 19 = .ok (.iadd, 1) := by decide +kernel
theorem dX4_need_20 : decode cX4_need 20 = .ok (.ireturn, 1) := by decide +kernel
theorem dX4_reservoir_0 : decode cX4_reservoir 0 = .ok (.aload_n 0, 1) := by decide +kernel
theorem dX4_reservoir_1 : decode cX4_reservoir 1 = .ok (.getfield 7, 3) := by decide +kernel
theorem dX4_reservoir_4 : decode cX4_reservoir 4 = .ok (.iconst 0, 1) := by decide +kernel
theorem dX4_reservoir_5 : decode cX4_reservoir 5 = .ok (.iaload, 1) := by decide +kernel
theorem dX4_reservoir_6 : decode cX4_reservoir 6 = .ok (.aload_n 0, 1) := by decide +kernel
theorem dX4_reservoir_7 : decode cX4_reservoir 7 = .ok (.getfield 7, 3) := by decide +kernel
theorem dX4_reservoir_10 : decode cX4_reservoir 10 = .ok (.iconst 4, 1) := by decide +kernel
theorem dX4_reservoir_11 : decode cX4_reservoir 11 = .ok (.iaload, 1) := by decide +kernel
theorem dX4_reservoir_12 : decode cX4_reservoir 12 = .ok (.if_icmp .lt 12, 3) := by decide +kernel
theorem dX4_reservoir_15 : decode cX4_reservoir 15 = .ok (.aload_n 0, 1) := by decide +kernel
theorem dX4_reservoir_16 : decode cX4_reservoir 16 = .ok (.getfield 7, 3) := by decide +kernel
theorem dX4_reservoir_19 : decode cX4_reservoir 19 = .ok (.iconst 1, 1) := by decide +kernel
theorem dX4_reservoir_20 : decode cX4_reservoir 20 = .ok (.iaload, 1) := by decide +kernel
theorem dX4_reservoir_21 : decode cX4_reservoir 21 = .ok (.goto 23, 3) := by decide +kernel
theorem dX4_reservoir_24 : decode cX4_reservoir 24 = .ok (.aload_n 0, 1) := by decide +kernel
theorem dX4_reservoir_25 : decode cX4_reservoir 25 = .ok (.getfield 7, 3) := by decide +kernel
theorem dX4_reservoir_28 : decode cX4_reservoir 28 = .ok (.iconst 1, 1) := by decide +kernel
theorem dX4_reservoir_29 : decode cX4_reservoir 29 = .ok (.iaload, 1) := by decide +kernel
theorem dX4_reservoir_30 : decode cX4_reservoir 30 = .ok (.aload_n 0, 1) := by decide +kernel
theorem dX4_reservoir_31 : decode cX4_reservoir 31 = .ok (.getfield 7, 3) := by decide +kernel
theorem dX4_reservoir_34 : decode cX4_reservoir 34 = .ok (.iconst 0, 1) := by decide +kernel
theorem dX4_reservoir_35 : decode cX4_reservoir 35 = .ok (.iaload, 1) := by decide +kernel
theorem dX4_reservoir_36 : decode cX4_reservoir 36 = .ok (.imul, 1) := by decide +kernel
theorem dX4_reservoir_37 : decode cX4_reservoir 37 = .ok (.aload_n 0, 1) := by decide +kernel
theorem dX4_reservoir_38 : decode cX4_reservoir 38 = .ok (.getfield 7, 3) := by decide +kernel
theorem dX4_reservoir_41 : decode cX4_reservoir 41 = .ok (.iconst 4, 1) := by decide +kernel
theorem dX4_reservoir_42 : decode cX4_reservoir 42 = .ok (.iaload, 1) := by decide +kernel
theorem dX4_reservoir_43 : decode cX4_reservoir 43 = .ok (.idiv, 1) := by decide +kernel
theorem dX4_reservoir_44 : decode cX4_reservoir 44 = .ok (.ireturn, 1) := by decide +kernel
theorem dX4_lays_0 : decode cX4_lays 0 = .ok (.aload_n 0, 1) := by decide +kernel
theorem dX4_lays_1 : decode cX4_lays 1 = .ok (.iload_n 2, 1) := by decide +kernel
theorem dX4_lays_2 : decode cX4_lays 2 = .ok (.invokevirtual 107, 3) := by decide +kernel
theorem dX4_lays_5 : decode cX4_lays 5 = .ok (.aload_n 0, 1) := by decide +kernel
theorem dX4_lays_6 : decode cX4_lays 6 = .ok (.getfield 44, 3) := by decide +kernel
theorem dX4_lays_9 : decode cX4_lays 9 = .ok (.iconst 0, 1) := by decide +kernel
theorem dX4_lays_10 : decode cX4_lays 10 = .ok (.iconst 0, 1) := by decide +kernel
theorem dX4_lays_11 : decode cX4_lays 11 = .ok (.iastore, 1) := by decide +kernel
theorem dX4_lays_12 : decode cX4_lays 12 = .ok (.aload_n 0, 1) := by decide +kernel
theorem dX4_lays_13 : decode cX4_lays 13 = .ok (.getfield 44, 3) := by decide +kernel
theorem dX4_lays_16 : decode cX4_lays 16 = .ok (.iconst 1, 1) := by decide +kernel
theorem dX4_lays_17 : decode cX4_lays 17 = .ok (.iconst 0, 1) := by decide +kernel
theorem dX4_lays_18 : decode cX4_lays 18 = .ok (.iastore, 1) := by decide +kernel
theorem dX4_lays_19 : decode cX4_lays 19 = .ok (.iconst 0, 1) := by decide +kernel
theorem dX4_lays_20 : decode cX4_lays 20 = .ok (.istore_n 3, 1) := by decide +kernel
theorem dX4_lays_21 : decode cX4_lays 21 = .ok (.iload_n 3, 1) := by decide +kernel
theorem dX4_lays_22 : decode cX4_lays 22 = .ok (.bipush 8, 2) := by decide +kernel
theorem dX4_lays_24 : decode cX4_lays 24 = .ok (.if_icmp .ge 111, 3) := by decide +kernel
theorem dX4_lays_27 : decode cX4_lays 27 = .ok (.aload_n 0, 1) := by decide +kernel
theorem dX4_lays_28 : decode cX4_lays 28 = .ok (.getfield 7, 3) := by decide +kernel
theorem dX4_lays_31 : decode cX4_lays 31 = .ok (.bipush 24, 2) := by decide +kernel
theorem dX4_lays_33 : decode cX4_lays 33 = .ok (.iconst 5, 1) := by decide +kernel
theorem dX4_lays_34 : decode cX4_lays 34 = .ok (.iload_n 3, 1) := by decide +kernel
theorem dX4_lays_35 : decode cX4_lays 35 = .ok (.imul, 1) := by decide +kernel
theorem dX4_lays_36 : decode cX4_lays 36 = .ok (.iadd, 1) := by decide +kernel
theorem dX4_lays_37 : decode cX4_lays 37 = .ok (.iaload, 1) := by decide +kernel
theorem dX4_lays_38 : decode cX4_lays 38 = .ok (.istore 4, 2) := by decide +kernel
theorem dX4_lays_40 : decode cX4_lays 40 = .ok (.aload_n 0, 1) := by decide +kernel
theorem dX4_lays_41 : decode cX4_lays 41 = .ok (.getfield 41, 3) := by decide +kernel
theorem dX4_lays_44 : decode cX4_lays 44 = .ok (.iload_n 3, 1) := by decide +kernel
theorem dX4_lays_45 : decode cX4_lays 45 = .ok (.iload_n 1, 1) := by decide +kernel
theorem dX4_lays_46 : decode cX4_lays 46 = .ok (.iload_n 3, 1) := by decide +kernel
theorem dX4_lays_47 : decode cX4_lays 47 = .ok (.ishr, 1) := by decide +kernel
theorem dX4_lays_48 : decode cX4_lays 48 = .ok (.iconst 1, 1) := by decide +kernel
theorem dX4_lays_49 : decode cX4_lays 49 = .ok (.iand, 1) := by decide +kernel
theorem dX4_lays_50 : decode cX4_lays 50 = .ok (.iconst 1, 1) := by decide +kernel
theorem dX4_lays_51 : decode cX4_lays 51 = .ok (.if_icmp .ne 24, 3) := by decide +kernel
theorem dX4_lays_54 : decode cX4_lays 54 = .ok (.aload_n 0, 1) := by decide +kernel
theorem dX4_lays_55 : decode cX4_lays 55 = .ok (.getfield 38, 3) := by decide +kernel
theorem dX4_lays_58 : decode cX4_lays 58 = .ok (.iload 4, 2) := by decide +kernel
theorem dX4_lays_60 : decode cX4_lays 60 = .ok (.iaload, 1) := by decide +kernel
theorem dX4_lays_61 : decode cX4_lays 61 = .ok (.aload_n 0, 1) := by decide +kernel
theorem dX4_lays_62 : decode cX4_lays 62 = .ok (.getfield 7, 3) := by decide +kernel
theorem dX4_lays_65 : decode cX4_lays 65 = .ok (.sipush 256, 3) := by decide +kernel
theorem dX4_lays_68 : decode cX4_lays 68 = .ok (.iload_n 3, 1) := by decide +kernel
theorem dX4_lays_69 : decode cX4_lays 69 = .ok (.iadd, 1) := by decide +kernel
theorem dX4_lays_70 : decode cX4_lays 70 = .ok (.iaload, 1) := by decide +kernel
theorem dX4_lays_71 : decode cX4_lays 71 = .ok (.ior, 1) := by decide +kernel
theorem dX4_lays_72 : decode cX4_lays 72 = .ok (.goto 4, 3) := by decide +kernel
theorem dX4_lays_75 : decode cX4_lays 75 = .ok (.iconst 0, 1) := by decide +kernel
theorem dX4_lays_76 : decode cX4_lays 76 = .ok (.iastore, 1) := by decide +kernel
theorem dX4_lays_77 : decode cX4_lays 77 = .ok (.iconst 0, 1) := by decide +kernel
theorem dX4_lays_78 : decode cX4_lays 78 = .ok (.istore 5, 2) := by decide +kernel
theorem dX4_lays_80 : decode cX4_lays 80 = .ok (.iload 5, 2) := by decide +kernel
theorem dX4_lays_82 : decode cX4_lays 82 = .ok (.bipush 24, 2) := by decide +kernel
theorem dX4_lays_84 : decode cX4_lays 84 = .ok (.if_icmp .ge 45, 3) := by decide +kernel
theorem dX4_lays_87 : decode cX4_lays 87 = .ok (.aload_n 0, 1) := by decide +kernel
theorem dX4_lays_88 : decode cX4_lays 88 = .ok (.getfield 44, 3) := by decide +kernel
theorem dX4_lays_91 : decode cX4_lays 91 = .ok (.iload 4, 2) := by decide +kernel
theorem dX4_lays_93 : decode cX4_lays 93 = .ok (.dup2, 1) := by decide +kernel
theorem dX4_lays_94 : decode cX4_lays 94 = .ok (.iaload, 1) := by decide +kernel
theorem dX4_lays_95 : decode cX4_lays 95 = .ok (.aload_n 0, 1) := by decide +kernel
theorem dX4_lays_96 : decode cX4_lays 96 = .ok (.getfield 41, 3) := by decide +kernel
theorem dX4_lays_99 : decode cX4_lays 99 = .ok (.iload_n 3, 1) := by decide +kernel
theorem dX4_lays_100 : decode cX4_lays 100 = .ok (.iaload, 1) := by decide +kernel
theorem dX4_lays_101 : decode cX4_lays 101 = .ok (.iload 5, 2) := by decide +kernel
theorem dX4_lays_103 : decode cX4_lays 103 = .ok (.ishr, 1) := by decide +kernel
theorem dX4_lays_104 : decode cX4_lays 104 = .ok (.iconst 1, 1) := by decide +kernel
theorem dX4_lays_105 : decode cX4_lays 105 = .ok (.iand, 1) := by decide +kernel
theorem dX4_lays_106 : decode cX4_lays 106 = .ok (.iconst 1, 1) := by decide +kernel
theorem dX4_lays_107 : decode cX4_lays 107 = .ok (.if_icmp .ne 13, 3) := by decide +kernel
theorem dX4_lays_110 : decode cX4_lays 110 = .ok (.aload_n 0, 1) := by decide +kernel
theorem dX4_lays_111 : decode cX4_lays 111 = .ok (.iload_n 3, 1) := by decide +kernel
theorem dX4_lays_112 : decode cX4_lays 112 = .ok (.iload 5, 2) := by decide +kernel
theorem dX4_lays_114 : decode cX4_lays 114 = .ok (.invokevirtual 111, 3) := by decide +kernel
theorem dX4_lays_117 : decode cX4_lays 117 = .ok (.goto 4, 3) := by decide +kernel
theorem dX4_lays_120 : decode cX4_lays 120 = .ok (.iconst 0, 1) := by decide +kernel
theorem dX4_lays_121 : decode cX4_lays 121 = .ok (.iadd, 1) := by decide +kernel
theorem dX4_lays_122 : decode cX4_lays 122 = .ok (.iastore, 1) := by decide +kernel
theorem dX4_lays_123 : decode cX4_lays 123 = .ok (.iinc 5 1, 3) := by decide +kernel
theorem dX4_lays_126 : decode cX4_lays 126 = .ok (.goto (-46), 3) := by decide +kernel
theorem dX4_lays_129 : decode cX4_lays 129 = .ok (.iinc 3 1, 3) := by decide +kernel
theorem dX4_lays_132 : decode cX4_lays 132 = .ok (.goto (-111), 3) := by decide +kernel
theorem dX4_lays_135 : decode cX4_lays 135 = .ok (.iconst 0, 1) := by decide +kernel
theorem dX4_lays_136 : decode cX4_lays 136 = .ok (.istore_n 3, 1) := by decide +kernel
theorem dX4_lays_137 : decode cX4_lays 137 = .ok (.iload_n 3, 1) := by decide +kernel
theorem dX4_lays_138 : decode cX4_lays 138 = .ok (.iconst 2, 1) := by decide +kernel
theorem dX4_lays_139 : decode cX4_lays 139 = .ok (.if_icmp .ge 51, 3) := by decide +kernel
theorem dX4_lays_142 : decode cX4_lays 142 = .ok (.aload_n 0, 1) := by decide +kernel
theorem dX4_lays_143 : decode cX4_lays 143 = .ok (.invokevirtual 114, 3) := by decide +kernel
theorem dX4_lays_146 : decode cX4_lays 146 = .ok (.aload_n 0, 1) := by decide +kernel
theorem dX4_lays_147 : decode cX4_lays 147 = .ok (.getfield 44, 3) := by decide +kernel
theorem dX4_lays_150 : decode cX4_lays 150 = .ok (.iload_n 3, 1) := by decide +kernel
theorem dX4_lays_151 : decode cX4_lays 151 = .ok (.iaload, 1) := by decide +kernel
theorem dX4_lays_152 : decode cX4_lays 152 = .ok (.aload_n 0, 1) := by decide +kernel
theorem dX4_lays_153 : decode cX4_lays 153 = .ok (.getfield 7, 3) := by decide +kernel
theorem dX4_lays_156 : decode cX4_lays 156 = .ok (.iconst 2, 1) := by decide +kernel
theorem dX4_lays_157 : decode cX4_lays 157 = .ok (.iload_n 3, 1) := by decide +kernel
theorem dX4_lays_158 : decode cX4_lays 158 = .ok (.iadd, 1) := by decide +kernel
theorem dX4_lays_159 : decode cX4_lays 159 = .ok (.iaload, 1) := by decide +kernel
theorem dX4_lays_160 : decode cX4_lays 160 = .ok (.imul, 1) := by decide +kernel
theorem dX4_lays_161 : decode cX4_lays 161 = .ok (.bipush 100, 2) := by decide +kernel
theorem dX4_lays_163 : decode cX4_lays 163 = .ok (.idiv, 1) := by decide +kernel
theorem dX4_lays_164 : decode cX4_lays 164 = .ok (.isub, 1) := by decide +kernel
theorem dX4_lays_165 : decode cX4_lays 165 = .ok (.istore 4, 2) := by decide +kernel
theorem dX4_lays_167 : decode cX4_lays 167 = .ok (.aload_n 0, 1) := by decide +kernel
theorem dX4_lays_168 : decode cX4_lays 168 = .ok (.getfield 47, 3) := by decide +kernel
theorem dX4_lays_171 : decode cX4_lays 171 = .ok (.iload_n 3, 1) := by decide +kernel
theorem dX4_lays_172 : decode cX4_lays 172 = .ok (.iload 4, 2) := by decide +kernel
theorem dX4_lays_174 : decode cX4_lays 174 = .ok (.ifCond .ge 7, 3) := by decide +kernel
theorem dX4_lays_177 : decode cX4_lays 177 = .ok (.iconst 0, 1) := by decide +kernel
theorem dX4_lays_178 : decode cX4_lays 178 = .ok (.goto 5, 3) := by decide +kernel
theorem dX4_lays_181 : decode cX4_lays 181 = .ok (.iload 4, 2) := by decide +kernel
theorem dX4_lays_183 : decode cX4_lays 183 = .ok (.iastore, 1) := by decide +kernel
theorem dX4_lays_184 : decode cX4_lays 184 = .ok (.iinc 3 1, 3) := by decide +kernel
theorem dX4_lays_187 : decode cX4_lays 187 = .ok (.goto (-50), 3) := by decide +kernel
theorem dX4_lays_190 : decode cX4_lays 190 = .ok (.aload_n 0, 1) := by decide +kernel
theorem dX4_lays_191 : decode cX4_lays 191 = .ok (.getfield 7, 3) := by decide +kernel
theorem dX4_lays_194 : decode cX4_lays 194 = .ok (.iconst 0, 1) := by decide +kernel
theorem dX4_lays_195 : decode cX4_lays 195 = .ok (.iaload, 1) := by decide +kernel
theorem dX4_lays_196 : decode cX4_lays 196 = .ok (.istore_n 3, 1) := by decide +kernel
theorem dX4_lays_197 : decode cX4_lays 197 = .ok (.iconst 0, 1) := by decide +kernel
theorem dX4_lays_198 : decode cX4_lays 198 = .ok (.istore 4, 2) := by decide +kernel
theorem dX4_lays_200 : decode cX4_lays 200 = .ok (.iload 4, 2) := by decide +kernel
theorem dX4_lays_202 : decode cX4_lays 202 = .ok (.bipush 8, 2) := by decide +kernel
theorem dX4_lays_204 : decode cX4_lays 204 = .ok (.if_icmp .ge 129, 3) := by decide +kernel
theorem dX4_lays_207 : decode cX4_lays 207 = .ok (.iconst 0, 1) := by decide +kernel
theorem dX4_lays_208 : decode cX4_lays 208 = .ok (.istore 5, 2) := by decide +kernel
theorem dX4_lays_210 : decode cX4_lays 210 = .ok (.iload 5, 2) := by decide +kernel
theorem dX4_lays_212 : decode cX4_lays 212 = .ok (.bipush 24, 2) := by decide +kernel
theorem dX4_lays_214 : decode cX4_lays 214 = .ok (.if_icmp .ge 113, 3) := by decide +kernel
theorem dX4_lays_217 : decode cX4_lays 217 = .ok (.aload_n 0, 1) := by decide +kernel
theorem dX4_lays_218 : decode cX4_lays 218 = .ok (.getfield 41, 3) := by decide +kernel
theorem dX4_lays_221 : decode cX4_lays 221 = .ok (.iload 4, 2) := by decide +kernel
theorem dX4_lays_223 : decode cX4_lays 223 = .ok (.iaload, 1) := by decide +kernel
theorem dX4_lays_224 : decode cX4_lays 224 = .ok (.iload 5, 2) := by decide +kernel
theorem dX4_lays_226 : decode cX4_lays 226 = .ok (.ishr, 1) := by decide +kernel
theorem dX4_lays_227 : decode cX4_lays 227 = .ok (.iconst 1, 1) := by decide +kernel
theorem dX4_lays_228 : decode cX4_lays 228 = .ok (.iand, 1) := by decide +kernel
theorem dX4_lays_229 : decode cX4_lays 229 = .ok (.iconst 1, 1) := by decide +kernel
theorem dX4_lays_230 : decode cX4_lays 230 = .ok (.if_icmp .ne 39, 3) := by decide +kernel
theorem dX4_lays_233 : decode cX4_lays 233 = .ok (.aload_n 0, 1) := by decide +kernel
theorem dX4_lays_234 : decode cX4_lays 234 = .ok (.iload 4, 2) := by decide +kernel
theorem dX4_lays_236 : decode cX4_lays 236 = .ok (.iload 5, 2) := by decide +kernel
theorem dX4_lays_238 : decode cX4_lays 238 = .ok (.invokevirtual 111, 3) := by decide +kernel
theorem dX4_lays_241 : decode cX4_lays 241 = .ok (.aload_n 0, 1) := by decide +kernel
theorem dX4_lays_242 : decode cX4_lays 242 = .ok (.getfield 47, 3) := by decide +kernel
theorem dX4_lays_245 : decode cX4_lays 245 = .ok (.aload_n 0, 1) := by decide +kernel
theorem dX4_lays_246 : decode cX4_lays 246 = .ok (.getfield 7, 3) := by decide +kernel
theorem dX4_lays_249 : decode cX4_lays 249 = .ok (.bipush 24, 2) := by decide +kernel
theorem dX4_lays_251 : decode cX4_lays 251 = .ok (.iconst 5, 1) := by decide +kernel
theorem dX4_lays_252 : decode cX4_lays 252 = .ok (.iload 4, 2) := by decide +kernel
theorem dX4_lays_254 : decode cX4_lays 254 = .ok (.imul, 1) := by decide +kernel
theorem dX4_lays_255 : decode cX4_lays 255 = .ok (.iadd, 1) := by decide +kernel
theorem dX4_lays_256 : decode cX4_lays 256 = .ok (.iaload, 1) := by decide +kernel
theorem dX4_lays_257 : decode cX4_lays 257 = .ok (.iaload, 1) := by decide +kernel
theorem dX4_lays_258 : decode cX4_lays 258 = .ok (.imul, 1) := by decide +kernel
theorem dX4_lays_259 : decode cX4_lays 259 = .ok (.aload_n 0, 1) := by decide +kernel
theorem dX4_lays_260 : decode cX4_lays 260 = .ok (.getfield 7, 3) := by decide +kernel
theorem dX4_lays_263 : decode cX4_lays 263 = .ok (.iconst 1, 1) := by decide +kernel
theorem dX4_lays_264 : decode cX4_lays 264 = .ok (.iaload, 1) := by decide +kernel
theorem dX4_lays_265 : decode cX4_lays 265 = .ok (.idiv, 1) := by decide +kernel
theorem dX4_lays_266 : decode cX4_lays 266 = .ok (.goto 4, 3) := by decide +kernel
theorem dX4_lays_269 : decode cX4_lays 269 = .ok (.iconst 0, 1) := by decide +kernel
theorem dX4_lays_270 : decode cX4_lays 270 = .ok (.istore 6, 2) := by decide +kernel
theorem dX4_lays_272 : decode cX4_lays 272 = .ok (.iload 6, 2) := by decide +kernel
theorem dX4_lays_274 : decode cX4_lays 274 = .ok (.iload_n 3, 1) := by decide +kernel
theorem dX4_lays_275 : decode cX4_lays 275 = .ok (.if_icmp .ge 8, 3) := by decide +kernel
theorem dX4_lays_278 : decode cX4_lays 278 = .ok (.iload 6, 2) := by decide +kernel
theorem dX4_lays_280 : decode cX4_lays 280 = .ok (.goto 4, 3) := by decide +kernel
theorem dX4_lays_283 : decode cX4_lays 283 = .ok (.iload_n 3, 1) := by decide +kernel
theorem dX4_lays_284 : decode cX4_lays 284 = .ok (.istore 7, 2) := by decide +kernel
theorem dX4_lays_286 : decode cX4_lays 286 = .ok (.aload_n 0, 1) := by decide +kernel
theorem dX4_lays_287 : decode cX4_lays 287 = .ok (.getfield 50, 3) := by decide +kernel
theorem dX4_lays_290 : decode cX4_lays 290 = .ok (.bipush 24, 2) := by decide +kernel
theorem dX4_lays_292 : decode cX4_lays 292 = .ok (.iload 4, 2) := by decide +kernel
theorem dX4_lays_294 : decode cX4_lays 294 = .ok (.imul, 1) := by decide +kernel
theorem dX4_lays_295 : decode cX4_lays 295 = .ok (.iload 5, 2) := by decide +kernel
theorem dX4_lays_297 : decode cX4_lays 297 = .ok (.iadd, 1) := by decide +kernel
theorem dX4_lays_298 : decode cX4_lays 298 = .ok (.iload 6, 2) := by decide +kernel
theorem dX4_lays_300 : decode cX4_lays 300 = .ok (.iastore, 1) := by decide +kernel
theorem dX4_lays_301 : decode cX4_lays 301 = .ok (.aload_n 0, 1) := by decide +kernel
theorem dX4_lays_302 : decode cX4_lays 302 = .ok (.getfield 53, 3) := by decide +kernel
theorem dX4_lays_305 : decode cX4_lays 305 = .ok (.bipush 24, 2) := by decide +kernel
theorem dX4_lays_307 : decode cX4_lays 307 = .ok (.iload 4, 2) := by decide +kernel
theorem dX4_lays_309 : decode cX4_lays 309 = .ok (.imul, 1) := by decide +kernel
theorem dX4_lays_310 : decode cX4_lays 310 = .ok (.iload 5, 2) := by decide +kernel
theorem dX4_lays_312 : decode cX4_lays 312 = .ok (.iadd, 1) := by decide +kernel
theorem dX4_lays_313 : decode cX4_lays 313 = .ok (.iload 7, 2) := by decide +kernel
theorem dX4_lays_315 : decode cX4_lays 315 = .ok (.iastore, 1) := by decide +kernel
theorem dX4_lays_316 : decode cX4_lays 316 = .ok (.iload_n 3, 1) := by decide +kernel
theorem dX4_lays_317 : decode cX4_lays 317 = .ok (.iload 7, 2) := by decide +kernel
theorem dX4_lays_319 : decode cX4_lays 319 = .ok (.isub, 1) := by decide +kernel
theorem dX4_lays_320 : decode cX4_lays 320 = .ok (.istore_n 3, 1) := by decide +kernel
theorem dX4_lays_321 : decode cX4_lays 321 = .ok (.iinc 5 1, 3) := by decide +kernel
theorem dX4_lays_324 : decode cX4_lays 324 = .ok (.goto (-114), 3) := by decide +kernel
theorem dX4_lays_327 : decode cX4_lays 327 = .ok (.iinc 4 1, 3) := by decide +kernel
theorem dX4_lays_330 : decode cX4_lays 330 = .ok (.goto (-130), 3) := by decide +kernel
theorem dX4_lays_333 : decode cX4_lays 333 = .ok (.return_, 1) := by decide +kernel
theorem dX4_laysNow_0 : decode cX4_laysNow 0 = .ok (.aload_n 0, 1) := by decide +kernel
theorem dX4_laysNow_1 : decode cX4_laysNow 1 = .ok (.aload_n 0, 1) := by decide +kernel
theorem dX4_laysNow_2 : decode cX4_laysNow 2 = .ok (.invokevirtual 96, 3) := by decide +kernel
theorem dX4_laysNow_5 : decode cX4_laysNow 5 = .ok (.iconst 1, 1) := by decide +kernel
theorem dX4_laysNow_6 : decode cX4_laysNow 6 = .ok (.invokevirtual 117, 3) := by decide +kernel
theorem dX4_laysNow_9 : decode cX4_laysNow 9 = .ok (.return_, 1) := by decide +kernel
theorem dX4_isOpen_0 : decode cX4_isOpen 0 = .ok (.aload_n 0, 1) := by decide +kernel
theorem dX4_isOpen_1 : decode cX4_isOpen 1 = .ok (.getfield 41, 3) := by decide +kernel
theorem dX4_isOpen_4 : decode cX4_isOpen 4 = .ok (.iload_n 1, 1) := by decide +kernel
theorem dX4_isOpen_5 : decode cX4_isOpen 5 = .ok (.iaload, 1) := by decide +kernel
theorem dX4_isOpen_6 : decode cX4_isOpen 6 = .ok (.iload_n 2, 1) := by decide +kernel
theorem dX4_isOpen_7 : decode cX4_isOpen 7 = .ok (.ishr, 1) := by decide +kernel
theorem dX4_isOpen_8 : decode cX4_isOpen 8 = .ok (.iconst 1, 1) := by decide +kernel
theorem dX4_isOpen_9 : decode cX4_isOpen 9 = .ok (.iand, 1) := by decide +kernel
theorem dX4_isOpen_10 : decode cX4_isOpen 10 = .ok (.iconst 1, 1) := by decide +kernel
theorem dX4_isOpen_11 : decode cX4_isOpen 11 = .ok (.if_icmp .ne 7, 3) := by decide +kernel
theorem dX4_isOpen_14 : decode cX4_isOpen 14 = .ok (.iconst 1, 1) := by decide +kernel
theorem dX4_isOpen_15 : decode cX4_isOpen 15 = .ok (.goto 4, 3) := by decide +kernel
theorem dX4_isOpen_18 : decode cX4_isOpen 18 = .ok (.iconst 0, 1) := by decide +kernel
theorem dX4_isOpen_19 : decode cX4_isOpen 19 = .ok (.ireturn, 1) := by decide +kernel
theorem dX4_reasonOf_0 : decode cX4_reasonOf 0 = .ok (.bipush 24, 2) := by decide +kernel
theorem dX4_reasonOf_2 : decode cX4_reasonOf 2 = .ok (.iload_n 1, 1) := by decide +kernel
theorem dX4_reasonOf_3 : decode cX4_reasonOf 3 = .ok (.imul, 1) := by decide +kernel
theorem dX4_reasonOf_4 : decode cX4_reasonOf 4 = .ok (.iload_n 2, 1) := by decide +kernel
theorem dX4_reasonOf_5 : decode cX4_reasonOf 5 = .ok (.iadd, 1) := by decide +kernel
theorem dX4_reasonOf_6 : decode cX4_reasonOf 6 = .ok (.istore 4, 2) := by decide +kernel
theorem dX4_reasonOf_8 : decode cX4_reasonOf 8 = .ok (.iload_n 3, 1) := by decide +kernel
theorem dX4_reasonOf_9 : decode cX4_reasonOf 9 = .ok (.iload_n 1, 1) := by decide +kernel
theorem dX4_reasonOf_10 : decode cX4_reasonOf 10 = .ok (.ishr, 1) := by decide +kernel
theorem dX4_reasonOf_11 : decode cX4_reasonOf 11 = .ok (.iconst 1, 1) := by decide +kernel
theorem dX4_reasonOf_12 : decode cX4_reasonOf 12 = .ok (.iand, 1) := by decide +kernel
theorem dX4_reasonOf_13 : decode cX4_reasonOf 13 = .ok (.ifCond .ne 5, 3) := by decide +kernel
theorem dX4_reasonOf_16 : decode cX4_reasonOf 16 = .ok (.iconst 1, 1) := by decide +kernel
theorem dX4_reasonOf_17 : decode cX4_reasonOf 17 = .ok (.ireturn, 1) := by decide +kernel
theorem dX4_reasonOf_18 : decode cX4_reasonOf 18 = .ok (.aload_n 0, 1) := by decide +kernel
theorem dX4_reasonOf_19 : decode cX4_reasonOf 19 = .ok (.iload_n 1, 1) := by decide +kernel
theorem dX4_reasonOf_20 : decode cX4_reasonOf 20 = .ok (.iload_n 2, 1) := by decide +kernel
theorem dX4_reasonOf_21 : decode cX4_reasonOf 21 = .ok (.invokevirtual 121, 3) := by decide +kernel
theorem dX4_reasonOf_24 : decode cX4_reasonOf 24 = .ok (.ifCond .ne 5, 3) := by decide +kernel
theorem dX4_reasonOf_27 : decode cX4_reasonOf 27 = .ok (.iconst 2, 1) := by decide +kernel
theorem dX4_reasonOf_28 : decode cX4_reasonOf 28 = .ok (.ireturn, 1) := by decide +kernel
theorem dX4_reasonOf_29 : decode cX4_reasonOf 29 = .ok (.aload_n 0, 1) := by decide +kernel
theorem dX4_reasonOf_30 : decode cX4_reasonOf 30 = .ok (.getfield 47, 3) := by decide +kernel
theorem dX4_reasonOf_33 : decode cX4_reasonOf 33 = .ok (.aload_n 0, 1) := by decide +kernel
theorem dX4_reasonOf_34 : decode cX4_reasonOf 34 = .ok (.getfield 7, 3) := by decide +kernel
theorem dX4_reasonOf_37 : decode cX4_reasonOf 37 = .ok (.bipush 24, 2) := by decide +kernel
theorem dX4_reasonOf_39 : decode cX4_reasonOf 39 = .ok (.iconst 5, 1) := by decide +kernel
theorem dX4_reasonOf_40 : decode cX4_reasonOf 40 = .ok (.iload_n 1, 1) := by decide +kernel
theorem dX4_reasonOf_41 : decode cX4_reasonOf 41 = .ok (.imul, 1) := by decide +kernel
theorem dX4_reasonOf_42 : decode cX4_reasonOf 42 = .ok (.iadd, 1) := by decide +kernel
theorem dX4_reasonOf_43 : decode cX4_reasonOf 43 = .ok (.iaload, 1) := by decide +kernel
theorem dX4_reasonOf_44 : decode cX4_reasonOf 44 = .ok (.iaload, 1) := by decide +kernel
theorem dX4_reasonOf_45 : decode cX4_reasonOf 45 = .ok (.aload_n 0, 1) := by decide +kernel
theorem dX4_reasonOf_46 : decode cX4_reasonOf 46 = .ok (.getfield 7, 3) := by decide +kernel
theorem dX4_reasonOf_49 : decode cX4_reasonOf 49 = .ok (.bipush 24, 2) := by decide +kernel
theorem dX4_reasonOf_51 : decode cX4_reasonOf 51 = .ok (.iconst 5, 1) := by decide +kernel
theorem dX4_reasonOf_52 : decode cX4_reasonOf 52 = .ok (.iload_n 1, 1) := by decide +kernel
theorem dX4_reasonOf_53 : decode cX4_reasonOf 53 = .ok (.imul, 1) := by decide +kernel
theorem dX4_reasonOf_54 : decode cX4_reasonOf 54 = .ok (.iadd, 1) := by decide +kernel
theorem dX4_reasonOf_55 : decode cX4_reasonOf 55 = .ok (.iconst 2, 1) := by decide +kernel
theorem dX4_reasonOf_56 : decode cX4_reasonOf 56 = .ok (.iadd, 1) := by decide +kernel
theorem dX4_reasonOf_57 : decode cX4_reasonOf 57 = .ok (.iaload, 1) := by decide +kernel
theorem dX4_reasonOf_58 : decode cX4_reasonOf 58 = .ok (.if_icmp .ge 5, 3) := by decide +kernel
theorem dX4_reasonOf_61 : decode cX4_reasonOf 61 = .ok (.iconst 3, 1) := by decide +kernel
theorem dX4_reasonOf_62 : decode cX4_reasonOf 62 = .ok (.ireturn, 1) := by decide +kernel
theorem dX4_reasonOf_63 : decode cX4_reasonOf 63 = .ok (.aload_n 0, 1) := by decide +kernel
theorem dX4_reasonOf_64 : decode cX4_reasonOf 64 = .ok (.getfield 53, 3) := by decide +kernel
theorem dX4_reasonOf_67 : decode cX4_reasonOf 67 = .ok (.iload 4, 2) := by decide +kernel
theorem dX4_reasonOf_69 : decode cX4_reasonOf 69 = .ok (.iaload, 1) := by decide +kernel
theorem dX4_reasonOf_70 : decode cX4_reasonOf 70 = .ok (.aload_n 0, 1) := by decide +kernel
theorem dX4_reasonOf_71 : decode cX4_reasonOf 71 = .ok (.getfield 50, 3) := by decide +kernel
theorem dX4_reasonOf_74 : decode cX4_reasonOf 74 = .ok (.iload 4, 2) := by decide +kernel
theorem dX4_reasonOf_76 : decode cX4_reasonOf 76 = .ok (.iaload, 1) := by decide +kernel
theorem dX4_reasonOf_77 : decode cX4_reasonOf 77 = .ok (.if_icmp .ge 7, 3) := by decide +kernel
theorem dX4_reasonOf_80 : decode cX4_reasonOf 80 = .ok (.iconst 4, 1) := by decide +kernel
theorem dX4_reasonOf_81 : decode cX4_reasonOf 81 = .ok (.goto 18, 3) := by decide +kernel
theorem dX4_reasonOf_84 : decode cX4_reasonOf 84 = .ok (.aload_n 0, 1) := by decide +kernel
theorem dX4_reasonOf_85 : decode cX4_reasonOf 85 = .ok (.getfield 50, 3) := by decide +kernel
theorem dX4_reasonOf_88 : decode cX4_reasonOf 88 = .ok (.iload 4, 2) := by decide +kernel
theorem dX4_reasonOf_90 : decode cX4_reasonOf 90 = .ok (.iaload, 1) := by decide +kernel
theorem dX4_reasonOf_91 : decode cX4_reasonOf 91 = .ok (.ifCond .ne 7, 3) := by decide +kernel
theorem dX4_reasonOf_94 : decode cX4_reasonOf 94 = .ok (.iconst 5, 1) := by decide +kernel
theorem dX4_reasonOf_95 : decode cX4_reasonOf 95 = .ok (.goto 4, 3) := by decide +kernel
theorem dX4_reasonOf_98 : decode cX4_reasonOf 98 = .ok (.iconst 0, 1) := by decide +kernel
theorem dX4_reasonOf_99 : decode cX4_reasonOf 99 = .ok (.ireturn, 1) := by decide +kernel
theorem dX4_pitch_0 : decode cX4_pitch 0 = .ok (.aload_n 0, 1) := by decide +kernel
theorem dX4_pitch_1 : decode cX4_pitch 1 = .ok (.getfield 7, 3) := by decide +kernel
theorem dX4_pitch_4 : decode cX4_pitch 4 = .ok (.bipush 64, 2) := by decide +kernel
theorem dX4_pitch_6 : decode cX4_pitch 6 = .ok (.bipush 24, 2) := by decide +kernel
theorem dX4_pitch_8 : decode cX4_pitch 8 = .ok (.iload_n 1, 1) := by decide +kernel
theorem dX4_pitch_9 : decode cX4_pitch 9 = .ok (.imul, 1) := by decide +kernel
theorem dX4_pitch_10 : decode cX4_pitch 10 = .ok (.iadd, 1) := by decide +kernel
theorem dX4_pitch_11 : decode cX4_pitch 11 = .ok (.iload_n 2, 1) := by decide +kernel
theorem dX4_pitch_12 : decode cX4_pitch 12 = .ok (.iadd, 1) := by decide +kernel
theorem dX4_pitch_13 : decode cX4_pitch 13 = .ok (.iaload, 1) := by decide +kernel
theorem dX4_pitch_14 : decode cX4_pitch 14 = .ok (.aload_n 0, 1) := by decide +kernel
theorem dX4_pitch_15 : decode cX4_pitch 15 = .ok (.iload_n 1, 1) := by decide +kernel
theorem dX4_pitch_16 : decode cX4_pitch 16 = .ok (.invokevirtual 125, 3) := by decide +kernel
theorem dX4_pitch_19 : decode cX4_pitch 19 = .ok (.iadd, 1) := by decide +kernel
theorem dX4_pitch_20 : decode cX4_pitch 20 = .ok (.ireturn, 1) := by decide +kernel
theorem dX4_bend_0 : decode cX4_bend 0 = .ok (.aload_n 0, 1) := by decide +kernel
theorem dX4_bend_1 : decode cX4_bend 1 = .ok (.getfield 47, 3) := by decide +kernel
theorem dX4_bend_4 : decode cX4_bend 4 = .ok (.aload_n 0, 1) := by decide +kernel
theorem dX4_bend_5 : decode cX4_bend 5 = .ok (.getfield 7, 3) := by decide +kernel
theorem dX4_bend_8 : decode cX4_bend 8 = .ok (.bipush 24, 2) := by decide +kernel
theorem dX4_bend_10 : decode cX4_bend 10 = .ok (.iconst 5, 1) := by decide +kernel
theorem dX4_bend_11 : decode cX4_bend 11 = .ok (.iload_n 1, 1) := by decide +kernel
theorem dX4_bend_12 : decode cX4_bend 12 = .ok (.imul, 1) := by decide +kernel
theorem dX4_bend_13 : decode cX4_bend 13 = .ok (.iadd, 1) := by decide +kernel
theorem dX4_bend_14 : decode cX4_bend 14 = .ok (.iaload, 1) := by decide +kernel
theorem dX4_bend_15 : decode cX4_bend 15 = .ok (.iaload, 1) := by decide +kernel
theorem dX4_bend_16 : decode cX4_bend 16 = .ok (.aload_n 0, 1) := by decide +kernel
theorem dX4_bend_17 : decode cX4_bend 17 = .ok (.getfield 7, 3) := by decide +kernel
theorem dX4_bend_20 : decode cX4_bend 20 = .ok (.iconst 1, 1) := by decide +kernel
theorem dX4_bend_21 : decode cX4_bend 21 = .ok (.iaload, 1) := by decide +kernel
theorem dX4_bend_22 : decode cX4_bend 22 = .ok (.isub, 1) := by decide +kernel
theorem dX4_bend_23 : decode cX4_bend 23 = .ok (.aload_n 0, 1) := by decide +kernel
theorem dX4_bend_24 : decode cX4_bend 24 = .ok (.getfield 7, 3) := by decide +kernel
theorem dX4_bend_27 : decode cX4_bend 27 = .ok (.bipush 9, 2) := by decide +kernel
theorem dX4_bend_29 : decode cX4_bend 29 = .ok (.iaload, 1) := by decide +kernel
theorem dX4_bend_30 : decode cX4_bend 30 = .ok (.imul, 1) := by decide +kernel
theorem dX4_bend_31 : decode cX4_bend 31 = .ok (.bipush 16, 2) := by decide +kernel
theorem dX4_bend_33 : decode cX4_bend 33 = .ok (.invokestatic 128, 3) := by decide +kernel
theorem dX4_bend_36 : decode cX4_bend 36 = .ok (.ireturn, 1) := by decide +kernel
theorem dX4_ticks_0 : decode cX4_ticks 0 = .ok (.aload_n 0, 1) := by decide +kernel
theorem dX4_ticks_1 : decode cX4_ticks 1 = .ok (.getfield 7, 3) := by decide +kernel
theorem dX4_ticks_4 : decode cX4_ticks 4 = .ok (.bipush 22, 2) := by decide +kernel
theorem dX4_ticks_6 : decode cX4_ticks 6 = .ok (.iaload, 1) := by decide +kernel
theorem dX4_ticks_7 : decode cX4_ticks 7 = .ok (.ifCond .ne 110, 3) := by decide +kernel
theorem dX4_ticks_10 : decode cX4_ticks 10 = .ok (.aload_n 0, 1) := by decide +kernel
theorem dX4_ticks_11 : decode cX4_ticks 11 = .ok (.getfield 7, 3) := by decide +kernel
theorem dX4_ticks_14 : decode cX4_ticks 14 = .ok (.iconst 0, 1) := by decide +kernel
theorem dX4_ticks_15 : decode cX4_ticks 15 = .ok (.iaload, 1) := by decide +kernel
theorem dX4_ticks_16 : decode cX4_ticks 16 = .ok (.aload_n 0, 1) := by decide +kernel
theorem dX4_ticks_17 : decode cX4_ticks 17 = .ok (.getfield 7, 3) := by decide +kernel
theorem dX4_ticks_20 : decode cX4_ticks 20 = .ok (.bipush 6, 2) := by decide +kernel
theorem dX4_ticks_22 : decode cX4_ticks 22 = .ok (.iaload, 1) := by decide +kernel
theorem dX4_ticks_23 : decode cX4_ticks 23 = .ok (.if_icmp .ge 94, 3) := by decide +kernel
theorem dX4_ticks_26 : decode cX4_ticks 26 = .ok (.aload_n 0, 1) := by decide +kernel
theorem dX4_ticks_27 : decode cX4_ticks 27 = .ok (.getfield 7, 3) := by decide +kernel
theorem dX4_ticks_30 : decode cX4_ticks 30 = .ok (.bipush 18, 2) := by decide +kernel
theorem dX4_ticks_32 : decode cX4_ticks 32 = .ok (.aload_n 0, 1) := by decide +kernel
theorem dX4_ticks_33 : decode cX4_ticks 33 = .ok (.getfield 7, 3) := by decide +kernel
theorem dX4_ticks_36 : decode cX4_ticks 36 = .ok (.bipush 17, 2) := by decide +kernel
theorem dX4_ticks_38 : decode cX4_ticks 38 = .ok (.iaload, 1) := by decide +kernel
theorem dX4_ticks_39 : decode cX4_ticks 39 = .ok (.iadd, 1) := by decide +kernel
theorem dX4_ticks_40 : decode cX4_ticks 40 = .ok (.dup2, 1) := by decide +kernel
theorem dX4_ticks_41 : decode cX4_ticks 41 = .ok (.iaload, 1) := by decide +kernel
theorem dX4_ticks_42 : decode cX4_ticks 42 = .ok (.iconst 1, 1) := by decide +kernel
theorem dX4_ticks_43 : decode cX4_ticks 43 = .ok (.iadd, 1) := by decide +kernel
theorem dX4_ticks_44 : decode cX4_ticks 44 = .ok (.iastore, 1) := by decide +kernel
theorem dX4_ticks_45 : decode cX4_ticks 45 = .ok (.aload_n 0, 1) := by decide +kernel
theorem dX4_ticks_46 : decode cX4_ticks 46 = .ok (.getfield 7, 3) := by decide +kernel
theorem dX4_ticks_49 : decode cX4_ticks 49 = .ok (.bipush 17, 2) := by decide +kernel
theorem dX4_ticks_51 : decode cX4_ticks 51 = .ok (.iconst 1, 1) := by decide +kernel
theorem dX4_ticks_52 : decode cX4_ticks 52 = .ok (.aload_n 0, 1) := by decide +kernel
theorem dX4_ticks_53 : decode cX4_ticks 53 = .ok (.getfield 7, 3) := by decide +kernel
theorem dX4_ticks_56 : decode cX4_ticks 56 = .ok (.bipush 17, 2) := by decide +kernel
theorem dX4_ticks_58 : decode cX4_ticks 58 = .ok (.iaload, 1) := by decide +kernel
theorem dX4_ticks_59 : decode cX4_ticks 59 = .ok (.isub, 1) := by decide +kernel
theorem dX4_ticks_60 : decode cX4_ticks 60 = .ok (.iastore, 1) := by decide +kernel
theorem dX4_ticks_61 : decode cX4_ticks 61 = .ok (.aload_n 0, 1) := by decide +kernel
theorem dX4_ticks_62 : decode cX4_ticks 62 = .ok (.getfield 7, 3) := by decide +kernel
theorem dX4_ticks_65 : decode cX4_ticks 65 = .ok (.bipush 23, 2) := by decide +kernel
theorem dX4_ticks_67 : decode cX4_ticks 67 = .ok (.aload_n 0, 1) := by decide +kernel
theorem dX4_ticks_68 : decode cX4_ticks 68 = .ok (.getfield 7, 3) := by decide +kernel
theorem dX4_ticks_71 : decode cX4_ticks 71 = .ok (.bipush 7, 2) := by decide +kernel
theorem dX4_ticks_73 : decode cX4_ticks 73 = .ok (.iaload, 1) := by decide +kernel
theorem dX4_ticks_74 : decode cX4_ticks 74 = .ok (.iastore, 1) := by decide +kernel
theorem dX4_ticks_75 : decode cX4_ticks 75 = .ok (.aload_n 0, 1) := by decide +kernel
theorem dX4_ticks_76 : decode cX4_ticks 76 = .ok (.getfield 7, 3) := by decide +kernel
theorem dX4_ticks_79 : decode cX4_ticks 79 = .ok (.bipush 20, 2) := by decide +kernel
theorem dX4_ticks_81 : decode cX4_ticks 81 = .ok (.aload_n 0, 1) := by decide +kernel
theorem dX4_ticks_82 : decode cX4_ticks 82 = .ok (.getfield 7, 3) := by decide +kernel
theorem dX4_ticks_85 : decode cX4_ticks 85 = .ok (.bipush 7, 2) := by decide +kernel
theorem dX4_ticks_87 : decode cX4_ticks 87 = .ok (.iaload, 1) := by decide +kernel
theorem dX4_ticks_88 : decode cX4_ticks 88 = .ok (.iastore, 1) := by decide +kernel
theorem dX4_ticks_89 : decode cX4_ticks 89 = .ok (.aload_n 0, 1) := by decide +kernel
theorem dX4_ticks_90 : decode cX4_ticks 90 = .ok (.getfield 7, 3) := by decide +kernel
theorem dX4_ticks_93 : decode cX4_ticks 93 = .ok (.bipush 21, 2) := by decide +kernel
theorem dX4_ticks_95 : decode cX4_ticks 95 = .ok (.aload_n 0, 1) := by decide +kernel
theorem dX4_ticks_96 : decode cX4_ticks 96 = .ok (.getfield 7, 3) := by decide +kernel
theorem dX4_ticks_99 : decode cX4_ticks 99 = .ok (.bipush 8, 2) := by decide +kernel
theorem dX4_ticks_101 : decode cX4_ticks 101 = .ok (.iaload, 1) := by decide +kernel
theorem dX4_ticks_102 : decode cX4_ticks 102 = .ok (.iastore, 1) := by decide +kernel
theorem dX4_ticks_103 : decode cX4_ticks 103 = .ok (.aload_n 0, 1) := by decide +kernel
theorem dX4_ticks_104 : decode cX4_ticks 104 = .ok (.getfield 7, 3) := by decide +kernel
theorem dX4_ticks_107 : decode cX4_ticks 107 = .ok (.bipush 22, 2) := by decide +kernel
theorem dX4_ticks_109 : decode cX4_ticks 109 = .ok (.aload_n 0, 1) := by decide +kernel
theorem dX4_ticks_110 : decode cX4_ticks 110 = .ok (.getfield 7, 3) := by decide +kernel
theorem dX4_ticks_113 : decode cX4_ticks 113 = .ok (.bipush 8, 2) := by decide +kernel
theorem dX4_ticks_115 : decode cX4_ticks 115 = .ok (.iaload, 1) := by decide +kernel
theorem dX4_ticks_116 : decode cX4_ticks 116 = .ok (.iastore, 1) := by decide +kernel
theorem dX4_ticks_117 : decode cX4_ticks 117 = .ok (.aload_n 0, 1) := by decide +kernel
theorem dX4_ticks_118 : decode cX4_ticks 118 = .ok (.getfield 7, 3) := by decide +kernel
theorem dX4_ticks_121 : decode cX4_ticks 121 = .ok (.bipush 22, 2) := by decide +kernel
theorem dX4_ticks_123 : decode cX4_ticks 123 = .ok (.iaload, 1) := by decide +kernel
theorem dX4_ticks_124 : decode cX4_ticks 124 = .ok (.ifCond .le 134, 3) := by decide +kernel
theorem dX4_ticks_127 : decode cX4_ticks 127 = .ok (.aload_n 0, 1) := by decide +kernel
theorem dX4_ticks_128 : decode cX4_ticks 128 = .ok (.getfield 7, 3) := by decide +kernel
theorem dX4_ticks_131 : decode cX4_ticks 131 = .ok (.bipush 22, 2) := by decide +kernel
theorem dX4_ticks_133 : decode cX4_ticks 133 = .ok (.iaload, 1) := by decide +kernel
theorem dX4_ticks_134 : decode cX4_ticks 134 = .ok (.iconst 1, 1) := by decide +kernel
theorem dX4_ticks_135 : decode cX4_ticks 135 = .ok (.if_icmp .ne 13, 3) := by decide +kernel
theorem dX4_ticks_138 : decode cX4_ticks 138 = .ok (.aload_n 0, 1) := by decide +kernel
theorem dX4_ticks_139 : decode cX4_ticks 139 = .ok (.getfield 7, 3) := by decide +kernel
theorem dX4_ticks_142 : decode cX4_ticks 142 = .ok (.bipush 20, 2) := by decide +kernel
theorem dX4_ticks_144 : decode cX4_ticks 144 = .ok (.iaload, 1) := by decide +kernel
theorem dX4_ticks_145 : decode cX4_ticks 145 = .ok (.goto 18, 3) := by decide +kernel
theorem dX4_ticks_148 : decode cX4_ticks 148 = .ok (.aload_n 0, 1) := by decide +kernel
theorem dX4_ticks_149 : decode cX4_ticks 149 = .ok (.getfield 7, 3) := by decide +kernel
theorem dX4_ticks_152 : decode cX4_ticks 152 = .ok (.bipush 23, 2) := by decide +kernel
theorem dX4_ticks_154 : decode cX4_ticks 154 = .ok (.iaload, 1) := by decide +kernel
theorem dX4_ticks_155 : decode cX4_ticks 155 = .ok (.aload_n 0, 1) := by decide +kernel
theorem dX4_ticks_156 : decode cX4_ticks 156 = .ok (.getfield 7, 3) := by decide +kernel
theorem dX4_ticks_159 : decode cX4_ticks 159 = .ok (.bipush 21, 2) := by decide +kernel
theorem dX4_ticks_161 : decode cX4_ticks 161 = .ok (.iaload, 1) := by decide +kernel
theorem dX4_ticks_162 : decode cX4_ticks 162 = .ok (.idiv, 1) := by decide +kernel
theorem dX4_ticks_163 : decode cX4_ticks 163 = .ok (.istore_n 1, 1) := by decide +kernel
theorem dX4_ticks_164 : decode cX4_ticks 164 = .ok (.aload_n 0, 1) := by decide +kernel
theorem dX4_ticks_165 : decode cX4_ticks 165 = .ok (.getfield 7, 3) := by decide +kernel
theorem dX4_ticks_168 : decode cX4_ticks 168 = .ok (.bipush 22, 2) := by decide +kernel
theorem dX4_ticks_170 : decode cX4_ticks 170 = .ok (.dup2, 1) := by decide +kernel
theorem dX4_ticks_171 : decode cX4_ticks 171 = .ok (.iaload, 1) := by decide +kernel
theorem dX4_ticks_172 : decode cX4_ticks 172 = .ok (.iconst 1, 1) := by decide +kernel
theorem dX4_ticks_173 : decode cX4_ticks 173 = .ok (.isub, 1) := by decide +kernel
theorem dX4_ticks_174 : decode cX4_ticks 174 = .ok (.iastore, 1) := by decide +kernel
theorem dX4_ticks_175 : decode cX4_ticks 175 = .ok (.aload_n 0, 1) := by decide +kernel
theorem dX4_ticks_176 : decode cX4_ticks 176 = .ok (.getfield 7, 3) := by decide +kernel
theorem dX4_ticks_179 : decode cX4_ticks 179 = .ok (.bipush 20, 2) := by decide +kernel
theorem dX4_ticks_181 : decode cX4_ticks 181 = .ok (.dup2, 1) := by decide +kernel
theorem dX4_ticks_182 : decode cX4_ticks 182 = .ok (.iaload, 1) := by decide +kernel
theorem dX4_ticks_183 : decode cX4_ticks 183 = .ok (.iload_n 1, 1) := by decide +kernel
theorem dX4_ticks_184 : decode cX4_ticks 184 = .ok (.isub, 1) := by decide +kernel
theorem dX4_ticks_185 : decode cX4_ticks 185 = .ok (.iastore, 1) := by decide +kernel
theorem dX4_ticks_186 : decode cX4_ticks 186 = .ok (.aload_n 0, 1) := by decide +kernel
theorem dX4_ticks_187 : decode cX4_ticks 187 = .ok (.getfield 7, 3) := by decide +kernel
theorem dX4_ticks_190 : decode cX4_ticks 190 = .ok (.bipush 14, 2) := by decide +kernel
theorem dX4_ticks_192 : decode cX4_ticks 192 = .ok (.dup2, 1) := by decide +kernel
theorem dX4_ticks_193 : decode cX4_ticks 193 = .ok (.iaload, 1) := by decide +kernel
theorem dX4_ticks_194 : decode cX4_ticks 194 = .ok (.iload_n 1, 1) := by decide +kernel
theorem dX4_ticks_195 : decode cX4_ticks 195 = .ok (.iadd, 1) := by decide +kernel
theorem dX4_ticks_196 : decode cX4_ticks 196 = .ok (.iastore, 1) := by decide +kernel
theorem dX4_ticks_197 : decode cX4_ticks 197 = .ok (.aload_n 0, 1) := by decide +kernel
theorem dX4_ticks_198 : decode cX4_ticks 198 = .ok (.getfield 7, 3) := by decide +kernel
theorem dX4_ticks_201 : decode cX4_ticks 201 = .ok (.iconst 0, 1) := by decide +kernel
theorem dX4_ticks_202 : decode cX4_ticks 202 = .ok (.dup2, 1) := by decide +kernel
theorem dX4_ticks_203 : decode cX4_ticks 203 = .ok (.iaload, 1) := by decide +kernel
theorem dX4_ticks_204 : decode cX4_ticks 204 = .ok (.iload_n 1, 1) := by decide +kernel
theorem dX4_ticks_205 : decode cX4_ticks 205 = .ok (.iadd, 1) := by decide +kernel
theorem dX4_ticks_206 : decode cX4_ticks 206 = .ok (.iastore, 1) := by decide +kernel
theorem dX4_ticks_207 : decode cX4_ticks 207 = .ok (.aload_n 0, 1) := by decide +kernel
theorem dX4_ticks_208 : decode cX4_ticks 208 = .ok (.getfield 7, 3) := by decide +kernel
theorem dX4_ticks_211 : decode cX4_ticks 211 = .ok (.iconst 0, 1) := by decide +kernel
theorem dX4_ticks_212 : decode cX4_ticks 212 = .ok (.iaload, 1) := by decide +kernel
theorem dX4_ticks_213 : decode cX4_ticks 213 = .ok (.aload_n 0, 1) := by decide +kernel
theorem dX4_ticks_214 : decode cX4_ticks 214 = .ok (.getfield 7, 3) := by decide +kernel
theorem dX4_ticks_217 : decode cX4_ticks 217 = .ok (.iconst 5, 1) := by decide +kernel
theorem dX4_ticks_218 : decode cX4_ticks 218 = .ok (.iaload, 1) := by decide +kernel
theorem dX4_ticks_219 : decode cX4_ticks 219 = .ok (.isub, 1) := by decide +kernel
theorem dX4_ticks_220 : decode cX4_ticks 220 = .ok (.istore_n 2, 1) := by decide +kernel
theorem dX4_ticks_221 : decode cX4_ticks 221 = .ok (.aload_n 0, 1) := by decide +kernel
theorem dX4_ticks_222 : decode cX4_ticks 222 = .ok (.getfield 7, 3) := by decide +kernel
theorem dX4_ticks_225 : decode cX4_ticks 225 = .ok (.bipush 16, 2) := by decide +kernel
theorem dX4_ticks_227 : decode cX4_ticks 227 = .ok (.dup2, 1) := by decide +kernel
theorem dX4_ticks_228 : decode cX4_ticks 228 = .ok (.iaload, 1) := by decide +kernel
theorem dX4_ticks_229 : decode cX4_ticks 229 = .ok (.iload_n 2, 1) := by decide +kernel
theorem dX4_ticks_230 : decode cX4_ticks 230 = .ok (.ifCond .le 7, 3) := by decide +kernel
theorem dX4_ticks_233 : decode cX4_ticks 233 = .ok (.iload_n 2, 1) := by decide +kernel
theorem dX4_ticks_234 : decode cX4_ticks 234 = .ok (.goto 4, 3) := by decide +kernel
theorem dX4_ticks_237 : decode cX4_ticks 237 = .ok (.iconst 0, 1) := by decide +kernel
theorem dX4_ticks_238 : decode cX4_ticks 238 = .ok (.iadd, 1) := by decide +kernel
theorem dX4_ticks_239 : decode cX4_ticks 239 = .ok (.iastore, 1) := by decide +kernel
theorem dX4_ticks_240 : decode cX4_ticks 240 = .ok (.aload_n 0, 1) := by decide +kernel
theorem dX4_ticks_241 : decode cX4_ticks 241 = .ok (.getfield 7, 3) := by decide +kernel
theorem dX4_ticks_244 : decode cX4_ticks 244 = .ok (.iconst 0, 1) := by decide +kernel
theorem dX4_ticks_245 : decode cX4_ticks 245 = .ok (.dup2, 1) := by decide +kernel
theorem dX4_ticks_246 : decode cX4_ticks 246 = .ok (.iaload, 1) := by decide +kernel
theorem dX4_ticks_247 : decode cX4_ticks 247 = .ok (.iload_n 2, 1) := by decide +kernel
theorem dX4_ticks_248 : decode cX4_ticks 248 = .ok (.ifCond .le 7, 3) := by decide +kernel
theorem dX4_ticks_251 : decode cX4_ticks 251 = .ok (.iload_n 2, 1) := by decide +kernel
theorem dX4_ticks_252 : decode cX4_ticks 252 = .ok (.goto 4, 3) := by decide +kernel
theorem dX4_ticks_255 : decode cX4_ticks 255 = .ok (.iconst 0, 1) := by decide +kernel
theorem dX4_ticks_256 : decode cX4_ticks 256 = .ok (.isub, 1) := by decide +kernel
theorem dX4_ticks_257 : decode cX4_ticks 257 = .ok (.iastore, 1) := by decide +kernel
theorem dX4_ticks_258 : decode cX4_ticks 258 = .ok (.aload_n 0, 1) := by decide +kernel
theorem dX4_ticks_259 : decode cX4_ticks 259 = .ok (.invokevirtual 131, 3) := by decide +kernel
theorem dX4_ticks_262 : decode cX4_ticks 262 = .ok (.iconst 0, 1) := by decide +kernel
theorem dX4_ticks_263 : decode cX4_ticks 263 = .ok (.istore_n 1, 1) := by decide +kernel
theorem dX4_ticks_264 : decode cX4_ticks 264 = .ok (.iload_n 1, 1) := by decide +kernel
theorem dX4_ticks_265 : decode cX4_ticks 265 = .ok (.sipush 192, 3) := by decide +kernel
theorem dX4_ticks_268 : decode cX4_ticks 268 = .ok (.if_icmp .ge 65, 3) := by decide +kernel
theorem dX4_ticks_271 : decode cX4_ticks 271 = .ok (.aload_n 0, 1) := by decide +kernel
theorem dX4_ticks_272 : decode cX4_ticks 272 = .ok (.getfield 7, 3) := by decide +kernel
theorem dX4_ticks_275 : decode cX4_ticks 275 = .ok (.bipush 24, 2) := by decide +kernel
theorem dX4_ticks_277 : decode cX4_ticks 277 = .ok (.iconst 5, 1) := by decide +kernel
theorem dX4_ticks_278 : decode cX4_ticks 278 = .ok (.iload_n 1, 1) := by decide +kernel
theorem dX4_ticks_279 : decode cX4_ticks 279 = .ok (.bipush 24, 2) := by decide +kernel
theorem dX4_ticks_281 : decode cX4_ticks 281 = .ok (.idiv, 1) := by decide +kernel
theorem dX4_ticks_282 : decode cX4_ticks 282 = .ok (.imul, 1) := by decide +kernel
theorem dX4_ticks_283 : decode cX4_ticks 283 = .ok (.iadd, 1) := by decide +kernel
theorem dX4_ticks_284 : decode cX4_ticks 284 = .ok (.iconst 4, 1) := by decide +kernel
theorem dX4_ticks_285 : decode cX4_ticks 285 = .ok (.iadd, 1) := by decide +kernel
theorem dX4_ticks_286 : decode cX4_ticks 286 = .ok (.dup2, 1) := by decide +kernel
theorem dX4_ticks_287 : decode cX4_ticks 287 = .ok (.iaload, 1) := by decide +kernel
theorem dX4_ticks_288 : decode cX4_ticks 288 = .ok (.aload_n 0, 1) := by decide +kernel
theorem dX4_ticks_289 : decode cX4_ticks 289 = .ok (.getfield 53, 3) := by decide +kernel
theorem dX4_ticks_292 : decode cX4_ticks 292 = .ok (.iload_n 1, 1) := by decide +kernel
theorem dX4_ticks_293 : decode cX4_ticks 293 = .ok (.iaload, 1) := by decide +kernel
theorem dX4_ticks_294 : decode cX4_ticks 294 = .ok (.iadd, 1) := by decide +kernel
theorem dX4_ticks_295 : decode cX4_ticks 295 = .ok (.iastore, 1) := by decide +kernel
theorem dX4_ticks_296 : decode cX4_ticks 296 = .ok (.aload_n 0, 1) := by decide +kernel
theorem dX4_ticks_297 : decode cX4_ticks 297 = .ok (.getfield 7, 3) := by decide +kernel
theorem dX4_ticks_300 : decode cX4_ticks 300 = .ok (.bipush 15, 2) := by decide +kernel
theorem dX4_ticks_302 : decode cX4_ticks 302 = .ok (.dup2, 1) := by decide +kernel
theorem dX4_ticks_303 : decode cX4_ticks 303 = .ok (.iaload, 1) := by decide +kernel
theorem dX4_ticks_304 : decode cX4_ticks 304 = .ok (.aload_n 0, 1) := by decide +kernel
theorem dX4_ticks_305 : decode cX4_ticks 305 = .ok (.getfield 53, 3) := by decide +kernel
theorem dX4_ticks_308 : decode cX4_ticks 308 = .ok (.iload_n 1, 1) := by decide +kernel
theorem dX4_ticks_309 : decode cX4_ticks 309 = .ok (.iaload, 1) := by decide +kernel
theorem dX4_ticks_310 : decode cX4_ticks 310 = .ok (.iadd, 1) := by decide +kernel
theorem dX4_ticks_311 : decode cX4_ticks 311 = .ok (.iastore, 1) := by decide +kernel
theorem dX4_ticks_312 : decode cX4_ticks 312 = .ok (.aload_n 0, 1) := by decide +kernel
theorem dX4_ticks_313 : decode cX4_ticks 313 = .ok (.getfield 7, 3) := by decide +kernel
theorem dX4_ticks_316 : decode cX4_ticks 316 = .ok (.iconst 0, 1) := by decide +kernel
theorem dX4_ticks_317 : decode cX4_ticks 317 = .ok (.dup2, 1) := by decide +kernel
theorem dX4_ticks_318 : decode cX4_ticks 318 = .ok (.iaload, 1) := by decide +kernel
theorem dX4_ticks_319 : decode cX4_ticks 319 = .ok (.aload_n 0, 1) := by decide +kernel
theorem dX4_ticks_320 : decode cX4_ticks 320 = .ok (.getfield 53, 3) := by decide +kernel
theorem dX4_ticks_323 : decode cX4_ticks 323 = .ok (.iload_n 1, 1) := by decide +kernel
theorem dX4_ticks_324 : decode cX4_ticks 324 = .ok (.iaload, 1) := by decide +kernel
theorem dX4_ticks_325 : decode cX4_ticks 325 = .ok (.isub, 1) := by decide +kernel
theorem dX4_ticks_326 : decode cX4_ticks 326 = .ok (.iastore, 1) := by decide +kernel
theorem dX4_ticks_327 : decode cX4_ticks 327 = .ok (.iinc 1 1, 3) := by decide +kernel
theorem dX4_ticks_330 : decode cX4_ticks 330 = .ok (.goto (-66), 3) := by decide +kernel
theorem dX4_ticks_333 : decode cX4_ticks 333 = .ok (.aload_n 0, 1) := by decide +kernel
theorem dX4_ticks_334 : decode cX4_ticks 334 = .ok (.getfield 7, 3) := by decide +kernel
theorem dX4_ticks_337 : decode cX4_ticks 337 = .ok (.bipush 13, 2) := by decide +kernel
theorem dX4_ticks_339 : decode cX4_ticks 339 = .ok (.dup2, 1) := by decide +kernel
theorem dX4_ticks_340 : decode cX4_ticks 340 = .ok (.iaload, 1) := by decide +kernel
theorem dX4_ticks_341 : decode cX4_ticks 341 = .ok (.iconst 1, 1) := by decide +kernel
theorem dX4_ticks_342 : decode cX4_ticks 342 = .ok (.iadd, 1) := by decide +kernel
theorem dX4_ticks_343 : decode cX4_ticks 343 = .ok (.iastore, 1) := by decide +kernel
theorem dX4_ticks_344 : decode cX4_ticks 344 = .ok (.return_, 1) := by decide +kernel
theorem dX4_passes_0 : decode cX4_passes 0 = .ok (.iconst 0, 1) := by decide +kernel
theorem dX4_passes_1 : decode cX4_passes 1 = .ok (.istore_n 2, 1) := by decide +kernel
theorem dX4_passes_2 : decode cX4_passes 2 = .ok (.iload_n 2, 1) := by decide +kernel
theorem dX4_passes_3 : decode cX4_passes 3 = .ok (.iload_n 1, 1) := by decide +kernel
theorem dX4_passes_4 : decode cX4_passes 4 = .ok (.if_icmp .ge 13, 3) := by decide +kernel
theorem dX4_passes_7 : decode cX4_passes 7 = .ok (.aload_n 0, 1) := by decide +kernel
theorem dX4_passes_8 : decode cX4_passes 8 = .ok (.invokevirtual 134, 3) := by decide +kernel
theorem dX4_passes_11 : decode cX4_passes 11 = .ok (.iinc 2 1, 3) := by decide +kernel
theorem dX4_passes_14 : decode cX4_passes 14 = .ok (.goto (-12), 3) := by decide +kernel
theorem dX4_passes_17 : decode cX4_passes 17 = .ok (.aload_n 0, 1) := by decide +kernel
theorem dX4_passes_18 : decode cX4_passes 18 = .ok (.getfield 7, 3) := by decide +kernel
theorem dX4_passes_21 : decode cX4_passes 21 = .ok (.iconst 0, 1) := by decide +kernel
theorem dX4_passes_22 : decode cX4_passes 22 = .ok (.iaload, 1) := by decide +kernel
theorem dX4_passes_23 : decode cX4_passes 23 = .ok (.ireturn, 1) := by decide +kernel
theorem dX4_tick_0 : decode cX4_tick 0 = .ok (.iload_n 1, 1) := by decide +kernel
theorem dX4_tick_1 : decode cX4_tick 1 = .ok (.iconst 1, 1) := by decide +kernel
theorem dX4_tick_2 : decode cX4_tick 2 = .ok (.sipush 200, 3) := by decide +kernel
theorem dX4_tick_5 : decode cX4_tick 5 = .ok (.invokestatic 59, 3) := by decide +kernel
theorem dX4_tick_8 : decode cX4_tick 8 = .ok (.ifCond .ne 6, 3) := by decide +kernel
theorem dX4_tick_11 : decode cX4_tick 11 = .ok (.ldc 72, 2) := by decide +kernel
theorem dX4_tick_13 : decode cX4_tick 13 = .ok (.ireturn, 1) := by decide +kernel
theorem dX4_tick_14 : decode cX4_tick 14 = .ok (.aload_n 0, 1) := by decide +kernel
theorem dX4_tick_15 : decode cX4_tick 15 = .ok (.invokevirtual 73, 3) := by decide +kernel
theorem dX4_tick_18 : decode cX4_tick 18 = .ok (.aload_n 0, 1) := by decide +kernel
theorem dX4_tick_19 : decode cX4_tick 19 = .ok (.iload_n 1, 1) := by decide +kernel
theorem dX4_tick_20 : decode cX4_tick 20 = .ok (.invokevirtual 137, 3) := by decide +kernel
theorem dX4_tick_23 : decode cX4_tick 23 = .ok (.ireturn, 1) := by decide +kernel
theorem dX4_append_0 : decode cX4_append 0 = .ok (.iload_n 1, 1) := by decide +kernel
theorem dX4_append_1 : decode cX4_append 1 = .ok (.iconst 0, 1) := by decide +kernel
theorem dX4_append_2 : decode cX4_append 2 = .ok (.bipush 127, 2) := by decide +kernel
theorem dX4_append_4 : decode cX4_append 4 = .ok (.invokestatic 59, 3) := by decide +kernel
theorem dX4_append_7 : decode cX4_append 7 = .ok (.ifCond .ne 6, 3) := by decide +kernel
theorem dX4_append_10 : decode cX4_append 10 = .ok (.ldc 72, 2) := by decide +kernel
theorem dX4_append_12 : decode cX4_append 12 = .ok (.ireturn, 1) := by decide +kernel
theorem dX4_append_13 : decode cX4_append 13 = .ok (.aload_n 0, 1) := by decide +kernel
theorem dX4_append_14 : decode cX4_append 14 = .ok (.getfield 140, 3) := by decide +kernel
theorem dX4_append_17 : decode cX4_append 17 = .ok (.bipush 80, 2) := by decide +kernel
theorem dX4_append_19 : decode cX4_append 19 = .ok (.if_icmp .ne 6, 3) := by decide +kernel
theorem dX4_append_22 : decode cX4_append 22 = .ok (.ldc 91, 2) := by decide +kernel
theorem dX4_append_24 : decode cX4_append 24 = .ok (.ireturn, 1) := by decide +kernel
theorem dX4_append_25 : decode cX4_append 25 = .ok (.aload_n 0, 1) := by decide +kernel
theorem dX4_append_26 : decode cX4_append 26 = .ok (.getfield 26, 3) := by decide +kernel
theorem dX4_append_29 : decode cX4_append 29 = .ok (.aload_n 0, 1) := by decide +kernel
theorem dX4_append_30 : decode cX4_append 30 = .ok (.getfield 140, 3) := by decide +kernel
theorem dX4_append_33 : decode cX4_append 33 = .ok (.iload_n 1, 1) := by decide +kernel
theorem dX4_append_34 : decode cX4_append 34 = .ok (.iastore, 1) := by decide +kernel
theorem dX4_append_35 : decode cX4_append 35 = .ok (.aload_n 0, 1) := by decide +kernel
theorem dX4_append_36 : decode cX4_append 36 = .ok (.dup, 1) := by decide +kernel
theorem dX4_append_37 : decode cX4_append 37 = .ok (.getfield 140, 3) := by decide +kernel
theorem dX4_append_40 : decode cX4_append 40 = .ok (.iconst 1, 1) := by decide +kernel
theorem dX4_append_41 : decode cX4_append 41 = .ok (.iadd, 1) := by decide +kernel
theorem dX4_append_42 : decode cX4_append 42 = .ok (.putfield 140, 3) := by decide +kernel
theorem dX4_append_45 : decode cX4_append 45 = .ok (.aload_n 0, 1) := by decide +kernel
theorem dX4_append_46 : decode cX4_append 46 = .ok (.getfield 140, 3) := by decide +kernel
theorem dX4_append_49 : decode cX4_append 49 = .ok (.ireturn, 1) := by decide +kernel
theorem dX4_clearText_0 : decode cX4_clearText 0 = .ok (.aload_n 0, 1) := by decide +kernel
theorem dX4_clearText_1 : decode cX4_clearText 1 = .ok (.getfield 140, 3) := by decide +kernel
theorem dX4_clearText_4 : decode cX4_clearText 4 = .ok (.istore_n 1, 1) := by decide +kernel
theorem dX4_clearText_5 : decode cX4_clearText 5 = .ok (.aload_n 0, 1) := by decide +kernel
theorem dX4_clearText_6 : decode cX4_clearText 6 = .ok (.iconst 0, 1) := by decide +kernel
theorem dX4_clearText_7 : decode cX4_clearText 7 = .ok (.putfield 140, 3) := by decide +kernel
theorem dX4_clearText_10 : decode cX4_clearText 10 = .ok (.iload_n 1, 1) := by decide +kernel
theorem dX4_clearText_11 : decode cX4_clearText 11 = .ok (.ireturn, 1) := by decide +kernel
theorem dX4_here_0 : decode cX4_here 0 = .ok (.aload_n 0, 1) := by decide +kernel
theorem dX4_here_1 : decode cX4_here 1 = .ok (.getfield 143, 3) := by decide +kernel
theorem dX4_here_4 : decode cX4_here 4 = .ok (.aload_n 0, 1) := by decide +kernel
theorem dX4_here_5 : decode cX4_here 5 = .ok (.getfield 140, 3) := by decide +kernel
theorem dX4_here_8 : decode cX4_here 8 = .ok (.if_icmp .ge 15, 3) := by decide +kernel
theorem dX4_here_11 : decode cX4_here 11 = .ok (.aload_n 0, 1) := by decide +kernel
theorem dX4_here_12 : decode cX4_here 12 = .ok (.getfield 26, 3) := by decide +kernel
theorem dX4_here_15 : decode cX4_here 15 = .ok (.aload_n 0, 1) := by decide +kernel
theorem dX4_here_16 : decode cX4_here 16 = .ok (.getfield 143, 3) := by decide +kernel
theorem dX4_here_19 : decode cX4_here 19 = .ok (.iaload, 1) := by decide +kernel
theorem dX4_here_20 : decode cX4_here 20 = .ok (.goto 4, 3) := by decide +kernel
theorem dX4_here_23 : decode cX4_here 23 = .ok (.iconst (-1), 1) := by decide +kernel
theorem dX4_here_24 : decode cX4_here 24 = .ok (.ireturn, 1) := by decide +kernel
theorem dX4_takes_0 : decode cX4_takes 0 = .ok (.aload_n 0, 1) := by decide +kernel
theorem dX4_takes_1 : decode cX4_takes 1 = .ok (.invokevirtual 146, 3) := by decide +kernel
theorem dX4_takes_4 : decode cX4_takes 4 = .ok (.iload_n 1, 1) := by decide +kernel
theorem dX4_takes_5 : decode cX4_takes 5 = .ok (.if_icmp .ne 7, 3) := by decide +kernel
theorem dX4_takes_8 : decode cX4_takes 8 = .ok (.iconst 1, 1) := by decide +kernel
theorem dX4_takes_9 : decode cX4_takes 9 = .ok (.goto 4, 3) := by decide +kernel
theorem dX4_takes_12 : decode cX4_takes 12 = .ok (.iconst 0, 1) := by decide +kernel
theorem dX4_takes_13 : decode cX4_takes 13 = .ok (.istore_n 2, 1) := by decide +kernel
theorem dX4_takes_14 : decode cX4_takes 14 = .ok (.aload_n 0, 1) := by decide +kernel
theorem dX4_takes_15 : decode cX4_takes 15 = .ok (.dup, 1) := by decide +kernel
theorem dX4_takes_16 : decode cX4_takes 16 = .ok (.getfield 143, 3) := by decide +kernel
theorem dX4_takes_19 : decode cX4_takes 19 = .ok (.iload_n 2, 1) := by decide +kernel
theorem dX4_takes_20 : decode cX4_takes 20 = .ok (.ifCond .eq 7, 3) := by decide +kernel
theorem dX4_takes_23 : decode cX4_takes 23 = .ok (.iconst 1, 1) := by decide +kernel
theorem dX4_takes_24 : decode cX4_takes 24 = .ok (.goto 4, 3) := by decide +kernel
theorem dX4_takes_27 : decode cX4_takes 27 = .ok (.iconst 0, 1) := by decide +kernel
theorem dX4_takes_28 : decode cX4_takes 28 = .ok (.iadd, 1) := by decide +kernel
theorem dX4_takes_29 : decode cX4_takes 29 = .ok (.putfield 143, 3) := by decide +kernel
theorem dX4_takes_32 : decode cX4_takes 32 = .ok (.iload_n 2, 1) := by decide +kernel
theorem dX4_takes_33 : decode cX4_takes 33 = .ok (.ireturn, 1) := by decide +kernel
theorem dX4_isDigit_0 : decode cX4_isDigit 0 = .ok (.aload_n 0, 1) := by decide +kernel
theorem dX4_isDigit_1 : decode cX4_isDigit 1 = .ok (.invokevirtual 146, 3) := by decide +kernel
theorem dX4_isDigit_4 : decode cX4_isDigit 4 = .ok (.bipush 48, 2) := by decide +kernel
theorem dX4_isDigit_6 : decode cX4_isDigit 6 = .ok (.bipush 57, 2) := by decide +kernel
theorem dX4_isDigit_8 : decode cX4_isDigit 8 = .ok (.invokestatic 59, 3) := by decide +kernel
theorem dX4_isDigit_11 : decode cX4_isDigit 11 = .ok (.ireturn, 1) := by decide +kernel
theorem dX4_isFirst_0 : decode cX4_isFirst 0 = .ok (.aload_n 0, 1) := by decide +kernel
theorem dX4_isFirst_1 : decode cX4_isFirst 1 = .ok (.aload_n 0, 1) := by decide +kernel
theorem dX4_isFirst_2 : decode cX4_isFirst 2 = .ok (.invokevirtual 146, 3) := by decide +kernel
theorem dX4_isFirst_5 : decode cX4_isFirst 5 = .ok (.bipush 48, 2) := by decide +kernel
theorem dX4_isFirst_7 : decode cX4_isFirst 7 = .ok (.isub, 1) := by decide +kernel
theorem dX4_isFirst_8 : decode cX4_isFirst 8 = .ok (.putfield 149, 3) := by decide +kernel
theorem dX4_isFirst_11 : decode cX4_isFirst 11 = .ok (.aload_n 0, 1) := by decide +kernel
theorem dX4_isFirst_12 : decode cX4_isFirst 12 = .ok (.getfield 149, 3) := by decide +kernel
theorem dX4_isFirst_15 : decode cX4_isFirst 15 = .ok (.iconst 0, 1) := by decide +kernel
theorem dX4_isFirst_16 : decode cX4_isFirst 16 = .ok (.iload_n 1, 1) := by decide +kernel
theorem dX4_isFirst_17 : decode cX4_isFirst 17 = .ok (.invokestatic 59, 3) := by decide +kernel
theorem dX4_isFirst_20 : decode cX4_isFirst 20 = .ok (.istore_n 2, 1) := by decide +kernel
theorem dX4_isFirst_21 : decode cX4_isFirst 21 = .ok (.aload_n 0, 1) := by decide +kernel
theorem dX4_isFirst_22 : decode cX4_isFirst 22 = .ok (.dup, 1) := by decide +kernel
theorem dX4_isFirst_23 : decode cX4_isFirst 23 = .ok (.getfield 143, 3) := by decide +kernel
theorem dX4_isFirst_26 : decode cX4_isFirst 26 = .ok (.iload_n 2, 1) := by decide +kernel
theorem dX4_isFirst_27 : decode cX4_isFirst 27 = .ok (.ifCond .eq 7, 3) := by decide +kernel
theorem dX4_isFirst_30 : decode cX4_isFirst 30 = .ok (.iconst 1, 1) := by decide +kernel
theorem dX4_isFirst_31 : decode cX4_isFirst 31 = .ok (.goto 4, 3) := by decide +kernel
theorem dX4_isFirst_34 : decode cX4_isFirst 34 = .ok (.iconst 0, 1) := by decide +kernel
theorem dX4_isFirst_35 : decode cX4_isFirst 35 = .ok (.iadd, 1) := by decide +kernel
theorem dX4_isFirst_36 : decode cX4_isFirst 36 = .ok (.putfield 143, 3) := by decide +kernel
theorem dX4_isFirst_39 : decode cX4_isFirst 39 = .ok (.iload_n 2, 1) := by decide +kernel
theorem dX4_isFirst_40 : decode cX4_isFirst 40 = .ok (.ireturn, 1) := by decide +kernel
theorem dX4_isNumber_0 : decode cX4_isNumber 0 = .ok (.aload_n 0, 1) := by decide +kernel
theorem dX4_isNumber_1 : decode cX4_isNumber 1 = .ok (.getfield 143, 3) := by decide +kernel
theorem dX4_isNumber_4 : decode cX4_isNumber 4 = .ok (.istore_n 3, 1) := by decide +kernel
theorem dX4_isNumber_5 : decode cX4_isNumber 5 = .ok (.aload_n 0, 1) := by decide +kernel
theorem dX4_isNumber_6 : decode cX4_isNumber 6 = .ok (.invokevirtual 152, 3) := by decide +kernel
theorem dX4_isNumber_9 : decode cX4_isNumber 9 = .ok (.ifCond .ne 5, 3) := by decide +kernel
theorem dX4_isNumber_12 : decode cX4_isNumber 12 = .ok (.iconst 0, 1) := by decide +kernel
theorem dX4_isNumber_13 : decode cX4_isNumber 13 = .ok (.ireturn, 1) := by decide +kernel
theorem dX4_isNumber_14 : decode cX4_isNumber 14 = .ok (.aload_n 0, 1) := by decide +kernel
theorem dX4_isNumber_15 : decode cX4_isNumber 15 = .ok (.aload_n 0, 1) := by decide +kernel
theorem dX4_isNumber_16 : decode cX4_isNumber 16 = .ok (.invokevirtual 146, 3) := by decide +kernel
theorem dX4_isNumber_19 : decode cX4_isNumber 19 = .ok (.bipush 48, 2) := by decide +kernel
theorem dX4_isNumber_21 : decode cX4_isNumber 21 = .ok (.isub, 1) := by decide +kernel
theorem dX4_isNumber_22 : decode cX4_isNumber 22 = .ok (.putfield 156, 3) := by decide +kernel
theorem dX4_isNumber_25 : decode cX4_isNumber 25 = .ok (.aload_n 0, 1) := by decide +kernel
theorem dX4_isNumber_26 : decode cX4_isNumber 26 = .ok (.dup, 1) := by decide +kernel
theorem dX4_isNumber_27 : decode cX4_isNumber 27 = .ok (.getfield 143, 3) := by decide +kernel
theorem dX4_isNumber_30 : decode cX4_isNumber 30 = .ok (.iconst 1, 1) := by decide +kernel
theorem dX4_isNumber_31 : decode cX4_isNumber 31 = .ok (.iadd, 1) := by decide +kernel
theorem dX4_isNumber_32 : decode cX4_isNumber 32 = .ok (.putfield 143, 3) := by decide +kernel
theorem dX4_isNumber_35 : decode cX4_isNumber 35 = .ok (.aload_n 0, 1) := by decide +kernel
theorem dX4_isNumber_36 : decode cX4_isNumber 36 = .ok (.getfield 156, 3) := by decide +kernel
theorem dX4_isNumber_39 : decode cX4_isNumber 39 = .ok (.ifCond .ne 7, 3) := by decide +kernel
theorem dX4_isNumber_42 : decode cX4_isNumber 42 = .ok (.iconst 1, 1) := by decide +kernel
theorem dX4_isNumber_43 : decode cX4_isNumber 43 = .ok (.goto 4, 3) := by decide +kernel
theorem dX4_isNumber_46 : decode cX4_isNumber 46 = .ok (.iconst 0, 1) := by decide +kernel
theorem dX4_isNumber_47 : decode cX4_isNumber 47 = .ok (.istore 4, 2) := by decide +kernel
theorem dX4_isNumber_49 : decode cX4_isNumber 49 = .ok (.iload 4, 2) := by decide +kernel
theorem dX4_isNumber_51 : decode cX4_isNumber 51 = .ok (.ifCond .ne 52, 3) := by decide +kernel
theorem dX4_isNumber_54 : decode cX4_isNumber 54 = .ok (.aload_n 0, 1) := by decide +kernel
theorem dX4_isNumber_55 : decode cX4_isNumber 55 = .ok (.getfield 143, 3) := by decide +kernel
theorem dX4_isNumber_58 : decode cX4_isNumber 58 = .ok (.iload_n 3, 1) := by decide +kernel
theorem dX4_isNumber_59 : decode cX4_isNumber 59 = .ok (.iconst 3, 1) := by decide +kernel
theorem dX4_isNumber_60 : decode cX4_isNumber 60 = .ok (.iadd, 1) := by decide +kernel
theorem dX4_isNumber_61 : decode cX4_isNumber 61 = .ok (.if_icmp .ge 42, 3) := by decide +kernel
theorem dX4_isNumber_64 : decode cX4_isNumber 64 = .ok (.aload_n 0, 1) := by decide +kernel
theorem dX4_isNumber_65 : decode cX4_isNumber 65 = .ok (.invokevirtual 152, 3) := by decide +kernel
theorem dX4_isNumber_68 : decode cX4_isNumber 68 = .ok (.ifCond .eq 35, 3) := by decide +kernel
theorem dX4_isNumber_71 : decode cX4_isNumber 71 = .ok (.aload_n 0, 1) := by decide +kernel
theorem dX4_isNumber_72 : decode cX4_isNumber 72 = .ok (.bipush 10, 2) := by decide +kernel
theorem dX4_isNumber_74 : decode cX4_isNumber 74 = .ok (.aload_n 0, 1) := by decide +kernel
theorem dX4_isNumber_75 : decode cX4_isNumber 75 = .ok (.getfield 156, 3) := by decide +kernel
theorem dX4_isNumber_78 : decode cX4_isNumber 78 = .ok (.imul, 1) := by decide +kernel
theorem dX4_isNumber_79 : decode cX4_isNumber 79 = .ok (.aload_n 0, 1) := by decide +kernel
theorem dX4_isNumber_80 : decode cX4_isNumber 80 = .ok (.invokevirtual 146, 3) := by decide +kernel
theorem dX4_isNumber_83 : decode cX4_isNumber 83 = .ok (.iadd, 1) := by decide +kernel
theorem dX4_isNumber_84 : decode cX4_isNumber 84 = .ok (.bipush 48, 2) := by decide +kernel
theorem dX4_isNumber_86 : decode cX4_isNumber 86 = .ok (.isub, 1) := by decide +kernel
theorem dX4_isNumber_87 : decode cX4_isNumber 87 = .ok (.putfield 156, 3) := by decide +kernel
theorem dX4_isNumber_90 : decode cX4_isNumber 90 = .ok (.aload_n 0, 1) := by decide +kernel
theorem dX4_isNumber_91 : decode cX4_isNumber 91 = .ok (.dup, 1) := by decide +kernel
theorem dX4_isNumber_92 : decode cX4_isNumber 92 = .ok (.getfield 143, 3) := by decide +kernel
theorem dX4_isNumber_95 : decode cX4_isNumber 95 = .ok (.iconst 1, 1) := by decide +kernel
theorem dX4_isNumber_96 : decode cX4_isNumber 96 = .ok (.iadd, 1) := by decide +kernel
theorem dX4_isNumber_97 : decode cX4_isNumber 97 = .ok (.putfield 143, 3) := by decide +kernel
theorem dX4_isNumber_100 : decode cX4_isNumber 100 = .ok (.goto (-51), 3) := by decide +kernel
theorem dX4_isNumber_103 : decode cX4_isNumber 103 = .ok (.aload_n 0, 1) := by decide +kernel
theorem dX4_isNumber_104 : decode cX4_isNumber 104 = .ok (.getfield 156, 3) := by decide +kernel
theorem dX4_isNumber_107 : decode cX4_isNumber 107 = .ok (.iload_n 1, 1) := by decide +kernel
theorem dX4_isNumber_108 : decode cX4_isNumber 108 = .ok (.iload_n 2, 1) := by decide +kernel
theorem dX4_isNumber_109 : decode cX4_isNumber 109 = .ok (.invokestatic 59, 3) := by decide +kernel
theorem dX4_isNumber_112 : decode cX4_isNumber 112 = .ok (.istore 5, 2) := by decide +kernel
theorem dX4_isNumber_114 : decode cX4_isNumber 114 = .ok (.aload_n 0, 1) := by decide +kernel
theorem dX4_isNumber_115 : decode cX4_isNumber 115 = .ok (.iload 5, 2) := by decide +kernel
theorem dX4_isNumber_117 : decode cX4_isNumber 117 = .ok (.ifCond .eq 10, 3) := by decide +kernel
theorem dX4_isNumber_120 : decode cX4_isNumber 120 = .ok (.aload_n 0, 1) := by decide +kernel
theorem dX4_isNumber_121 : decode cX4_isNumber 121 = .ok (.getfield 143, 3) := by decide +kernel
theorem dX4_isNumber_124 : decode cX4_isNumber 124 = .ok (.goto 4, 3) := by decide +kernel
theorem dX4_isNumber_127 : decode cX4_isNumber 127 = .ok (.iload_n 3, 1) := by decide +kernel
theorem dX4_isNumber_128 : decode cX4_isNumber 128 = .ok (.putfield 143, 3) := by decide +kernel
theorem dX4_isNumber_131 : decode cX4_isNumber 131 = .ok (.iload 5, 2) := by decide +kernel
theorem dX4_isNumber_133 : decode cX4_isNumber 133 = .ok (.ireturn, 1) := by decide +kernel
theorem dX4_isAct_0 : decode cX4_isAct 0 = .ok (.aload_n 0, 1) := by decide +kernel
theorem dX4_isAct_1 : decode cX4_isAct 1 = .ok (.aload_n 0, 1) := by decide +kernel
theorem dX4_isAct_2 : decode cX4_isAct 2 = .ok (.invokevirtual 146, 3) := by decide +kernel
theorem dX4_isAct_5 : decode cX4_isAct 5 = .ok (.putfield 159, 3) := by decide +kernel
theorem dX4_isAct_8 : decode cX4_isAct 8 = .ok (.aload_n 0, 1) := by decide +kernel
theorem dX4_isAct_9 : decode cX4_isAct 9 = .ok (.bipush 100, 2) := by decide +kernel
theorem dX4_isAct_11 : decode cX4_isAct 11 = .ok (.invokevirtual 162, 3) := by decide +kernel
theorem dX4_isAct_14 : decode cX4_isAct 14 = .ok (.ifCond .ne 12, 3) := by decide +kernel
theorem dX4_isAct_17 : decode cX4_isAct 17 = .ok (.aload_n 0, 1) := by decide +kernel
theorem dX4_isAct_18 : decode cX4_isAct 18 = .ok (.bipush 114, 2) := by decide +kernel
theorem dX4_isAct_20 : decode cX4_isAct 20 = .ok (.invokevirtual 162, 3) := by decide +kernel
theorem dX4_isAct_23 : decode cX4_isAct 23 = .ok (.ifCond .eq 10, 3) := by decide +kernel
theorem dX4_isAct_26 : decode cX4_isAct 26 = .ok (.aload_n 0, 1) := by decide +kernel
theorem dX4_isAct_27 : decode cX4_isAct 27 = .ok (.bipush 7, 2) := by decide +kernel
theorem dX4_isAct_29 : decode cX4_isAct 29 = .ok (.invokevirtual 165, 3) := by decide +kernel
theorem dX4_isAct_32 : decode cX4_isAct 32 = .ok (.ireturn, 1) := by decide +kernel
theorem dX4_isAct_33 : decode cX4_isAct 33 = .ok (.aload_n 0, 1) := by decide +kernel
theorem dX4_isAct_34 : decode cX4_isAct 34 = .ok (.bipush 112, 2) := by decide +kernel
theorem dX4_isAct_36 : decode cX4_isAct 36 = .ok (.invokevirtual 162, 3) := by decide +kernel
theorem dX4_isAct_39 : decode cX4_isAct 39 = .ok (.ifCond .ne 12, 3) := by decide +kernel
theorem dX4_isAct_42 : decode cX4_isAct 42 = .ok (.aload_n 0, 1) := by decide +kernel
theorem dX4_isAct_43 : decode cX4_isAct 43 = .ok (.bipush 108, 2) := by decide +kernel
theorem dX4_isAct_45 : decode cX4_isAct 45 = .ok (.invokevirtual 162, 3) := by decide +kernel
theorem dX4_isAct_48 : decode cX4_isAct 48 = .ok (.ifCond .eq 36, 3) := by decide +kernel
theorem dX4_isAct_51 : decode cX4_isAct 51 = .ok (.aload_n 0, 1) := by decide +kernel
theorem dX4_isAct_52 : decode cX4_isAct 52 = .ok (.iconst 1, 1) := by decide +kernel
theorem dX4_isAct_53 : decode cX4_isAct 53 = .ok (.invokevirtual 165, 3) := by decide +kernel
theorem dX4_isAct_56 : decode cX4_isAct 56 = .ok (.ifCond .eq 26, 3) := by decide +kernel
theorem dX4_isAct_59 : decode cX4_isAct 59 = .ok (.aload_n 0, 1) := by decide +kernel
theorem dX4_isAct_60 : decode cX4_isAct 60 = .ok (.iconst 0, 1) := by decide +kernel
theorem dX4_isAct_61 : decode cX4_isAct 61 = .ok (.bipush 23, 2) := by decide +kernel
theorem dX4_isAct_63 : decode cX4_isAct 63 = .ok (.invokevirtual 168, 3) := by decide +kernel
theorem dX4_isAct_66 : decode cX4_isAct 66 = .ok (.ifCond .eq 16, 3) := by decide +kernel
theorem dX4_isAct_69 : decode cX4_isAct 69 = .ok (.aload_n 0, 1) := by decide +kernel
theorem dX4_isAct_70 : decode cX4_isAct 70 = .ok (.bipush 59, 2) := by decide +kernel
theorem dX4_isAct_72 : decode cX4_isAct 72 = .ok (.invokevirtual 162, 3) := by decide +kernel
theorem dX4_isAct_75 : decode cX4_isAct 75 = .ok (.ifCond .eq 7, 3) := by decide +kernel
theorem dX4_isAct_78 : decode cX4_isAct 78 = .ok (.iconst 1, 1) := by decide +kernel
theorem dX4_isAct_79 : decode cX4_isAct 79 = .ok (.goto 4, 3) := by decide +kernel
theorem dX4_isAct_82 : decode cX4_isAct 82 = .ok (.iconst 0, 1) := by decide +kernel
theorem dX4_isAct_83 : decode cX4_isAct 83 = .ok (.ireturn, 1) := by decide +kernel
theorem dX4_isAct_84 : decode cX4_isAct 84 = .ok (.aload_n 0, 1) := by decide +kernel
theorem dX4_isAct_85 : decode cX4_isAct 85 = .ok (.bipush 116, 2) := by decide +kernel
theorem dX4_isAct_87 : decode cX4_isAct 87 = .ok (.invokevirtual 162, 3) := by decide +kernel
theorem dX4_isAct_90 : decode cX4_isAct 90 = .ok (.ifCond .eq 27, 3) := by decide +kernel
theorem dX4_isAct_93 : decode cX4_isAct 93 = .ok (.aload_n 0, 1) := by decide +kernel
theorem dX4_isAct_94 : decode cX4_isAct 94 = .ok (.iconst 1, 1) := by decide +kernel
theorem dX4_isAct_95 : decode cX4_isAct 95 = .ok (.sipush 200, 3) := by decide +kernel
theorem dX4_isAct_98 : decode cX4_isAct 98 = .ok (.invokevirtual 168, 3) := by decide +kernel
theorem dX4_isAct_101 : decode cX4_isAct 101 = .ok (.ifCond .eq 16, 3) := by decide +kernel
theorem dX4_isAct_104 : decode cX4_isAct 104 = .ok (.aload_n 0, 1) := by decide +kernel
theorem dX4_isAct_105 : decode cX4_isAct 105 = .ok (.bipush 59, 2) := by decide +kernel
theorem dX4_isAct_107 : decode cX4_isAct 107 = .ok (.invokevirtual 162, 3) := by decide +kernel
theorem dX4_isAct_110 : decode cX4_isAct 110 = .ok (.ifCond .eq 7, 3) := by decide +kernel
theorem dX4_isAct_113 : decode cX4_isAct 113 = .ok (.iconst 1, 1) := by decide +kernel
theorem dX4_isAct_114 : decode cX4_isAct 114 = .ok (.goto 4, 3) := by decide +kernel
theorem dX4_isAct_117 : decode cX4_isAct 117 = .ok (.iconst 0, 1) := by decide +kernel
theorem dX4_isAct_118 : decode cX4_isAct 118 = .ok (.ireturn, 1) := by decide +kernel
theorem dX4_isText_0 : decode cX4_isText 0 = .ok (.aload_n 0, 1) := by decide +kernel
theorem dX4_isText_1 : decode cX4_isText 1 = .ok (.iconst 0, 1) := by decide +kernel
theorem dX4_isText_2 : decode cX4_isText 2 = .ok (.putfield 143, 3) := by decide +kernel
theorem dX4_isText_5 : decode cX4_isText 5 = .ok (.iconst 1, 1) := by decide +kernel
theorem dX4_isText_6 : decode cX4_isText 6 = .ok (.istore_n 1, 1) := by decide +kernel
theorem dX4_isText_7 : decode cX4_isText 7 = .ok (.iload_n 1, 1) := by decide +kernel
theorem dX4_isText_8 : decode cX4_isText 8 = .ok (.ifCond .eq 22, 3) := by decide +kernel
theorem dX4_isText_11 : decode cX4_isText 11 = .ok (.aload_n 0, 1) := by decide +kernel
theorem dX4_isText_12 : decode cX4_isText 12 = .ok (.getfield 143, 3) := by decide +kernel
theorem dX4_isText_15 : decode cX4_isText 15 = .ok (.aload_n 0, 1) := by decide +kernel
theorem dX4_isText_16 : decode cX4_isText 16 = .ok (.getfield 140, 3) := by decide +kernel
theorem dX4_isText_19 : decode cX4_isText 19 = .ok (.if_icmp .ge 11, 3) := by decide +kernel
theorem dX4_isText_22 : decode cX4_isText 22 = .ok (.aload_n 0, 1) := by decide +kernel
theorem dX4_isText_23 : decode cX4_isText 23 = .ok (.invokevirtual 171, 3) := by decide +kernel
theorem dX4_isText_26 : decode cX4_isText 26 = .ok (.istore_n 1, 1) := by decide +kernel
theorem dX4_isText_27 : decode cX4_isText 27 = .ok (.goto (-20), 3) := by decide +kernel
theorem dX4_isText_30 : decode cX4_isText 30 = .ok (.iload_n 1, 1) := by decide +kernel
theorem dX4_isText_31 : decode cX4_isText 31 = .ok (.ireturn, 1) := by decide +kernel
theorem dX4_faultPosition_0 : decode cX4_faultPosition 0 = .ok (.aload_n 0, 1) := by decide +kernel
theorem dX4_faultPosition_1 : decode cX4_faultPosition 1 = .ok (.invokevirtual 174, 3) := by decide +kernel
theorem dX4_faultPosition_4 : decode cX4_faultPosition 4 = .ok (.ifCond .eq 8, 3) := by decide +kernel
theorem dX4_faultPosition_7 : decode cX4_faultPosition 7 = .ok (.ldc 177, 2) := by decide +kernel
theorem dX4_faultPosition_9 : decode cX4_faultPosition 9 = .ok (.goto 7, 3) := by decide +kernel
theorem dX4_faultPosition_12 : decode cX4_faultPosition 12 = .ok (.aload_n 0, 1) := by decide +kernel
theorem dX4_faultPosition_13 : decode cX4_faultPosition 13 = .ok (.getfield 143, 3) := by decide +kernel
theorem dX4_faultPosition_16 : decode cX4_faultPosition 16 = .ok (.ireturn, 1) := by decide +kernel
theorem dX4_play_0 : decode cX4_play 0 = .ok (.aload_n 0, 1) := by decide +kernel
theorem dX4_play_1 : decode cX4_play 1 = .ok (.invokevirtual 174, 3) := by decide +kernel
theorem dX4_play_4 : decode cX4_play 4 = .ok (.ifCond .ne 6, 3) := by decide +kernel
theorem dX4_play_7 : decode cX4_play 7 = .ok (.ldc 178, 2) := by decide +kernel
theorem dX4_play_9 : decode cX4_play 9 = .ok (.ireturn, 1) := by decide +kernel
theorem dX4_play_10 : decode cX4_play 10 = .ok (.aload_n 0, 1) := by decide +kernel
theorem dX4_play_11 : decode cX4_play 11 = .ok (.invokevirtual 73, 3) := by decide +kernel
theorem dX4_play_14 : decode cX4_play 14 = .ok (.aload_n 0, 1) := by decide +kernel
theorem dX4_play_15 : decode cX4_play 15 = .ok (.iconst 0, 1) := by decide +kernel
theorem dX4_play_16 : decode cX4_play 16 = .ok (.putfield 143, 3) := by decide +kernel
theorem dX4_play_19 : decode cX4_play 19 = .ok (.iconst 0, 1) := by decide +kernel
theorem dX4_play_20 : decode cX4_play 20 = .ok (.istore_n 1, 1) := by decide +kernel
theorem dX4_play_21 : decode cX4_play 21 = .ok (.aload_n 0, 1) := by decide +kernel
theorem dX4_play_22 : decode cX4_play 22 = .ok (.getfield 143, 3) := by decide +kernel
theorem dX4_play_25 : decode cX4_play 25 = .ok (.aload_n 0, 1) := by decide +kernel
theorem dX4_play_26 : decode cX4_play 26 = .ok (.getfield 140, 3) := by decide +kernel
theorem dX4_play_29 : decode cX4_play 29 = .ok (.if_icmp .ge 104, 3) := by decide +kernel
theorem dX4_play_32 : decode cX4_play 32 = .ok (.aload_n 0, 1) := by decide +kernel
theorem dX4_play_33 : decode cX4_play 33 = .ok (.invokevirtual 171, 3) := by decide +kernel
theorem dX4_play_36 : decode cX4_play 36 = .ok (.istore_n 2, 1) := by decide +kernel
theorem dX4_play_37 : decode cX4_play 37 = .ok (.aload_n 0, 1) := by decide +kernel
theorem dX4_play_38 : decode cX4_play 38 = .ok (.getfield 159, 3) := by decide +kernel
theorem dX4_play_41 : decode cX4_play 41 = .ok (.bipush 116, 2) := by decide +kernel
theorem dX4_play_43 : decode cX4_play 43 = .ok (.if_icmp .ne 14, 3) := by decide +kernel
theorem dX4_play_46 : decode cX4_play 46 = .ok (.aload_n 0, 1) := by decide +kernel
theorem dX4_play_47 : decode cX4_play 47 = .ok (.aload_n 0, 1) := by decide +kernel
theorem dX4_play_48 : decode cX4_play 48 = .ok (.getfield 156, 3) := by decide +kernel
theorem dX4_play_51 : decode cX4_play 51 = .ok (.invokevirtual 137, 3) := by decide +kernel
theorem dX4_play_54 : decode cX4_play 54 = .ok (.goto 72, 3) := by decide +kernel
theorem dX4_play_57 : decode cX4_play 57 = .ok (.aload_n 0, 1) := by decide +kernel
theorem dX4_play_58 : decode cX4_play 58 = .ok (.getfield 159, 3) := by decide +kernel
theorem dX4_play_61 : decode cX4_play 61 = .ok (.bipush 100, 2) := by decide +kernel
theorem dX4_play_63 : decode cX4_play 63 = .ok (.if_icmp .eq 12, 3) := by decide +kernel
theorem dX4_play_66 : decode cX4_play 66 = .ok (.aload_n 0, 1) := by decide +kernel
theorem dX4_play_67 : decode cX4_play 67 = .ok (.getfield 159, 3) := by decide +kernel
theorem dX4_play_70 : decode cX4_play 70 = .ok (.bipush 114, 2) := by decide +kernel
theorem dX4_play_72 : decode cX4_play 72 = .ok (.if_icmp .ne 28, 3) := by decide +kernel
theorem dX4_play_75 : decode cX4_play 75 = .ok (.aload_n 0, 1) := by decide +kernel
theorem dX4_play_76 : decode cX4_play 76 = .ok (.aload_n 0, 1) := by decide +kernel
theorem dX4_play_77 : decode cX4_play 77 = .ok (.getfield 149, 3) := by decide +kernel
theorem dX4_play_80 : decode cX4_play 80 = .ok (.aload_n 0, 1) := by decide +kernel
theorem dX4_play_81 : decode cX4_play 81 = .ok (.getfield 159, 3) := by decide +kernel
theorem dX4_play_84 : decode cX4_play 84 = .ok (.bipush 100, 2) := by decide +kernel
theorem dX4_play_86 : decode cX4_play 86 = .ok (.if_icmp .ne 7, 3) := by decide +kernel
theorem dX4_play_89 : decode cX4_play 89 = .ok (.iconst 1, 1) := by decide +kernel
theorem dX4_play_90 : decode cX4_play 90 = .ok (.goto 4, 3) := by decide +kernel
theorem dX4_play_93 : decode cX4_play 93 = .ok (.iconst 0, 1) := by decide +kernel
theorem dX4_play_94 : decode cX4_play 94 = .ok (.invokevirtual 99, 3) := by decide +kernel
theorem dX4_play_97 : decode cX4_play 97 = .ok (.goto 29, 3) := by decide +kernel
theorem dX4_play_100 : decode cX4_play 100 = .ok (.aload_n 0, 1) := by decide +kernel
theorem dX4_play_101 : decode cX4_play 101 = .ok (.aload_n 0, 1) := by decide +kernel
theorem dX4_play_102 : decode cX4_play 102 = .ok (.getfield 149, 3) := by decide +kernel
theorem dX4_play_105 : decode cX4_play 105 = .ok (.aload_n 0, 1) := by decide +kernel
theorem dX4_play_106 : decode cX4_play 106 = .ok (.getfield 156, 3) := by decide +kernel
theorem dX4_play_109 : decode cX4_play 109 = .ok (.aload_n 0, 1) := by decide +kernel
theorem dX4_play_110 : decode cX4_play 110 = .ok (.getfield 159, 3) := by decide +kernel
theorem dX4_play_113 : decode cX4_play 113 = .ok (.bipush 112, 2) := by decide +kernel
theorem dX4_play_115 : decode cX4_play 115 = .ok (.if_icmp .ne 7, 3) := by decide +kernel
theorem dX4_play_118 : decode cX4_play 118 = .ok (.iconst 1, 1) := by decide +kernel
theorem dX4_play_119 : decode cX4_play 119 = .ok (.goto 4, 3) := by decide +kernel
theorem dX4_play_122 : decode cX4_play 122 = .ok (.iconst 0, 1) := by decide +kernel
theorem dX4_play_123 : decode cX4_play 123 = .ok (.invokevirtual 103, 3) := by decide +kernel
theorem dX4_play_126 : decode cX4_play 126 = .ok (.istore_n 3, 1) := by decide +kernel
theorem dX4_play_127 : decode cX4_play 127 = .ok (.iinc 1 1, 3) := by decide +kernel
theorem dX4_play_130 : decode cX4_play 130 = .ok (.goto (-109), 3) := by decide +kernel
theorem dX4_play_133 : decode cX4_play 133 = .ok (.iload_n 1, 1) := by decide +kernel
theorem dX4_play_134 : decode cX4_play 134 = .ok (.ireturn, 1) := by decide +kernel
theorem dX4_speaking_0 : decode cX4_speaking 0 = .ok (.iconst 0, 1) := by decide +kernel
theorem dX4_speaking_1 : decode cX4_speaking 1 = .ok (.istore_n 2, 1) := by decide +kernel
theorem dX4_speaking_2 : decode cX4_speaking 2 = .ok (.iconst 0, 1) := by decide +kernel
theorem dX4_speaking_3 : decode cX4_speaking 3 = .ok (.istore_n 3, 1) := by decide +kernel
theorem dX4_speaking_4 : decode cX4_speaking 4 = .ok (.iload_n 3, 1) := by decide +kernel
theorem dX4_speaking_5 : decode cX4_speaking 5 = .ok (.sipush 192, 3) := by decide +kernel
theorem dX4_speaking_8 : decode cX4_speaking 8 = .ok (.if_icmp .ge 33, 3) := by decide +kernel
theorem dX4_speaking_11 : decode cX4_speaking 11 = .ok (.iload_n 2, 1) := by decide +kernel
theorem dX4_speaking_12 : decode cX4_speaking 12 = .ok (.aload_n 0, 1) := by decide +kernel
theorem dX4_speaking_13 : decode cX4_speaking 13 = .ok (.iload_n 3, 1) := by decide +kernel
theorem dX4_speaking_14 : decode cX4_speaking 14 = .ok (.bipush 24, 2) := by decide +kernel
theorem dX4_speaking_16 : decode cX4_speaking 16 = .ok (.idiv, 1) := by decide +kernel
theorem dX4_speaking_17 : decode cX4_speaking 17 = .ok (.iload_n 3, 1) := by decide +kernel
theorem dX4_speaking_18 : decode cX4_speaking 18 = .ok (.bipush 24, 2) := by decide +kernel
theorem dX4_speaking_20 : decode cX4_speaking 20 = .ok (.irem, 1) := by decide +kernel
theorem dX4_speaking_21 : decode cX4_speaking 21 = .ok (.iload_n 1, 1) := by decide +kernel
theorem dX4_speaking_22 : decode cX4_speaking 22 = .ok (.invokevirtual 179, 3) := by decide +kernel
theorem dX4_speaking_25 : decode cX4_speaking 25 = .ok (.ifCond .ne 7, 3) := by decide +kernel
theorem dX4_speaking_28 : decode cX4_speaking 28 = .ok (.iconst 1, 1) := by decide +kernel
theorem dX4_speaking_29 : decode cX4_speaking 29 = .ok (.goto 4, 3) := by decide +kernel
theorem dX4_speaking_32 : decode cX4_speaking 32 = .ok (.iconst 0, 1) := by decide +kernel
theorem dX4_speaking_33 : decode cX4_speaking 33 = .ok (.iadd, 1) := by decide +kernel
theorem dX4_speaking_34 : decode cX4_speaking 34 = .ok (.istore_n 2, 1) := by decide +kernel
theorem dX4_speaking_35 : decode cX4_speaking 35 = .ok (.iinc 3 1, 3) := by decide +kernel
theorem dX4_speaking_38 : decode cX4_speaking 38 = .ok (.goto (-34), 3) := by decide +kernel
theorem dX4_speaking_41 : decode cX4_speaking 41 = .ok (.iload_n 2, 1) := by decide +kernel
theorem dX4_speaking_42 : decode cX4_speaking 42 = .ok (.ireturn, 1) := by decide +kernel
theorem dX4_openMany_0 : decode cX4_openMany 0 = .ok (.iconst 0, 1) := by decide +kernel
theorem dX4_openMany_1 : decode cX4_openMany 1 = .ok (.istore_n 1, 1) := by decide +kernel
theorem dX4_openMany_2 : decode cX4_openMany 2 = .ok (.iconst 0, 1) := by decide +kernel
theorem dX4_openMany_3 : decode cX4_openMany 3 = .ok (.istore_n 2, 1) := by decide +kernel
theorem dX4_openMany_4 : decode cX4_openMany 4 = .ok (.iload_n 2, 1) := by decide +kernel
theorem dX4_openMany_5 : decode cX4_openMany 5 = .ok (.bipush 8, 2) := by decide +kernel
theorem dX4_openMany_7 : decode cX4_openMany 7 = .ok (.if_icmp .ge 21, 3) := by decide +kernel
theorem dX4_openMany_10 : decode cX4_openMany 10 = .ok (.iload_n 1, 1) := by decide +kernel
theorem dX4_openMany_11 : decode cX4_openMany 11 = .ok (.aload_n 0, 1) := by decide +kernel
theorem dX4_openMany_12 : decode cX4_openMany 12 = .ok (.getfield 41, 3) := by decide +kernel
theorem dX4_openMany_15 : decode cX4_openMany 15 = .ok (.iload_n 2, 1) := by decide +kernel
theorem dX4_openMany_16 : decode cX4_openMany 16 = .ok (.iaload, 1) := by decide +kernel
theorem dX4_openMany_17 : decode cX4_openMany 17 = .ok (.invokestatic 80, 3) := by decide +kernel
theorem dX4_openMany_20 : decode cX4_openMany 20 = .ok (.iadd, 1) := by decide +kernel
theorem dX4_openMany_21 : decode cX4_openMany 21 = .ok (.istore_n 1, 1) := by decide +kernel
theorem dX4_openMany_22 : decode cX4_openMany 22 = .ok (.iinc 2 1, 3) := by decide +kernel
theorem dX4_openMany_25 : decode cX4_openMany 25 = .ok (.goto (-21), 3) := by decide +kernel
theorem dX4_openMany_28 : decode cX4_openMany 28 = .ok (.iload_n 1, 1) := by decide +kernel
theorem dX4_openMany_29 : decode cX4_openMany 29 = .ok (.ireturn, 1) := by decide +kernel
theorem dX4_tells_0 : decode cX4_tells 0 = .ok (.aload_n 0, 1) := by decide +kernel
theorem dX4_tells_1 : decode cX4_tells 1 = .ok (.invokevirtual 131, 3) := by decide +kernel
theorem dX4_tells_4 : decode cX4_tells 4 = .ok (.iload_n 1, 1) := by decide +kernel
theorem dX4_tells_5 : decode cX4_tells 5 = .ok (.tableswitch 94 0 8 #[51, 58, 63, 63, 63, 63, 75, 80, 89], 51) := by decide +kernel
theorem dX4_tells_56 : decode cX4_tells 56 = .ok (.aload_n 0, 1) := by decide +kernel
theorem dX4_tells_57 : decode cX4_tells 57 = .ok (.getfield 7, 3) := by decide +kernel
theorem dX4_tells_60 : decode cX4_tells 60 = .ok (.iconst 0, 1) := by decide +kernel
theorem dX4_tells_61 : decode cX4_tells 61 = .ok (.iaload, 1) := by decide +kernel
theorem dX4_tells_62 : decode cX4_tells 62 = .ok (.ireturn, 1) := by decide +kernel
theorem dX4_tells_63 : decode cX4_tells 63 = .ok (.aload_n 0, 1) := by decide +kernel
theorem dX4_tells_64 : decode cX4_tells 64 = .ok (.invokevirtual 114, 3) := by decide +kernel
theorem dX4_tells_67 : decode cX4_tells 67 = .ok (.ireturn, 1) := by decide +kernel
theorem dX4_tells_68 : decode cX4_tells 68 = .ok (.aload_n 0, 1) := by decide +kernel
theorem dX4_tells_69 : decode cX4_tells 69 = .ok (.getfield 7, 3) := by decide +kernel
theorem dX4_tells_72 : decode cX4_tells 72 = .ok (.bipush 13, 2) := by decide +kernel
theorem dX4_tells_74 : decode cX4_tells 74 = .ok (.iload_n 1, 1) := by decide +kernel
theorem dX4_tells_75 : decode cX4_tells 75 = .ok (.iadd, 1) := by decide +kernel
theorem dX4_tells_76 : decode cX4_tells 76 = .ok (.iconst 2, 1) := by decide +kernel
theorem dX4_tells_77 : decode cX4_tells 77 = .ok (.isub, 1) := by decide +kernel
theorem dX4_tells_78 : decode cX4_tells 78 = .ok (.iaload, 1) := by decide +kernel
theorem dX4_tells_79 : decode cX4_tells 79 = .ok (.ireturn, 1) := by decide +kernel
theorem dX4_tells_80 : decode cX4_tells 80 = .ok (.aload_n 0, 1) := by decide +kernel
theorem dX4_tells_81 : decode cX4_tells 81 = .ok (.invokevirtual 183, 3) := by decide +kernel
theorem dX4_tells_84 : decode cX4_tells 84 = .ok (.ireturn, 1) := by decide +kernel
theorem dX4_tells_85 : decode cX4_tells 85 = .ok (.aload_n 0, 1) := by decide +kernel
theorem dX4_tells_86 : decode cX4_tells 86 = .ok (.aload_n 0, 1) := by decide +kernel
theorem dX4_tells_87 : decode cX4_tells 87 = .ok (.invokevirtual 96, 3) := by decide +kernel
theorem dX4_tells_90 : decode cX4_tells 90 = .ok (.invokevirtual 186, 3) := by decide +kernel
theorem dX4_tells_93 : decode cX4_tells 93 = .ok (.ireturn, 1) := by decide +kernel
theorem dX4_tells_94 : decode cX4_tells 94 = .ok (.aload_n 0, 1) := by decide +kernel
theorem dX4_tells_95 : decode cX4_tells 95 = .ok (.invokevirtual 87, 3) := by decide +kernel
theorem dX4_tells_98 : decode cX4_tells 98 = .ok (.ireturn, 1) := by decide +kernel
theorem dX4_tells_99 : decode cX4_tells 99 = .ok (.aload_n 0, 1) := by decide +kernel
theorem dX4_tells_100 : decode cX4_tells 100 = .ok (.getfield 7, 3) := by decide +kernel
theorem dX4_tells_103 : decode cX4_tells 103 = .ok (.bipush 20, 2) := by decide +kernel
theorem dX4_tells_105 : decode cX4_tells 105 = .ok (.iaload, 1) := by decide +kernel
theorem dX4_tells_106 : decode cX4_tells 106 = .ok (.ireturn, 1) := by decide +kernel
theorem dX4_tell_0 : decode cX4_tell 0 = .ok (.iload_n 1, 1) := by decide +kernel
theorem dX4_tell_1 : decode cX4_tell 1 = .ok (.iconst 0, 1) := by decide +kernel
theorem dX4_tell_2 : decode cX4_tell 2 = .ok (.bipush 9, 2) := by decide +kernel
theorem dX4_tell_4 : decode cX4_tell 4 = .ok (.invokestatic 59, 3) := by decide +kernel
theorem dX4_tell_7 : decode cX4_tell 7 = .ok (.ifCond .eq 11, 3) := by decide +kernel
theorem dX4_tell_10 : decode cX4_tell 10 = .ok (.aload_n 0, 1) := by decide +kernel
theorem dX4_tell_11 : decode cX4_tell 11 = .ok (.iload_n 1, 1) := by decide +kernel
theorem dX4_tell_12 : decode cX4_tell 12 = .ok (.invokevirtual 189, 3) := by decide +kernel
theorem dX4_tell_15 : decode cX4_tell 15 = .ok (.goto 5, 3) := by decide +kernel
theorem dX4_tell_18 : decode cX4_tell 18 = .ok (.ldc 71, 2) := by decide +kernel
theorem dX4_tell_20 : decode cX4_tell 20 = .ok (.ireturn, 1) := by decide +kernel
theorem dX4_chestTells_0 : decode cX4_chestTells 0 = .ok (.aload_n 0, 1) := by decide +kernel
theorem dX4_chestTells_1 : decode cX4_chestTells 1 = .ok (.invokevirtual 131, 3) := by decide +kernel
theorem dX4_chestTells_4 : decode cX4_chestTells 4 = .ok (.iload_n 2, 1) := by decide +kernel
theorem dX4_chestTells_5 : decode cX4_chestTells 5 = .ok (.ifCond .ne 12, 3) := by decide +kernel
theorem dX4_chestTells_8 : decode cX4_chestTells 8 = .ok (.aload_n 0, 1) := by decide +kernel
theorem dX4_chestTells_9 : decode cX4_chestTells 9 = .ok (.getfield 47, 3) := by decide +kernel
theorem dX4_chestTells_12 : decode cX4_chestTells 12 = .ok (.iload_n 1, 1) := by decide +kernel
theorem dX4_chestTells_13 : decode cX4_chestTells 13 = .ok (.iaload, 1) := by decide +kernel
theorem dX4_chestTells_14 : decode cX4_chestTells 14 = .ok (.goto 23, 3) := by decide +kernel
theorem dX4_chestTells_17 : decode cX4_chestTells 17 = .ok (.iload_n 2, 1) := by decide +kernel
theorem dX4_chestTells_18 : decode cX4_chestTells 18 = .ok (.iconst 1, 1) := by decide +kernel
theorem dX4_chestTells_19 : decode cX4_chestTells 19 = .ok (.if_icmp .ne 12, 3) := by decide +kernel
theorem dX4_chestTells_22 : decode cX4_chestTells 22 = .ok (.aload_n 0, 1) := by decide +kernel
theorem dX4_chestTells_23 : decode cX4_chestTells 23 = .ok (.getfield 44, 3) := by decide +kernel
theorem dX4_chestTells_26 : decode cX4_chestTells 26 = .ok (.iload_n 1, 1) := by decide +kernel
theorem dX4_chestTells_27 : decode cX4_chestTells 27 = .ok (.iaload, 1) := by decide +kernel
theorem dX4_chestTells_28 : decode cX4_chestTells 28 = .ok (.goto 9, 3) := by decide +kernel
theorem dX4_chestTells_31 : decode cX4_chestTells 31 = .ok (.aload_n 0, 1) := by decide +kernel
theorem dX4_chestTells_32 : decode cX4_chestTells 32 = .ok (.getfield 38, 3) := by decide +kernel
theorem dX4_chestTells_35 : decode cX4_chestTells 35 = .ok (.iload_n 1, 1) := by decide +kernel
theorem dX4_chestTells_36 : decode cX4_chestTells 36 = .ok (.iaload, 1) := by decide +kernel
theorem dX4_chestTells_37 : decode cX4_chestTells 37 = .ok (.ireturn, 1) := by decide +kernel
theorem dX4_chest_0 : decode cX4_chest 0 = .ok (.iload_n 1, 1) := by decide +kernel
theorem dX4_chest_1 : decode cX4_chest 1 = .ok (.iconst 0, 1) := by decide +kernel
theorem dX4_chest_2 : decode cX4_chest 2 = .ok (.iconst 1, 1) := by decide +kernel
theorem dX4_chest_3 : decode cX4_chest 3 = .ok (.invokestatic 59, 3) := by decide +kernel
theorem dX4_chest_6 : decode cX4_chest 6 = .ok (.ifCond .ne 6, 3) := by decide +kernel
theorem dX4_chest_9 : decode cX4_chest 9 = .ok (.ldc 71, 2) := by decide +kernel
theorem dX4_chest_11 : decode cX4_chest 11 = .ok (.ireturn, 1) := by decide +kernel
theorem dX4_chest_12 : decode cX4_chest 12 = .ok (.iload_n 2, 1) := by decide +kernel
theorem dX4_chest_13 : decode cX4_chest 13 = .ok (.iconst 0, 1) := by decide +kernel
theorem dX4_chest_14 : decode cX4_chest 14 = .ok (.iconst 2, 1) := by decide +kernel
theorem dX4_chest_15 : decode cX4_chest 15 = .ok (.invokestatic 59, 3) := by decide +kernel
theorem dX4_chest_18 : decode cX4_chest 18 = .ok (.ifCond .eq 12, 3) := by decide +kernel
theorem dX4_chest_21 : decode cX4_chest 21 = .ok (.aload_n 0, 1) := by decide +kernel
theorem dX4_chest_22 : decode cX4_chest 22 = .ok (.iload_n 1, 1) := by decide +kernel
theorem dX4_chest_23 : decode cX4_chest 23 = .ok (.iload_n 2, 1) := by decide +kernel
theorem dX4_chest_24 : decode cX4_chest 24 = .ok (.invokevirtual 192, 3) := by decide +kernel
theorem dX4_chest_27 : decode cX4_chest 27 = .ok (.goto 5, 3) := by decide +kernel
theorem dX4_chest_30 : decode cX4_chest 30 = .ok (.ldc 72, 2) := by decide +kernel
theorem dX4_chest_32 : decode cX4_chest 32 = .ok (.ireturn, 1) := by decide +kernel
theorem dX4_strokes_0 : decode cX4_strokes 0 = .ok (.iload_n 1, 1) := by decide +kernel
theorem dX4_strokes_1 : decode cX4_strokes 1 = .ok (.iconst 0, 1) := by decide +kernel
theorem dX4_strokes_2 : decode cX4_strokes 2 = .ok (.iconst 1, 1) := by decide +kernel
theorem dX4_strokes_3 : decode cX4_strokes 3 = .ok (.invokestatic 59, 3) := by decide +kernel
theorem dX4_strokes_6 : decode cX4_strokes 6 = .ok (.ifCond .eq 15, 3) := by decide +kernel
theorem dX4_strokes_9 : decode cX4_strokes 9 = .ok (.aload_n 0, 1) := by decide +kernel
theorem dX4_strokes_10 : decode cX4_strokes 10 = .ok (.getfield 7, 3) := by decide +kernel
theorem dX4_strokes_13 : decode cX4_strokes 13 = .ok (.bipush 18, 2) := by decide +kernel
theorem dX4_strokes_15 : decode cX4_strokes 15 = .ok (.iload_n 1, 1) := by decide +kernel
theorem dX4_strokes_16 : decode cX4_strokes 16 = .ok (.iadd, 1) := by decide +kernel
theorem dX4_strokes_17 : decode cX4_strokes 17 = .ok (.iaload, 1) := by decide +kernel
theorem dX4_strokes_18 : decode cX4_strokes 18 = .ok (.goto 5, 3) := by decide +kernel
theorem dX4_strokes_21 : decode cX4_strokes 21 = .ok (.ldc 71, 2) := by decide +kernel
theorem dX4_strokes_23 : decode cX4_strokes 23 = .ok (.ireturn, 1) := by decide +kernel
theorem dX4_pipeTells_0 : decode cX4_pipeTells 0 = .ok (.bipush 24, 2) := by decide +kernel
theorem dX4_pipeTells_2 : decode cX4_pipeTells 2 = .ok (.iload_n 1, 1) := by decide +kernel
theorem dX4_pipeTells_3 : decode cX4_pipeTells 3 = .ok (.imul, 1) := by decide +kernel
theorem dX4_pipeTells_4 : decode cX4_pipeTells 4 = .ok (.iload_n 2, 1) := by decide +kernel
theorem dX4_pipeTells_5 : decode cX4_pipeTells 5 = .ok (.iadd, 1) := by decide +kernel
theorem dX4_pipeTells_6 : decode cX4_pipeTells 6 = .ok (.istore 4, 2) := by decide +kernel
theorem dX4_pipeTells_8 : decode cX4_pipeTells 8 = .ok (.iload_n 3, 1) := by decide +kernel
theorem dX4_pipeTells_9 : decode cX4_pipeTells 9 = .ok (.iconst 2, 1) := by decide +kernel
theorem dX4_pipeTells_10 : decode cX4_pipeTells 10 = .ok (.if_icmp .ge 27, 3) := by decide +kernel
theorem dX4_pipeTells_13 : decode cX4_pipeTells 13 = .ok (.iload_n 3, 1) := by decide +kernel
theorem dX4_pipeTells_14 : decode cX4_pipeTells 14 = .ok (.ifCond .ne 12, 3) := by decide +kernel
theorem dX4_pipeTells_17 : decode cX4_pipeTells 17 = .ok (.aload_n 0, 1) := by decide +kernel
theorem dX4_pipeTells_18 : decode cX4_pipeTells 18 = .ok (.iload_n 1, 1) := by decide +kernel
theorem dX4_pipeTells_19 : decode cX4_pipeTells 19 = .ok (.iload_n 2, 1) := by decide +kernel
theorem dX4_pipeTells_20 : decode cX4_pipeTells 20 = .ok (.invokevirtual 111, 3) := by decide +kernel
theorem dX4_pipeTells_23 : decode cX4_pipeTells 23 = .ok (.goto 13, 3) := by decide +kernel
theorem dX4_pipeTells_26 : decode cX4_pipeTells 26 = .ok (.aload_n 0, 1) := by decide +kernel
theorem dX4_pipeTells_27 : decode cX4_pipeTells 27 = .ok (.getfield 7, 3) := by decide +kernel
theorem dX4_pipeTells_30 : decode cX4_pipeTells 30 = .ok (.bipush 64, 2) := by decide +kernel
theorem dX4_pipeTells_32 : decode cX4_pipeTells 32 = .ok (.iload 4, 2) := by decide +kernel
theorem dX4_pipeTells_34 : decode cX4_pipeTells 34 = .ok (.iadd, 1) := by decide +kernel
theorem dX4_pipeTells_35 : decode cX4_pipeTells 35 = .ok (.iaload, 1) := by decide +kernel
theorem dX4_pipeTells_36 : decode cX4_pipeTells 36 = .ok (.ireturn, 1) := by decide +kernel
theorem dX4_pipeTells_37 : decode cX4_pipeTells 37 = .ok (.aload_n 0, 1) := by decide +kernel
theorem dX4_pipeTells_38 : decode cX4_pipeTells 38 = .ok (.invokevirtual 131, 3) := by decide +kernel
theorem dX4_pipeTells_41 : decode cX4_pipeTells 41 = .ok (.aload_n 0, 1) := by decide +kernel
theorem dX4_pipeTells_42 : decode cX4_pipeTells 42 = .ok (.iload_n 1, 1) := by decide +kernel
theorem dX4_pipeTells_43 : decode cX4_pipeTells 43 = .ok (.iload_n 2, 1) := by decide +kernel
theorem dX4_pipeTells_44 : decode cX4_pipeTells 44 = .ok (.invokevirtual 121, 3) := by decide +kernel
theorem dX4_pipeTells_47 : decode cX4_pipeTells 47 = .ok (.ifCond .ne 8, 3) := by decide +kernel
theorem dX4_pipeTells_50 : decode cX4_pipeTells 50 = .ok (.ldc 177, 2) := by decide +kernel
theorem dX4_pipeTells_52 : decode cX4_pipeTells 52 = .ok (.goto 39, 3) := by decide +kernel
theorem dX4_pipeTells_55 : decode cX4_pipeTells 55 = .ok (.iload_n 3, 1) := by decide +kernel
theorem dX4_pipeTells_56 : decode cX4_pipeTells 56 = .ok (.iconst 2, 1) := by decide +kernel
theorem dX4_pipeTells_57 : decode cX4_pipeTells 57 = .ok (.if_icmp .ne 13, 3) := by decide +kernel
theorem dX4_pipeTells_60 : decode cX4_pipeTells 60 = .ok (.aload_n 0, 1) := by decide +kernel
theorem dX4_pipeTells_61 : decode cX4_pipeTells 61 = .ok (.getfield 50, 3) := by decide +kernel
theorem dX4_pipeTells_64 : decode cX4_pipeTells 64 = .ok (.iload 4, 2) := by decide +kernel
theorem dX4_pipeTells_66 : decode cX4_pipeTells 66 = .ok (.iaload, 1) := by decide +kernel
theorem dX4_pipeTells_67 : decode cX4_pipeTells 67 = .ok (.goto 24, 3) := by decide +kernel
theorem dX4_pipeTells_70 : decode cX4_pipeTells 70 = .ok (.iload_n 3, 1) := by decide +kernel
theorem dX4_pipeTells_71 : decode cX4_pipeTells 71 = .ok (.iconst 3, 1) := by decide +kernel
theorem dX4_pipeTells_72 : decode cX4_pipeTells 72 = .ok (.if_icmp .ne 13, 3) := by decide +kernel
theorem dX4_pipeTells_75 : decode cX4_pipeTells 75 = .ok (.aload_n 0, 1) := by decide +kernel
theorem dX4_pipeTells_76 : decode cX4_pipeTells 76 = .ok (.getfield 53, 3) := by decide +kernel
theorem dX4_pipeTells_79 : decode cX4_pipeTells 79 = .ok (.iload 4, 2) := by decide +kernel
theorem dX4_pipeTells_81 : decode cX4_pipeTells 81 = .ok (.iaload, 1) := by decide +kernel
theorem dX4_pipeTells_82 : decode cX4_pipeTells 82 = .ok (.goto 9, 3) := by decide +kernel
theorem dX4_pipeTells_85 : decode cX4_pipeTells 85 = .ok (.aload_n 0, 1) := by decide +kernel
theorem dX4_pipeTells_86 : decode cX4_pipeTells 86 = .ok (.iload_n 1, 1) := by decide +kernel
theorem dX4_pipeTells_87 : decode cX4_pipeTells 87 = .ok (.iload_n 2, 1) := by decide +kernel
theorem dX4_pipeTells_88 : decode cX4_pipeTells 88 = .ok (.invokevirtual 195, 3) := by decide +kernel
theorem dX4_pipeTells_91 : decode cX4_pipeTells 91 = .ok (.ireturn, 1) := by decide +kernel
theorem dX4_pipe_0 : decode cX4_pipe 0 = .ok (.iload_n 1, 1) := by decide +kernel
theorem dX4_pipe_1 : decode cX4_pipe 1 = .ok (.invokestatic 67, 3) := by decide +kernel
theorem dX4_pipe_4 : decode cX4_pipe 4 = .ok (.ifCond .eq 10, 3) := by decide +kernel
theorem dX4_pipe_7 : decode cX4_pipe 7 = .ok (.iload_n 2, 1) := by decide +kernel
theorem dX4_pipe_8 : decode cX4_pipe 8 = .ok (.invokestatic 84, 3) := by decide +kernel
theorem dX4_pipe_11 : decode cX4_pipe 11 = .ok (.ifCond .ne 6, 3) := by decide +kernel
theorem dX4_pipe_14 : decode cX4_pipe 14 = .ok (.ldc 71, 2) := by decide +kernel
theorem dX4_pipe_16 : decode cX4_pipe 16 = .ok (.ireturn, 1) := by decide +kernel
theorem dX4_pipe_17 : decode cX4_pipe 17 = .ok (.iload_n 3, 1) := by decide +kernel
theorem dX4_pipe_18 : decode cX4_pipe 18 = .ok (.iconst 0, 1) := by decide +kernel
theorem dX4_pipe_19 : decode cX4_pipe 19 = .ok (.iconst 4, 1) := by decide +kernel
theorem dX4_pipe_20 : decode cX4_pipe 20 = .ok (.invokestatic 59, 3) := by decide +kernel
theorem dX4_pipe_23 : decode cX4_pipe 23 = .ok (.ifCond .eq 13, 3) := by decide +kernel
theorem dX4_pipe_26 : decode cX4_pipe 26 = .ok (.aload_n 0, 1) := by decide +kernel
theorem dX4_pipe_27 : decode cX4_pipe 27 = .ok (.iload_n 1, 1) := by decide +kernel
theorem dX4_pipe_28 : decode cX4_pipe 28 = .ok (.iload_n 2, 1) := by decide +kernel
theorem dX4_pipe_29 : decode cX4_pipe 29 = .ok (.iload_n 3, 1) := by decide +kernel
theorem dX4_pipe_30 : decode cX4_pipe 30 = .ok (.invokevirtual 198, 3) := by decide +kernel
theorem dX4_pipe_33 : decode cX4_pipe 33 = .ok (.goto 5, 3) := by decide +kernel
theorem dX4_pipe_36 : decode cX4_pipe 36 = .ok (.ldc 72, 2) := by decide +kernel
theorem dX4_pipe_38 : decode cX4_pipe 38 = .ok (.ireturn, 1) := by decide +kernel
theorem dX4_reasonNow_0 : decode cX4_reasonNow 0 = .ok (.aload_n 0, 1) := by decide +kernel
theorem dX4_reasonNow_1 : decode cX4_reasonNow 1 = .ok (.invokevirtual 131, 3) := by decide +kernel
theorem dX4_reasonNow_4 : decode cX4_reasonNow 4 = .ok (.aload_n 0, 1) := by decide +kernel
theorem dX4_reasonNow_5 : decode cX4_reasonNow 5 = .ok (.iload_n 1, 1) := by decide +kernel
theorem dX4_reasonNow_6 : decode cX4_reasonNow 6 = .ok (.iload_n 2, 1) := by decide +kernel
theorem dX4_reasonNow_7 : decode cX4_reasonNow 7 = .ok (.aload_n 0, 1) := by decide +kernel
theorem dX4_reasonNow_8 : decode cX4_reasonNow 8 = .ok (.invokevirtual 96, 3) := by decide +kernel
theorem dX4_reasonNow_11 : decode cX4_reasonNow 11 = .ok (.invokevirtual 179, 3) := by decide +kernel
theorem dX4_reasonNow_14 : decode cX4_reasonNow 14 = .ok (.ireturn, 1) := by decide +kernel
theorem dX4_reason_0 : decode cX4_reason 0 = .ok (.iload_n 1, 1) := by decide +kernel
theorem dX4_reason_1 : decode cX4_reason 1 = .ok (.invokestatic 67, 3) := by decide +kernel
theorem dX4_reason_4 : decode cX4_reason 4 = .ok (.ifCond .eq 19, 3) := by decide +kernel
theorem dX4_reason_7 : decode cX4_reason 7 = .ok (.iload_n 2, 1) := by decide +kernel
theorem dX4_reason_8 : decode cX4_reason 8 = .ok (.invokestatic 84, 3) := by decide +kernel
theorem dX4_reason_11 : decode cX4_reason 11 = .ok (.ifCond .eq 12, 3) := by decide +kernel
theorem dX4_reason_14 : decode cX4_reason 14 = .ok (.aload_n 0, 1) := by decide +kernel
theorem dX4_reason_15 : decode cX4_reason 15 = .ok (.iload_n 1, 1) := by decide +kernel
theorem dX4_reason_16 : decode cX4_reason 16 = .ok (.iload_n 2, 1) := by decide +kernel
theorem dX4_reason_17 : decode cX4_reason 17 = .ok (.invokevirtual 201, 3) := by decide +kernel
theorem dX4_reason_20 : decode cX4_reason 20 = .ok (.goto 5, 3) := by decide +kernel
theorem dX4_reason_23 : decode cX4_reason 23 = .ok (.ldc 71, 2) := by decide +kernel
theorem dX4_reason_25 : decode cX4_reason 25 = .ok (.ireturn, 1) := by decide +kernel
theorem dX4_tune_0 : decode cX4_tune 0 = .ok (.iload_n 1, 1) := by decide +kernel
theorem dX4_tune_1 : decode cX4_tune 1 = .ok (.invokestatic 67, 3) := by decide +kernel
theorem dX4_tune_4 : decode cX4_tune 4 = .ok (.ifCond .eq 10, 3) := by decide +kernel
theorem dX4_tune_7 : decode cX4_tune 7 = .ok (.iload_n 2, 1) := by decide +kernel
theorem dX4_tune_8 : decode cX4_tune 8 = .ok (.invokestatic 84, 3) := by decide +kernel
theorem dX4_tune_11 : decode cX4_tune 11 = .ok (.ifCond .ne 6, 3) := by decide +kernel
theorem dX4_tune_14 : decode cX4_tune 14 = .ok (.ldc 71, 2) := by decide +kernel
theorem dX4_tune_16 : decode cX4_tune 16 = .ok (.ireturn, 1) := by decide +kernel
theorem dX4_tune_17 : decode cX4_tune 17 = .ok (.aload_n 0, 1) := by decide +kernel
theorem dX4_tune_18 : decode cX4_tune 18 = .ok (.iload_n 1, 1) := by decide +kernel
theorem dX4_tune_19 : decode cX4_tune 19 = .ok (.iload_n 2, 1) := by decide +kernel
theorem dX4_tune_20 : decode cX4_tune 20 = .ok (.invokevirtual 201, 3) := by decide +kernel
theorem dX4_tune_23 : decode cX4_tune 23 = .ok (.ifCond .ne 21, 3) := by decide +kernel
theorem dX4_tune_26 : decode cX4_tune 26 = .ok (.aload_n 0, 1) := by decide +kernel
theorem dX4_tune_27 : decode cX4_tune 27 = .ok (.iload_n 1, 1) := by decide +kernel
theorem dX4_tune_28 : decode cX4_tune 28 = .ok (.invokevirtual 125, 3) := by decide +kernel
theorem dX4_tune_31 : decode cX4_tune 31 = .ok (.ineg, 1) := by decide +kernel
theorem dX4_tune_32 : decode cX4_tune 32 = .ok (.sipush (-200), 3) := by decide +kernel
theorem dX4_tune_35 : decode cX4_tune 35 = .ok (.sipush 200, 3) := by decide +kernel
theorem dX4_tune_38 : decode cX4_tune 38 = .ok (.invokestatic 59, 3) := by decide +kernel
theorem dX4_tune_41 : decode cX4_tune 41 = .ok (.ifCond .ne 6, 3) := by decide +kernel
theorem dX4_tune_44 : decode cX4_tune 44 = .ok (.ldc 178, 2) := by decide +kernel
theorem dX4_tune_46 : decode cX4_tune 46 = .ok (.ireturn, 1) := by decide +kernel
theorem dX4_tune_47 : decode cX4_tune 47 = .ok (.aload_n 0, 1) := by decide +kernel
theorem dX4_tune_48 : decode cX4_tune 48 = .ok (.invokevirtual 73, 3) := by decide +kernel
theorem dX4_tune_51 : decode cX4_tune 51 = .ok (.aload_n 0, 1) := by decide +kernel
theorem dX4_tune_52 : decode cX4_tune 52 = .ok (.bipush 64, 2) := by decide +kernel
theorem dX4_tune_54 : decode cX4_tune 54 = .ok (.bipush 24, 2) := by decide +kernel
theorem dX4_tune_56 : decode cX4_tune 56 = .ok (.iload_n 1, 1) := by decide +kernel
theorem dX4_tune_57 : decode cX4_tune 57 = .ok (.imul, 1) := by decide +kernel
theorem dX4_tune_58 : decode cX4_tune 58 = .ok (.iadd, 1) := by decide +kernel
theorem dX4_tune_59 : decode cX4_tune 59 = .ok (.iload_n 2, 1) := by decide +kernel
theorem dX4_tune_60 : decode cX4_tune 60 = .ok (.iadd, 1) := by decide +kernel
theorem dX4_tune_61 : decode cX4_tune 61 = .ok (.aload_n 0, 1) := by decide +kernel
theorem dX4_tune_62 : decode cX4_tune 62 = .ok (.iload_n 1, 1) := by decide +kernel
theorem dX4_tune_63 : decode cX4_tune 63 = .ok (.invokevirtual 125, 3) := by decide +kernel
theorem dX4_tune_66 : decode cX4_tune 66 = .ok (.ineg, 1) := by decide +kernel
theorem dX4_tune_67 : decode cX4_tune 67 = .ok (.invokevirtual 76, 3) := by decide +kernel
theorem dX4_tune_70 : decode cX4_tune 70 = .ok (.ireturn, 1) := by decide +kernel
theorem dX4_mistunedNow_0 : decode cX4_mistunedNow 0 = .ok (.aload_n 0, 1) := by decide +kernel
theorem dX4_mistunedNow_1 : decode cX4_mistunedNow 1 = .ok (.invokevirtual 131, 3) := by decide +kernel
theorem dX4_mistunedNow_4 : decode cX4_mistunedNow 4 = .ok (.aload_n 0, 1) := by decide +kernel
theorem dX4_mistunedNow_5 : decode cX4_mistunedNow 5 = .ok (.invokevirtual 96, 3) := by decide +kernel
theorem dX4_mistunedNow_8 : decode cX4_mistunedNow 8 = .ok (.istore_n 1, 1) := by decide +kernel
theorem dX4_mistunedNow_9 : decode cX4_mistunedNow 9 = .ok (.iconst 0, 1) := by decide +kernel
theorem dX4_mistunedNow_10 : decode cX4_mistunedNow 10 = .ok (.istore_n 2, 1) := by decide +kernel
theorem dX4_mistunedNow_11 : decode cX4_mistunedNow 11 = .ok (.iconst 0, 1) := by decide +kernel
theorem dX4_mistunedNow_12 : decode cX4_mistunedNow 12 = .ok (.istore_n 3, 1) := by decide +kernel
theorem dX4_mistunedNow_13 : decode cX4_mistunedNow 13 = .ok (.iconst 0, 1) := by decide +kernel
theorem dX4_mistunedNow_14 : decode cX4_mistunedNow 14 = .ok (.istore 4, 2) := by decide +kernel
theorem dX4_mistunedNow_16 : decode cX4_mistunedNow 16 = .ok (.iconst 0, 1) := by decide +kernel
theorem dX4_mistunedNow_17 : decode cX4_mistunedNow 17 = .ok (.istore 5, 2) := by decide +kernel
theorem dX4_mistunedNow_19 : decode cX4_mistunedNow 19 = .ok (.iload 5, 2) := by decide +kernel
theorem dX4_mistunedNow_21 : decode cX4_mistunedNow 21 = .ok (.sipush 192, 3) := by decide +kernel
theorem dX4_mistunedNow_24 : decode cX4_mistunedNow 24 = .ok (.if_icmp .ge 82, 3) := by decide +kernel
theorem dX4_mistunedNow_27 : decode cX4_mistunedNow 27 = .ok (.aload_n 0, 1) := by decide +kernel
theorem dX4_mistunedNow_28 : decode cX4_mistunedNow 28 = .ok (.iload 5, 2) := by decide +kernel
theorem dX4_mistunedNow_30 : decode cX4_mistunedNow 30 = .ok (.bipush 24, 2) := by decide +kernel
theorem dX4_mistunedNow_32 : decode cX4_mistunedNow 32 = .ok (.idiv, 1) := by decide +kernel
theorem dX4_mistunedNow_33 : decode cX4_mistunedNow 33 = .ok (.iload 5, 2) := by decide +kernel
theorem dX4_mistunedNow_35 : decode cX4_mistunedNow 35 = .ok (.bipush 24, 2) := by decide +kernel
theorem dX4_mistunedNow_37 : decode cX4_mistunedNow 37 = .ok (.irem, 1) := by decide +kernel
theorem dX4_mistunedNow_38 : decode cX4_mistunedNow 38 = .ok (.iload_n 1, 1) := by decide +kernel
theorem dX4_mistunedNow_39 : decode cX4_mistunedNow 39 = .ok (.invokevirtual 179, 3) := by decide +kernel
theorem dX4_mistunedNow_42 : decode cX4_mistunedNow 42 = .ok (.ifCond .ne 58, 3) := by decide +kernel
theorem dX4_mistunedNow_45 : decode cX4_mistunedNow 45 = .ok (.aload_n 0, 1) := by decide +kernel
theorem dX4_mistunedNow_46 : decode cX4_mistunedNow 46 = .ok (.iload 5, 2) := by decide +kernel
theorem dX4_mistunedNow_48 : decode cX4_mistunedNow 48 = .ok (.bipush 24, 2) := by decide +kernel
theorem dX4_mistunedNow_50 : decode cX4_mistunedNow 50 = .ok (.idiv, 1) := by decide +kernel
theorem dX4_mistunedNow_51 : decode cX4_mistunedNow 51 = .ok (.iload 5, 2) := by decide +kernel
theorem dX4_mistunedNow_53 : decode cX4_mistunedNow 53 = .ok (.bipush 24, 2) := by decide +kernel
theorem dX4_mistunedNow_55 : decode cX4_mistunedNow 55 = .ok (.irem, 1) := by decide +kernel
theorem dX4_mistunedNow_56 : decode cX4_mistunedNow 56 = .ok (.invokevirtual 195, 3) := by decide +kernel
theorem dX4_mistunedNow_59 : decode cX4_mistunedNow 59 = .ok (.istore 6, 2) := by decide +kernel
theorem dX4_mistunedNow_61 : decode cX4_mistunedNow 61 = .ok (.iload 4, 2) := by decide +kernel
theorem dX4_mistunedNow_63 : decode cX4_mistunedNow 63 = .ok (.ifCond .eq 9, 3) := by decide +kernel
theorem dX4_mistunedNow_66 : decode cX4_mistunedNow 66 = .ok (.iload 6, 2) := by decide +kernel
theorem dX4_mistunedNow_68 : decode cX4_mistunedNow 68 = .ok (.iload_n 2, 1) := by decide +kernel
theorem dX4_mistunedNow_69 : decode cX4_mistunedNow 69 = .ok (.if_icmp .ge 8, 3) := by decide +kernel
theorem dX4_mistunedNow_72 : decode cX4_mistunedNow 72 = .ok (.iload 6, 2) := by decide +kernel
theorem dX4_mistunedNow_74 : decode cX4_mistunedNow 74 = .ok (.goto 4, 3) := by decide +kernel
theorem dX4_mistunedNow_77 : decode cX4_mistunedNow 77 = .ok (.iload_n 2, 1) := by decide +kernel
theorem dX4_mistunedNow_78 : decode cX4_mistunedNow 78 = .ok (.istore_n 2, 1) := by decide +kernel
theorem dX4_mistunedNow_79 : decode cX4_mistunedNow 79 = .ok (.iload 4, 2) := by decide +kernel
theorem dX4_mistunedNow_81 : decode cX4_mistunedNow 81 = .ok (.ifCond .eq 9, 3) := by decide +kernel
theorem dX4_mistunedNow_84 : decode cX4_mistunedNow 84 = .ok (.iload 6, 2) := by decide +kernel
theorem dX4_mistunedNow_86 : decode cX4_mistunedNow 86 = .ok (.iload_n 3, 1) := by decide +kernel
theorem dX4_mistunedNow_87 : decode cX4_mistunedNow 87 = .ok (.if_icmp .le 8, 3) := by decide +kernel
theorem dX4_mistunedNow_90 : decode cX4_mistunedNow 90 = .ok (.iload 6, 2) := by decide +kernel
theorem dX4_mistunedNow_92 : decode cX4_mistunedNow 92 = .ok (.goto 4, 3) := by decide +kernel
theorem dX4_mistunedNow_95 : decode cX4_mistunedNow 95 = .ok (.iload_n 3, 1) := by decide +kernel
theorem dX4_mistunedNow_96 : decode cX4_mistunedNow 96 = .ok (.istore_n 3, 1) := by decide +kernel
theorem dX4_mistunedNow_97 : decode cX4_mistunedNow 97 = .ok (.iconst 1, 1) := by decide +kernel
theorem dX4_mistunedNow_98 : decode cX4_mistunedNow 98 = .ok (.istore 4, 2) := by decide +kernel
theorem dX4_mistunedNow_100 : decode cX4_mistunedNow 100 = .ok (.iinc 5 1, 3) := by decide +kernel
theorem dX4_mistunedNow_103 : decode cX4_mistunedNow 103 = .ok (.goto (-84), 3) := by decide +kernel
theorem dX4_mistunedNow_106 : decode cX4_mistunedNow 106 = .ok (.iload 4, 2) := by decide +kernel
theorem dX4_mistunedNow_108 : decode cX4_mistunedNow 108 = .ok (.ifCond .eq 9, 3) := by decide +kernel
theorem dX4_mistunedNow_111 : decode cX4_mistunedNow 111 = .ok (.iload_n 3, 1) := by decide +kernel
theorem dX4_mistunedNow_112 : decode cX4_mistunedNow 112 = .ok (.iload_n 2, 1) := by decide +kernel
theorem dX4_mistunedNow_113 : decode cX4_mistunedNow 113 = .ok (.isub, 1) := by decide +kernel
theorem dX4_mistunedNow_114 : decode cX4_mistunedNow 114 = .ok (.goto 5, 3) := by decide +kernel
theorem dX4_mistunedNow_117 : decode cX4_mistunedNow 117 = .ok (.ldc 177, 2) := by decide +kernel
theorem dX4_mistunedNow_119 : decode cX4_mistunedNow 119 = .ok (.ireturn, 1) := by decide +kernel
theorem dX4_mistuned_0 : decode cX4_mistuned 0 = .ok (.aload_n 0, 1) := by decide +kernel
theorem dX4_mistuned_1 : decode cX4_mistuned 1 = .ok (.invokevirtual 204, 3) := by decide +kernel
theorem dX4_mistuned_4 : decode cX4_mistuned 4 = .ok (.ireturn, 1) := by decide +kernel
theorem dX4_isHeard_0 : decode cX4_isHeard 0 = .ok (.iconst 0, 1) := by decide +kernel
theorem dX4_isHeard_1 : decode cX4_isHeard 1 = .ok (.istore_n 3, 1) := by decide +kernel
theorem dX4_isHeard_2 : decode cX4_isHeard 2 = .ok (.iload_n 1, 1) := by decide +kernel
theorem dX4_isHeard_3 : decode cX4_isHeard 3 = .ok (.istore 4, 2) := by decide +kernel
theorem dX4_isHeard_5 : decode cX4_isHeard 5 = .ok (.iload 4, 2) := by decide +kernel
theorem dX4_isHeard_7 : decode cX4_isHeard 7 = .ok (.iload_n 2, 1) := by decide +kernel
theorem dX4_isHeard_8 : decode cX4_isHeard 8 = .ok (.if_icmp .gt 16, 3) := by decide +kernel
theorem dX4_isHeard_11 : decode cX4_isHeard 11 = .ok (.iload_n 3, 1) := by decide +kernel
theorem dX4_isHeard_12 : decode cX4_isHeard 12 = .ok (.iconst 1, 1) := by decide +kernel
theorem dX4_isHeard_13 : decode cX4_isHeard 13 = .ok (.iload 4, 2) := by decide +kernel
theorem dX4_isHeard_15 : decode cX4_isHeard 15 = .ok (.ishl, 1) := by decide +kernel
theorem dX4_isHeard_16 : decode cX4_isHeard 16 = .ok (.ior, 1) := by decide +kernel
theorem dX4_isHeard_17 : decode cX4_isHeard 17 = .ok (.istore_n 3, 1) := by decide +kernel
theorem dX4_isHeard_18 : decode cX4_isHeard 18 = .ok (.iinc 4 1, 3) := by decide +kernel
theorem dX4_isHeard_21 : decode cX4_isHeard 21 = .ok (.goto (-16), 3) := by decide +kernel
theorem dX4_isHeard_24 : decode cX4_isHeard 24 = .ok (.aload_n 0, 1) := by decide +kernel
theorem dX4_isHeard_25 : decode cX4_isHeard 25 = .ok (.iload_n 3, 1) := by decide +kernel
theorem dX4_isHeard_26 : decode cX4_isHeard 26 = .ok (.iconst 0, 1) := by decide +kernel
theorem dX4_isHeard_27 : decode cX4_isHeard 27 = .ok (.invokevirtual 117, 3) := by decide +kernel
theorem dX4_isHeard_30 : decode cX4_isHeard 30 = .ok (.aload_n 0, 1) := by decide +kernel
theorem dX4_isHeard_31 : decode cX4_isHeard 31 = .ok (.iload_n 3, 1) := by decide +kernel
theorem dX4_isHeard_32 : decode cX4_isHeard 32 = .ok (.invokevirtual 186, 3) := by decide +kernel
theorem dX4_isHeard_35 : decode cX4_isHeard 35 = .ok (.ifCond .le 7, 3) := by decide +kernel
theorem dX4_isHeard_38 : decode cX4_isHeard 38 = .ok (.iconst 1, 1) := by decide +kernel
theorem dX4_isHeard_39 : decode cX4_isHeard 39 = .ok (.goto 4, 3) := by decide +kernel
theorem dX4_isHeard_42 : decode cX4_isHeard 42 = .ok (.iconst 0, 1) := by decide +kernel
theorem dX4_isHeard_43 : decode cX4_isHeard 43 = .ok (.ireturn, 1) := by decide +kernel
theorem dX4_searches_0 : decode cX4_searches 0 = .ok (.iconst 0, 1) := by decide +kernel
theorem dX4_searches_1 : decode cX4_searches 1 = .ok (.istore_n 2, 1) := by decide +kernel
theorem dX4_searches_2 : decode cX4_searches 2 = .ok (.bipush 7, 2) := by decide +kernel
theorem dX4_searches_4 : decode cX4_searches 4 = .ok (.istore_n 3, 1) := by decide +kernel
theorem dX4_searches_5 : decode cX4_searches 5 = .ok (.iconst 1, 1) := by decide +kernel
theorem dX4_searches_6 : decode cX4_searches 6 = .ok (.istore 4, 2) := by decide +kernel
theorem dX4_searches_8 : decode cX4_searches 8 = .ok (.aload_n 0, 1) := by decide +kernel
theorem dX4_searches_9 : decode cX4_searches 9 = .ok (.iconst 0, 1) := by decide +kernel
theorem dX4_searches_10 : decode cX4_searches 10 = .ok (.bipush 7, 2) := by decide +kernel
theorem dX4_searches_12 : decode cX4_searches 12 = .ok (.invokevirtual 207, 3) := by decide +kernel
theorem dX4_searches_15 : decode cX4_searches 15 = .ok (.ifCond .ne 16, 3) := by decide +kernel
theorem dX4_searches_18 : decode cX4_searches 18 = .ok (.iload_n 1, 1) := by decide +kernel
theorem dX4_searches_19 : decode cX4_searches 19 = .ok (.iconst 1, 1) := by decide +kernel
theorem dX4_searches_20 : decode cX4_searches 20 = .ok (.if_icmp .ne 8, 3) := by decide +kernel
theorem dX4_searches_23 : decode cX4_searches 23 = .ok (.iload 4, 2) := by decide +kernel
theorem dX4_searches_25 : decode cX4_searches 25 = .ok (.goto 5, 3) := by decide +kernel
theorem dX4_searches_28 : decode cX4_searches 28 = .ok (.ldc 177, 2) := by decide +kernel
theorem dX4_searches_30 : decode cX4_searches 30 = .ok (.ireturn, 1) := by decide +kernel
theorem dX4_searches_31 : decode cX4_searches 31 = .ok (.iload_n 2, 1) := by decide +kernel
theorem dX4_searches_32 : decode cX4_searches 32 = .ok (.iload_n 3, 1) := by decide +kernel
theorem dX4_searches_33 : decode cX4_searches 33 = .ok (.if_icmp .ge 43, 3) := by decide +kernel
theorem dX4_searches_36 : decode cX4_searches 36 = .ok (.iload_n 2, 1) := by decide +kernel
theorem dX4_searches_37 : decode cX4_searches 37 = .ok (.iload_n 3, 1) := by decide +kernel
theorem dX4_searches_38 : decode cX4_searches 38 = .ok (.iload_n 2, 1) := by decide +kernel
theorem dX4_searches_39 : decode cX4_searches 39 = .ok (.isub, 1) := by decide +kernel
theorem dX4_searches_40 : decode cX4_searches 40 = .ok (.iconst 1, 1) := by decide +kernel
theorem dX4_searches_41 : decode cX4_searches 41 = .ok (.iadd, 1) := by decide +kernel
theorem dX4_searches_42 : decode cX4_searches 42 = .ok (.iconst 2, 1) := by decide +kernel
theorem dX4_searches_43 : decode cX4_searches 43 = .ok (.idiv, 1) := by decide +kernel
theorem dX4_searches_44 : decode cX4_searches 44 = .ok (.iadd, 1) := by decide +kernel
theorem dX4_searches_45 : decode cX4_searches 45 = .ok (.istore 5, 2) := by decide +kernel
theorem dX4_searches_47 : decode cX4_searches 47 = .ok (.iinc 4 1, 3) := by decide +kernel
theorem dX4_searches_50 : decode cX4_searches 50 = .ok (.aload_n 0, 1) := by decide +kernel
theorem dX4_searches_51 : decode cX4_searches 51 = .ok (.iload_n 2, 1) := by decide +kernel
theorem dX4_searches_52 : decode cX4_searches 52 = .ok (.iload 5, 2) := by decide +kernel
theorem dX4_searches_54 : decode cX4_searches 54 = .ok (.iconst 1, 1) := by decide +kernel
theorem dX4_searches_55 : decode cX4_searches 55 = .ok (.isub, 1) := by decide +kernel
theorem dX4_searches_56 : decode cX4_searches 56 = .ok (.invokevirtual 207, 3) := by decide +kernel
theorem dX4_searches_59 : decode cX4_searches 59 = .ok (.ifCond .eq 11, 3) := by decide +kernel
theorem dX4_searches_62 : decode cX4_searches 62 = .ok (.iload 5, 2) := by decide +kernel
theorem dX4_searches_64 : decode cX4_searches 64 = .ok (.iconst 1, 1) := by decide +kernel
theorem dX4_searches_65 : decode cX4_searches 65 = .ok (.isub, 1) := by decide +kernel
theorem dX4_searches_66 : decode cX4_searches 66 = .ok (.istore_n 3, 1) := by decide +kernel
theorem dX4_searches_67 : decode cX4_searches 67 = .ok (.goto 6, 3) := by decide +kernel
theorem dX4_searches_70 : decode cX4_searches 70 = .ok (.iload 5, 2) := by decide +kernel
theorem dX4_searches_72 : decode cX4_searches 72 = .ok (.istore_n 2, 1) := by decide +kernel
theorem dX4_searches_73 : decode cX4_searches 73 = .ok (.goto (-42), 3) := by decide +kernel
theorem dX4_searches_76 : decode cX4_searches 76 = .ok (.iload_n 1, 1) := by decide +kernel
theorem dX4_searches_77 : decode cX4_searches 77 = .ok (.ifCond .ne 7, 3) := by decide +kernel
theorem dX4_searches_80 : decode cX4_searches 80 = .ok (.iload_n 2, 1) := by decide +kernel
theorem dX4_searches_81 : decode cX4_searches 81 = .ok (.goto 26, 3) := by decide +kernel
theorem dX4_searches_84 : decode cX4_searches 84 = .ok (.iload_n 1, 1) := by decide +kernel
theorem dX4_searches_85 : decode cX4_searches 85 = .ok (.iconst 1, 1) := by decide +kernel
theorem dX4_searches_86 : decode cX4_searches 86 = .ok (.if_icmp .ne 8, 3) := by decide +kernel
theorem dX4_searches_89 : decode cX4_searches 89 = .ok (.iload 4, 2) := by decide +kernel
theorem dX4_searches_91 : decode cX4_searches 91 = .ok (.goto 16, 3) := by decide +kernel
theorem dX4_searches_94 : decode cX4_searches 94 = .ok (.aload_n 0, 1) := by decide +kernel
theorem dX4_searches_95 : decode cX4_searches 95 = .ok (.getfield 7, 3) := by decide +kernel
theorem dX4_searches_98 : decode cX4_searches 98 = .ok (.sipush 256, 3) := by decide +kernel
theorem dX4_searches_101 : decode cX4_searches 101 = .ok (.iload_n 2, 1) := by decide +kernel
theorem dX4_searches_102 : decode cX4_searches 102 = .ok (.iadd, 1) := by decide +kernel
theorem dX4_searches_103 : decode cX4_searches 103 = .ok (.iaload, 1) := by decide +kernel
theorem dX4_searches_104 : decode cX4_searches 104 = .ok (.invokestatic 210, 3) := by decide +kernel
theorem dX4_searches_107 : decode cX4_searches 107 = .ok (.ireturn, 1) := by decide +kernel
theorem dX4_lowestOf_0 : decode cX4_lowestOf 0 = .ok (.iconst 0, 1) := by decide +kernel
theorem dX4_lowestOf_1 : decode cX4_lowestOf 1 = .ok (.istore_n 1, 1) := by decide +kernel
theorem dX4_lowestOf_2 : decode cX4_lowestOf 2 = .ok (.iload_n 1, 1) := by decide +kernel
theorem dX4_lowestOf_3 : decode cX4_lowestOf 3 = .ok (.bipush 24, 2) := by decide +kernel
theorem dX4_lowestOf_5 : decode cX4_lowestOf 5 = .ok (.if_icmp .ge 20, 3) := by decide +kernel
theorem dX4_lowestOf_8 : decode cX4_lowestOf 8 = .ok (.iload_n 0, 1) := by decide +kernel
theorem dX4_lowestOf_9 : decode cX4_lowestOf 9 = .ok (.iload_n 1, 1) := by decide +kernel
theorem dX4_lowestOf_10 : decode cX4_lowestOf 10 = .ok (.ishr, 1) := by decide +kernel
theorem dX4_lowestOf_11 : decode cX4_lowestOf 11 = .ok (.iconst 1, 1) := by decide +kernel
theorem dX4_lowestOf_12 : decode cX4_lowestOf 12 = .ok (.iand, 1) := by decide +kernel
theorem dX4_lowestOf_13 : decode cX4_lowestOf 13 = .ok (.iconst 1, 1) := by decide +kernel
theorem dX4_lowestOf_14 : decode cX4_lowestOf 14 = .ok (.if_icmp .ne 5, 3) := by decide +kernel
theorem dX4_lowestOf_17 : decode cX4_lowestOf 17 = .ok (.iload_n 1, 1) := by decide +kernel
theorem dX4_lowestOf_18 : decode cX4_lowestOf 18 = .ok (.ireturn, 1) := by decide +kernel
theorem dX4_lowestOf_19 : decode cX4_lowestOf 19 = .ok (.iinc 1 1, 3) := by decide +kernel
theorem dX4_lowestOf_22 : decode cX4_lowestOf 22 = .ok (.goto (-20), 3) := by decide +kernel
theorem dX4_lowestOf_25 : decode cX4_lowestOf 25 = .ok (.ldc 177, 2) := by decide +kernel
theorem dX4_lowestOf_27 : decode cX4_lowestOf 27 = .ok (.ireturn, 1) := by decide +kernel
theorem dX4_search_0 : decode cX4_search 0 = .ok (.iload_n 1, 1) := by decide +kernel
theorem dX4_search_1 : decode cX4_search 1 = .ok (.iconst 0, 1) := by decide +kernel
theorem dX4_search_2 : decode cX4_search 2 = .ok (.iconst 2, 1) := by decide +kernel
theorem dX4_search_3 : decode cX4_search 3 = .ok (.invokestatic 59, 3) := by decide +kernel
theorem dX4_search_6 : decode cX4_search 6 = .ok (.ifCond .eq 11, 3) := by decide +kernel
theorem dX4_search_9 : decode cX4_search 9 = .ok (.aload_n 0, 1) := by decide +kernel
theorem dX4_search_10 : decode cX4_search 10 = .ok (.iload_n 1, 1) := by decide +kernel
theorem dX4_search_11 : decode cX4_search 11 = .ok (.invokevirtual 213, 3) := by decide +kernel
theorem dX4_search_14 : decode cX4_search 14 = .ok (.goto 5, 3) := by decide +kernel
theorem dX4_search_17 : decode cX4_search 17 = .ok (.ldc 71, 2) := by decide +kernel
theorem dX4_search_19 : decode cX4_search 19 = .ok (.ireturn, 1) := by decide +kernel
theorem dX4_robbed_0 : decode cX4_robbed 0 = .ok (.iload_n 1, 1) := by decide +kernel
theorem dX4_robbed_1 : decode cX4_robbed 1 = .ok (.invokestatic 67, 3) := by decide +kernel
theorem dX4_robbed_4 : decode cX4_robbed 4 = .ok (.ifCond .ne 6, 3) := by decide +kernel
theorem dX4_robbed_7 : decode cX4_robbed 7 = .ok (.ldc 71, 2) := by decide +kernel
theorem dX4_robbed_9 : decode cX4_robbed 9 = .ok (.ireturn, 1) := by decide +kernel
theorem dX4_robbed_10 : decode cX4_robbed 10 = .ok (.aload_n 0, 1) := by decide +kernel
theorem dX4_robbed_11 : decode cX4_robbed 11 = .ok (.invokevirtual 96, 3) := by decide +kernel
theorem dX4_robbed_14 : decode cX4_robbed 14 = .ok (.istore_n 2, 1) := by decide +kernel
theorem dX4_robbed_15 : decode cX4_robbed 15 = .ok (.iload_n 2, 1) := by decide +kernel
theorem dX4_robbed_16 : decode cX4_robbed 16 = .ok (.iload_n 1, 1) := by decide +kernel
theorem dX4_robbed_17 : decode cX4_robbed 17 = .ok (.ishr, 1) := by decide +kernel
theorem dX4_robbed_18 : decode cX4_robbed 18 = .ok (.iconst 1, 1) := by decide +kernel
theorem dX4_robbed_19 : decode cX4_robbed 19 = .ok (.iand, 1) := by decide +kernel
theorem dX4_robbed_20 : decode cX4_robbed 20 = .ok (.iconst 1, 1) := by decide +kernel
theorem dX4_robbed_21 : decode cX4_robbed 21 = .ok (.if_icmp .ne 6, 3) := by decide +kernel
theorem dX4_robbed_24 : decode cX4_robbed 24 = .ok (.ldc 178, 2) := by decide +kernel
theorem dX4_robbed_26 : decode cX4_robbed 26 = .ok (.ireturn, 1) := by decide +kernel
theorem dX4_robbed_27 : decode cX4_robbed 27 = .ok (.aload_n 0, 1) := by decide +kernel
theorem dX4_robbed_28 : decode cX4_robbed 28 = .ok (.invokevirtual 131, 3) := by decide +kernel
theorem dX4_robbed_31 : decode cX4_robbed 31 = .ok (.iconst 0, 1) := by decide +kernel
theorem dX4_robbed_32 : decode cX4_robbed 32 = .ok (.istore_n 3, 1) := by decide +kernel
theorem dX4_robbed_33 : decode cX4_robbed 33 = .ok (.iload_n 3, 1) := by decide +kernel
theorem dX4_robbed_34 : decode cX4_robbed 34 = .ok (.sipush 192, 3) := by decide +kernel
theorem dX4_robbed_37 : decode cX4_robbed 37 = .ok (.if_icmp .ge 36, 3) := by decide +kernel
theorem dX4_robbed_40 : decode cX4_robbed 40 = .ok (.aload_n 0, 1) := by decide +kernel
theorem dX4_robbed_41 : decode cX4_robbed 41 = .ok (.getfield 56, 3) := by decide +kernel
theorem dX4_robbed_44 : decode cX4_robbed 44 = .ok (.iload_n 3, 1) := by decide +kernel
theorem dX4_robbed_45 : decode cX4_robbed 45 = .ok (.aload_n 0, 1) := by decide +kernel
theorem dX4_robbed_46 : decode cX4_robbed 46 = .ok (.iload_n 3, 1) := by decide +kernel
theorem dX4_robbed_47 : decode cX4_robbed 47 = .ok (.bipush 24, 2) := by decide +kernel
theorem dX4_robbed_49 : decode cX4_robbed 49 = .ok (.idiv, 1) := by decide +kernel
theorem dX4_robbed_50 : decode cX4_robbed 50 = .ok (.iload_n 3, 1) := by decide +kernel
theorem dX4_robbed_51 : decode cX4_robbed 51 = .ok (.bipush 24, 2) := by decide +kernel
theorem dX4_robbed_53 : decode cX4_robbed 53 = .ok (.irem, 1) := by decide +kernel
theorem dX4_robbed_54 : decode cX4_robbed 54 = .ok (.iload_n 2, 1) := by decide +kernel
theorem dX4_robbed_55 : decode cX4_robbed 55 = .ok (.invokevirtual 179, 3) := by decide +kernel
theorem dX4_robbed_58 : decode cX4_robbed 58 = .ok (.ifCond .ne 7, 3) := by decide +kernel
theorem dX4_robbed_61 : decode cX4_robbed 61 = .ok (.iconst 1, 1) := by decide +kernel
theorem dX4_robbed_62 : decode cX4_robbed 62 = .ok (.goto 4, 3) := by decide +kernel
theorem dX4_robbed_65 : decode cX4_robbed 65 = .ok (.iconst 0, 1) := by decide +kernel
theorem dX4_robbed_66 : decode cX4_robbed 66 = .ok (.bastore, 1) := by decide +kernel
theorem dX4_robbed_67 : decode cX4_robbed 67 = .ok (.iinc 3 1, 3) := by decide +kernel
theorem dX4_robbed_70 : decode cX4_robbed 70 = .ok (.goto (-37), 3) := by decide +kernel
theorem dX4_robbed_73 : decode cX4_robbed 73 = .ok (.iload_n 2, 1) := by decide +kernel
theorem dX4_robbed_74 : decode cX4_robbed 74 = .ok (.iconst 1, 1) := by decide +kernel
theorem dX4_robbed_75 : decode cX4_robbed 75 = .ok (.iload_n 1, 1) := by decide +kernel
theorem dX4_robbed_76 : decode cX4_robbed 76 = .ok (.ishl, 1) := by decide +kernel
theorem dX4_robbed_77 : decode cX4_robbed 77 = .ok (.ior, 1) := by decide +kernel
theorem dX4_robbed_78 : decode cX4_robbed 78 = .ok (.istore_n 2, 1) := by decide +kernel
theorem dX4_robbed_79 : decode cX4_robbed 79 = .ok (.aload_n 0, 1) := by decide +kernel
theorem dX4_robbed_80 : decode cX4_robbed 80 = .ok (.iload_n 2, 1) := by decide +kernel
theorem dX4_robbed_81 : decode cX4_robbed 81 = .ok (.iconst 1, 1) := by decide +kernel
theorem dX4_robbed_82 : decode cX4_robbed 82 = .ok (.invokevirtual 117, 3) := by decide +kernel
theorem dX4_robbed_85 : decode cX4_robbed 85 = .ok (.iconst 0, 1) := by decide +kernel
theorem dX4_robbed_86 : decode cX4_robbed 86 = .ok (.istore_n 3, 1) := by decide +kernel
theorem dX4_robbed_87 : decode cX4_robbed 87 = .ok (.iconst 0, 1) := by decide +kernel
theorem dX4_robbed_88 : decode cX4_robbed 88 = .ok (.istore 4, 2) := by decide +kernel
theorem dX4_robbed_90 : decode cX4_robbed 90 = .ok (.iload 4, 2) := by decide +kernel
theorem dX4_robbed_92 : decode cX4_robbed 92 = .ok (.sipush 192, 3) := by decide +kernel
theorem dX4_robbed_95 : decode cX4_robbed 95 = .ok (.if_icmp .ge 45, 3) := by decide +kernel
theorem dX4_robbed_98 : decode cX4_robbed 98 = .ok (.iload_n 3, 1) := by decide +kernel
theorem dX4_robbed_99 : decode cX4_robbed 99 = .ok (.aload_n 0, 1) := by decide +kernel
theorem dX4_robbed_100 : decode cX4_robbed 100 = .ok (.getfield 56, 3) := by decide +kernel
theorem dX4_robbed_103 : decode cX4_robbed 103 = .ok (.iload 4, 2) := by decide +kernel
theorem dX4_robbed_105 : decode cX4_robbed 105 = .ok (.baload, 1) := by decide +kernel
theorem dX4_robbed_106 : decode cX4_robbed 106 = .ok (.ifCond .eq 25, 3) := by decide +kernel
theorem dX4_robbed_109 : decode cX4_robbed 109 = .ok (.aload_n 0, 1) := by decide +kernel
theorem dX4_robbed_110 : decode cX4_robbed 110 = .ok (.iload 4, 2) := by decide +kernel
theorem dX4_robbed_112 : decode cX4_robbed 112 = .ok (.bipush 24, 2) := by decide +kernel
theorem dX4_robbed_114 : decode cX4_robbed 114 = .ok (.idiv, 1) := by decide +kernel
theorem dX4_robbed_115 : decode cX4_robbed 115 = .ok (.iload 4, 2) := by decide +kernel
theorem dX4_robbed_117 : decode cX4_robbed 117 = .ok (.bipush 24, 2) := by decide +kernel
theorem dX4_robbed_119 : decode cX4_robbed 119 = .ok (.irem, 1) := by decide +kernel
theorem dX4_robbed_120 : decode cX4_robbed 120 = .ok (.iload_n 2, 1) := by decide +kernel
theorem dX4_robbed_121 : decode cX4_robbed 121 = .ok (.invokevirtual 179, 3) := by decide +kernel
theorem dX4_robbed_124 : decode cX4_robbed 124 = .ok (.ifCond .eq 7, 3) := by decide +kernel
theorem dX4_robbed_127 : decode cX4_robbed 127 = .ok (.iconst 1, 1) := by decide +kernel
theorem dX4_robbed_128 : decode cX4_robbed 128 = .ok (.goto 4, 3) := by decide +kernel
theorem dX4_robbed_131 : decode cX4_robbed 131 = .ok (.iconst 0, 1) := by decide +kernel
theorem dX4_robbed_132 : decode cX4_robbed 132 = .ok (.iadd, 1) := by decide +kernel
theorem dX4_robbed_133 : decode cX4_robbed 133 = .ok (.istore_n 3, 1) := by decide +kernel
theorem dX4_robbed_134 : decode cX4_robbed 134 = .ok (.iinc 4 1, 3) := by decide +kernel
theorem dX4_robbed_137 : decode cX4_robbed 137 = .ok (.goto (-47), 3) := by decide +kernel
theorem dX4_robbed_140 : decode cX4_robbed 140 = .ok (.iload_n 3, 1) := by decide +kernel
theorem dX4_robbed_141 : decode cX4_robbed 141 = .ok (.ireturn, 1) := by decide +kernel
theorem dX4_lowest_0 : decode cX4_lowest 0 = .ok (.iload_n 1, 1) := by decide +kernel
theorem dX4_lowest_1 : decode cX4_lowest 1 = .ok (.iconst 1, 1) := by decide +kernel
theorem dX4_lowest_2 : decode cX4_lowest 2 = .ok (.sipush 1000, 3) := by decide +kernel
theorem dX4_lowest_5 : decode cX4_lowest 5 = .ok (.invokestatic 59, 3) := by decide +kernel
theorem dX4_lowest_8 : decode cX4_lowest 8 = .ok (.ifCond .ne 6, 3) := by decide +kernel
theorem dX4_lowest_11 : decode cX4_lowest 11 = .ok (.ldc 72, 2) := by decide +kernel
theorem dX4_lowest_13 : decode cX4_lowest 13 = .ok (.ireturn, 1) := by decide +kernel
theorem dX4_lowest_14 : decode cX4_lowest 14 = .ok (.iconst 0, 1) := by decide +kernel
theorem dX4_lowest_15 : decode cX4_lowest 15 = .ok (.istore_n 2, 1) := by decide +kernel
theorem dX4_lowest_16 : decode cX4_lowest 16 = .ok (.iload_n 2, 1) := by decide +kernel
theorem dX4_lowest_17 : decode cX4_lowest 17 = .ok (.sipush 264, 3) := by decide +kernel
theorem dX4_lowest_20 : decode cX4_lowest 20 = .ok (.if_icmp .ge 21, 3) := by decide +kernel
theorem dX4_lowest_23 : decode cX4_lowest 23 = .ok (.aload_n 0, 1) := by decide +kernel
theorem dX4_lowest_24 : decode cX4_lowest 24 = .ok (.getfield 13, 3) := by decide +kernel
theorem dX4_lowest_27 : decode cX4_lowest 27 = .ok (.iload_n 2, 1) := by decide +kernel
theorem dX4_lowest_28 : decode cX4_lowest 28 = .ok (.aload_n 0, 1) := by decide +kernel
theorem dX4_lowest_29 : decode cX4_lowest 29 = .ok (.getfield 7, 3) := by decide +kernel
theorem dX4_lowest_32 : decode cX4_lowest 32 = .ok (.iload_n 2, 1) := by decide +kernel
theorem dX4_lowest_33 : decode cX4_lowest 33 = .ok (.iaload, 1) := by decide +kernel
theorem dX4_lowest_34 : decode cX4_lowest 34 = .ok (.iastore, 1) := by decide +kernel
theorem dX4_lowest_35 : decode cX4_lowest 35 = .ok (.iinc 2 1, 3) := by decide +kernel
theorem dX4_lowest_38 : decode cX4_lowest 38 = .ok (.goto (-22), 3) := by decide +kernel
theorem dX4_lowest_41 : decode cX4_lowest 41 = .ok (.aload_n 0, 1) := by decide +kernel
theorem dX4_lowest_42 : decode cX4_lowest 42 = .ok (.iconst 1, 1) := by decide +kernel
theorem dX4_lowest_43 : decode cX4_lowest 43 = .ok (.invokevirtual 137, 3) := by decide +kernel
theorem dX4_lowest_46 : decode cX4_lowest 46 = .ok (.istore_n 2, 1) := by decide +kernel
theorem dX4_lowest_47 : decode cX4_lowest 47 = .ok (.iconst 1, 1) := by decide +kernel
theorem dX4_lowest_48 : decode cX4_lowest 48 = .ok (.istore_n 3, 1) := by decide +kernel
theorem dX4_lowest_49 : decode cX4_lowest 49 = .ok (.iload_n 3, 1) := by decide +kernel
theorem dX4_lowest_50 : decode cX4_lowest 50 = .ok (.iload_n 1, 1) := by decide +kernel
theorem dX4_lowest_51 : decode cX4_lowest 51 = .ok (.if_icmp .ge 29, 3) := by decide +kernel
theorem dX4_lowest_54 : decode cX4_lowest 54 = .ok (.aload_n 0, 1) := by decide +kernel
theorem dX4_lowest_55 : decode cX4_lowest 55 = .ok (.iconst 1, 1) := by decide +kernel
theorem dX4_lowest_56 : decode cX4_lowest 56 = .ok (.invokevirtual 137, 3) := by decide +kernel
theorem dX4_lowest_59 : decode cX4_lowest 59 = .ok (.istore 4, 2) := by decide +kernel
theorem dX4_lowest_61 : decode cX4_lowest 61 = .ok (.iload 4, 2) := by decide +kernel
theorem dX4_lowest_63 : decode cX4_lowest 63 = .ok (.iload_n 2, 1) := by decide +kernel
theorem dX4_lowest_64 : decode cX4_lowest 64 = .ok (.if_icmp .ge 8, 3) := by decide +kernel
theorem dX4_lowest_67 : decode cX4_lowest 67 = .ok (.iload 4, 2) := by decide +kernel
theorem dX4_lowest_69 : decode cX4_lowest 69 = .ok (.goto 4, 3) := by decide +kernel
theorem dX4_lowest_72 : decode cX4_lowest 72 = .ok (.iload_n 2, 1) := by decide +kernel
theorem dX4_lowest_73 : decode cX4_lowest 73 = .ok (.istore_n 2, 1) := by decide +kernel
theorem dX4_lowest_74 : decode cX4_lowest 74 = .ok (.iinc 3 1, 3) := by decide +kernel
theorem dX4_lowest_77 : decode cX4_lowest 77 = .ok (.goto (-28), 3) := by decide +kernel
theorem dX4_lowest_80 : decode cX4_lowest 80 = .ok (.iconst 0, 1) := by decide +kernel
theorem dX4_lowest_81 : decode cX4_lowest 81 = .ok (.istore_n 3, 1) := by decide +kernel
theorem dX4_lowest_82 : decode cX4_lowest 82 = .ok (.iload_n 3, 1) := by decide +kernel
theorem dX4_lowest_83 : decode cX4_lowest 83 = .ok (.sipush 264, 3) := by decide +kernel
theorem dX4_lowest_86 : decode cX4_lowest 86 = .ok (.if_icmp .ge 21, 3) := by decide +kernel
theorem dX4_lowest_89 : decode cX4_lowest 89 = .ok (.aload_n 0, 1) := by decide +kernel
theorem dX4_lowest_90 : decode cX4_lowest 90 = .ok (.getfield 7, 3) := by decide +kernel
theorem dX4_lowest_93 : decode cX4_lowest 93 = .ok (.iload_n 3, 1) := by decide +kernel
theorem dX4_lowest_94 : decode cX4_lowest 94 = .ok (.aload_n 0, 1) := by decide +kernel
theorem dX4_lowest_95 : decode cX4_lowest 95 = .ok (.getfield 13, 3) := by decide +kernel
theorem dX4_lowest_98 : decode cX4_lowest 98 = .ok (.iload_n 3, 1) := by decide +kernel
theorem dX4_lowest_99 : decode cX4_lowest 99 = .ok (.iaload, 1) := by decide +kernel
theorem dX4_lowest_100 : decode cX4_lowest 100 = .ok (.iastore, 1) := by decide +kernel
theorem dX4_lowest_101 : decode cX4_lowest 101 = .ok (.iinc 3 1, 3) := by decide +kernel
theorem dX4_lowest_104 : decode cX4_lowest 104 = .ok (.goto (-22), 3) := by decide +kernel
theorem dX4_lowest_107 : decode cX4_lowest 107 = .ok (.iload_n 2, 1) := by decide +kernel
theorem dX4_lowest_108 : decode cX4_lowest 108 = .ok (.ireturn, 1) := by decide +kernel
theorem dX4_undo_0 : decode cX4_undo 0 = .ok (.aload_n 0, 1) := by decide +kernel
theorem dX4_undo_1 : decode cX4_undo 1 = .ok (.getfield 63, 3) := by decide +kernel
theorem dX4_undo_4 : decode cX4_undo 4 = .ok (.ifCond .ne 6, 3) := by decide +kernel
theorem dX4_undo_7 : decode cX4_undo 7 = .ok (.ldc 178, 2) := by decide +kernel
theorem dX4_undo_9 : decode cX4_undo 9 = .ok (.ireturn, 1) := by decide +kernel
theorem dX4_undo_10 : decode cX4_undo 10 = .ok (.aload_n 0, 1) := by decide +kernel
theorem dX4_undo_11 : decode cX4_undo 11 = .ok (.dup, 1) := by decide +kernel
theorem dX4_undo_12 : decode cX4_undo 12 = .ok (.getfield 63, 3) := by decide +kernel
theorem dX4_undo_15 : decode cX4_undo 15 = .ok (.iconst 1, 1) := by decide +kernel
theorem dX4_undo_16 : decode cX4_undo 16 = .ok (.isub, 1) := by decide +kernel
theorem dX4_undo_17 : decode cX4_undo 17 = .ok (.putfield 63, 3) := by decide +kernel
theorem dX4_undo_20 : decode cX4_undo 20 = .ok (.iconst 0, 1) := by decide +kernel
theorem dX4_undo_21 : decode cX4_undo 21 = .ok (.istore_n 1, 1) := by decide +kernel
theorem dX4_undo_22 : decode cX4_undo 22 = .ok (.iload_n 1, 1) := by decide +kernel
theorem dX4_undo_23 : decode cX4_undo 23 = .ok (.sipush 264, 3) := by decide +kernel
theorem dX4_undo_26 : decode cX4_undo 26 = .ok (.if_icmp .ge 30, 3) := by decide +kernel
theorem dX4_undo_29 : decode cX4_undo 29 = .ok (.aload_n 0, 1) := by decide +kernel
theorem dX4_undo_30 : decode cX4_undo 30 = .ok (.getfield 7, 3) := by decide +kernel
theorem dX4_undo_33 : decode cX4_undo 33 = .ok (.iload_n 1, 1) := by decide +kernel
theorem dX4_undo_34 : decode cX4_undo 34 = .ok (.aload_n 0, 1) := by decide +kernel
theorem dX4_undo_35 : decode cX4_undo 35 = .ok (.getfield 16, 3) := by decide +kernel
theorem dX4_undo_38 : decode cX4_undo 38 = .ok (.sipush 264, 3) := by decide +kernel
theorem dX4_undo_41 : decode cX4_undo 41 = .ok (.aload_n 0, 1) := by decide +kernel
theorem dX4_undo_42 : decode cX4_undo 42 = .ok (.getfield 63, 3) := by decide +kernel
theorem dX4_undo_45 : decode cX4_undo 45 = .ok (.imul, 1) := by decide +kernel
theorem dX4_undo_46 : decode cX4_undo 46 = .ok (.iload_n 1, 1) := by decide +kernel
theorem dX4_undo_47 : decode cX4_undo 47 = .ok (.iadd, 1) := by decide +kernel
theorem dX4_undo_48 : decode cX4_undo 48 = .ok (.iaload, 1) := by decide +kernel
theorem dX4_undo_49 : decode cX4_undo 49 = .ok (.iastore, 1) := by decide +kernel
theorem dX4_undo_50 : decode cX4_undo 50 = .ok (.iinc 1 1, 3) := by decide +kernel
theorem dX4_undo_53 : decode cX4_undo 53 = .ok (.goto (-31), 3) := by decide +kernel
theorem dX4_undo_56 : decode cX4_undo 56 = .ok (.aload_n 0, 1) := by decide +kernel
theorem dX4_undo_57 : decode cX4_undo 57 = .ok (.getfield 63, 3) := by decide +kernel
theorem dX4_undo_60 : decode cX4_undo 60 = .ok (.ireturn, 1) := by decide +kernel
theorem dX4_save_0 : decode cX4_save 0 = .ok (.iload_n 1, 1) := by decide +kernel
theorem dX4_save_1 : decode cX4_save 1 = .ok (.iconst 0, 1) := by decide +kernel
theorem dX4_save_2 : decode cX4_save 2 = .ok (.iconst 1, 1) := by decide +kernel
theorem dX4_save_3 : decode cX4_save 3 = .ok (.invokestatic 59, 3) := by decide +kernel
theorem dX4_save_6 : decode cX4_save 6 = .ok (.ifCond .ne 6, 3) := by decide +kernel
theorem dX4_save_9 : decode cX4_save 9 = .ok (.ldc 71, 2) := by decide +kernel
theorem dX4_save_11 : decode cX4_save 11 = .ok (.ireturn, 1) := by decide +kernel
theorem dX4_save_12 : decode cX4_save 12 = .ok (.iconst 0, 1) := by decide +kernel
theorem dX4_save_13 : decode cX4_save 13 = .ok (.istore_n 2, 1) := by decide +kernel
theorem dX4_save_14 : decode cX4_save 14 = .ok (.iload_n 2, 1) := by decide +kernel
theorem dX4_save_15 : decode cX4_save 15 = .ok (.sipush 264, 3) := by decide +kernel
theorem dX4_save_18 : decode cX4_save 18 = .ok (.if_icmp .ge 27, 3) := by decide +kernel
theorem dX4_save_21 : decode cX4_save 21 = .ok (.aload_n 0, 1) := by decide +kernel
theorem dX4_save_22 : decode cX4_save 22 = .ok (.getfield 19, 3) := by decide +kernel
theorem dX4_save_25 : decode cX4_save 25 = .ok (.sipush 264, 3) := by decide +kernel
theorem dX4_save_28 : decode cX4_save 28 = .ok (.iload_n 1, 1) := by decide +kernel
theorem dX4_save_29 : decode cX4_save 29 = .ok (.imul, 1) := by decide +kernel
theorem dX4_save_30 : decode cX4_save 30 = .ok (.iload_n 2, 1) := by decide +kernel
theorem dX4_save_31 : decode cX4_save 31 = .ok (.iadd, 1) := by decide +kernel
theorem dX4_save_32 : decode cX4_save 32 = .ok (.aload_n 0, 1) := by decide +kernel
theorem dX4_save_33 : decode cX4_save 33 = .ok (.getfield 7, 3) := by decide +kernel
theorem dX4_save_36 : decode cX4_save 36 = .ok (.iload_n 2, 1) := by decide +kernel
theorem dX4_save_37 : decode cX4_save 37 = .ok (.iaload, 1) := by decide +kernel
theorem dX4_save_38 : decode cX4_save 38 = .ok (.iastore, 1) := by decide +kernel
theorem dX4_save_39 : decode cX4_save 39 = .ok (.iinc 2 1, 3) := by decide +kernel
theorem dX4_save_42 : decode cX4_save 42 = .ok (.goto (-28), 3) := by decide +kernel
theorem dX4_save_45 : decode cX4_save 45 = .ok (.aload_n 0, 1) := by decide +kernel
theorem dX4_save_46 : decode cX4_save 46 = .ok (.getfield 22, 3) := by decide +kernel
theorem dX4_save_49 : decode cX4_save 49 = .ok (.iload_n 1, 1) := by decide +kernel
theorem dX4_save_50 : decode cX4_save 50 = .ok (.iconst 1, 1) := by decide +kernel
theorem dX4_save_51 : decode cX4_save 51 = .ok (.bastore, 1) := by decide +kernel
theorem dX4_save_52 : decode cX4_save 52 = .ok (.aload_n 0, 1) := by decide +kernel
theorem dX4_save_53 : decode cX4_save 53 = .ok (.getfield 7, 3) := by decide +kernel
theorem dX4_save_56 : decode cX4_save 56 = .ok (.bipush 13, 2) := by decide +kernel
theorem dX4_save_58 : decode cX4_save 58 = .ok (.iaload, 1) := by decide +kernel
theorem dX4_save_59 : decode cX4_save 59 = .ok (.ireturn, 1) := by decide +kernel
theorem dX4_restore_0 : decode cX4_restore 0 = .ok (.iload_n 1, 1) := by decide +kernel
theorem dX4_restore_1 : decode cX4_restore 1 = .ok (.iconst 0, 1) := by decide +kernel
theorem dX4_restore_2 : decode cX4_restore 2 = .ok (.iconst 1, 1) := by decide +kernel
theorem dX4_restore_3 : decode cX4_restore 3 = .ok (.invokestatic 59, 3) := by decide +kernel
theorem dX4_restore_6 : decode cX4_restore 6 = .ok (.ifCond .ne 6, 3) := by decide +kernel
theorem dX4_restore_9 : decode cX4_restore 9 = .ok (.ldc 71, 2) := by decide +kernel
theorem dX4_restore_11 : decode cX4_restore 11 = .ok (.ireturn, 1) := by decide +kernel
theorem dX4_restore_12 : decode cX4_restore 12 = .ok (.aload_n 0, 1) := by decide +kernel
theorem dX4_restore_13 : decode cX4_restore 13 = .ok (.getfield 22, 3) := by decide +kernel
theorem dX4_restore_16 : decode cX4_restore 16 = .ok (.iload_n 1, 1) := by decide +kernel
theorem dX4_restore_17 : decode cX4_restore 17 = .ok (.baload, 1) := by decide +kernel
theorem dX4_restore_18 : decode cX4_restore 18 = .ok (.ifCond .ne 6, 3) := by decide +kernel
theorem dX4_restore_21 : decode cX4_restore 21 = .ok (.ldc 178, 2) := by decide +kernel
theorem dX4_restore_23 : decode cX4_restore 23 = .ok (.ireturn, 1) := by decide +kernel
theorem dX4_restore_24 : decode cX4_restore 24 = .ok (.aload_n 0, 1) := by decide +kernel
theorem dX4_restore_25 : decode cX4_restore 25 = .ok (.invokevirtual 73, 3) := by decide +kernel
theorem dX4_restore_28 : decode cX4_restore 28 = .ok (.iconst 0, 1) := by decide +kernel
theorem dX4_restore_29 : decode cX4_restore 29 = .ok (.istore_n 2, 1) := by decide +kernel
theorem dX4_restore_30 : decode cX4_restore 30 = .ok (.iload_n 2, 1) := by decide +kernel
theorem dX4_restore_31 : decode cX4_restore 31 = .ok (.sipush 264, 3) := by decide +kernel
theorem dX4_restore_34 : decode cX4_restore 34 = .ok (.if_icmp .ge 27, 3) := by decide +kernel
theorem dX4_restore_37 : decode cX4_restore 37 = .ok (.aload_n 0, 1) := by decide +kernel
theorem dX4_restore_38 : decode cX4_restore 38 = .ok (.getfield 7, 3) := by decide +kernel
theorem dX4_restore_41 : decode cX4_restore 41 = .ok (.iload_n 2, 1) := by decide +kernel
theorem dX4_restore_42 : decode cX4_restore 42 = .ok (.aload_n 0, 1) := by decide +kernel
theorem dX4_restore_43 : decode cX4_restore 43 = .ok (.getfield 19, 3) := by decide +kernel
theorem dX4_restore_46 : decode cX4_restore 46 = .ok (.sipush 264, 3) := by decide +kernel
theorem dX4_restore_49 : decode cX4_restore 49 = .ok (.iload_n 1, 1) := by decide +kernel
theorem dX4_restore_50 : decode cX4_restore 50 = .ok (.imul, 1) := by decide +kernel
theorem dX4_restore_51 : decode cX4_restore 51 = .ok (.iload_n 2, 1) := by decide +kernel
theorem dX4_restore_52 : decode cX4_restore 52 = .ok (.iadd, 1) := by decide +kernel
theorem dX4_restore_53 : decode cX4_restore 53 = .ok (.iaload, 1) := by decide +kernel
theorem dX4_restore_54 : decode cX4_restore 54 = .ok (.iastore, 1) := by decide +kernel
theorem dX4_restore_55 : decode cX4_restore 55 = .ok (.iinc 2 1, 3) := by decide +kernel
theorem dX4_restore_58 : decode cX4_restore 58 = .ok (.goto (-28), 3) := by decide +kernel
theorem dX4_restore_61 : decode cX4_restore 61 = .ok (.aload_n 0, 1) := by decide +kernel
theorem dX4_restore_62 : decode cX4_restore 62 = .ok (.getfield 7, 3) := by decide +kernel
theorem dX4_restore_65 : decode cX4_restore 65 = .ok (.bipush 13, 2) := by decide +kernel
theorem dX4_restore_67 : decode cX4_restore 67 = .ok (.iaload, 1) := by decide +kernel
theorem dX4_restore_68 : decode cX4_restore 68 = .ok (.ireturn, 1) := by decide +kernel
theorem dX4_more_0 : decode cX4_more 0 = .ok (.ldc2_w 216, 3) := by decide +kernel
theorem dX4_more_3 : decode cX4_more 3 = .ok (.lload_n 0, 1) := by decide +kernel
theorem dX4_more_4 : decode cX4_more 4 = .ok (.lmul, 1) := by decide +kernel
theorem dX4_more_5 : decode cX4_more 5 = .ok (.iload_n 2, 1) := by decide +kernel
theorem dX4_more_6 : decode cX4_more 6 = .ok (.i2l, 1) := by decide +kernel
theorem dX4_more_7 : decode cX4_more 7 = .ok (.ladd, 1) := by decide +kernel
theorem dX4_more_8 : decode cX4_more 8 = .ok (.lreturn, 1) := by decide +kernel
theorem dX4_checksum_0 : decode cX4_checksum 0 = .ok (.ldc2_w 218, 3) := by decide +kernel
theorem dX4_checksum_3 : decode cX4_checksum 3 = .ok (.lstore_n 1, 1) := by decide +kernel
theorem dX4_checksum_4 : decode cX4_checksum 4 = .ok (.iconst 0, 1) := by decide +kernel
theorem dX4_checksum_5 : decode cX4_checksum 5 = .ok (.istore_n 3, 1) := by decide +kernel
theorem dX4_checksum_6 : decode cX4_checksum 6 = .ok (.iload_n 3, 1) := by decide +kernel
theorem dX4_checksum_7 : decode cX4_checksum 7 = .ok (.bipush 40, 2) := by decide +kernel
theorem dX4_checksum_9 : decode cX4_checksum 9 = .ok (.if_icmp .ge 23, 3) := by decide +kernel
theorem dX4_checksum_12 : decode cX4_checksum 12 = .ok (.lload_n 1, 1) := by decide +kernel
theorem dX4_checksum_13 : decode cX4_checksum 13 = .ok (.aload_n 0, 1) := by decide +kernel
theorem dX4_checksum_14 : decode cX4_checksum 14 = .ok (.getfield 7, 3) := by decide +kernel
theorem dX4_checksum_17 : decode cX4_checksum 17 = .ok (.bipush 24, 2) := by decide +kernel
theorem dX4_checksum_19 : decode cX4_checksum 19 = .ok (.iload_n 3, 1) := by decide +kernel
theorem dX4_checksum_20 : decode cX4_checksum 20 = .ok (.iadd, 1) := by decide +kernel
theorem dX4_checksum_21 : decode cX4_checksum 21 = .ok (.iaload, 1) := by decide +kernel
theorem dX4_checksum_22 : decode cX4_checksum 22 = .ok (.invokestatic 220, 3) := by decide +kernel
theorem dX4_checksum_25 : decode cX4_checksum 25 = .ok (.lstore_n 1, 1) := by decide +kernel
theorem dX4_checksum_26 : decode cX4_checksum 26 = .ok (.iinc 3 1, 3) := by decide +kernel
theorem dX4_checksum_29 : decode cX4_checksum 29 = .ok (.goto (-23), 3) := by decide +kernel
theorem dX4_checksum_32 : decode cX4_checksum 32 = .ok (.iconst 0, 1) := by decide +kernel
theorem dX4_checksum_33 : decode cX4_checksum 33 = .ok (.istore_n 3, 1) := by decide +kernel
theorem dX4_checksum_34 : decode cX4_checksum 34 = .ok (.iload_n 3, 1) := by decide +kernel
theorem dX4_checksum_35 : decode cX4_checksum 35 = .ok (.bipush 9, 2) := by decide +kernel
theorem dX4_checksum_37 : decode cX4_checksum 37 = .ok (.if_icmp .ge 22, 3) := by decide +kernel
theorem dX4_checksum_40 : decode cX4_checksum 40 = .ok (.lload_n 1, 1) := by decide +kernel
theorem dX4_checksum_41 : decode cX4_checksum 41 = .ok (.aload_n 0, 1) := by decide +kernel
theorem dX4_checksum_42 : decode cX4_checksum 42 = .ok (.getfield 7, 3) := by decide +kernel
theorem dX4_checksum_45 : decode cX4_checksum 45 = .ok (.iconst 1, 1) := by decide +kernel
theorem dX4_checksum_46 : decode cX4_checksum 46 = .ok (.iload_n 3, 1) := by decide +kernel
theorem dX4_checksum_47 : decode cX4_checksum 47 = .ok (.iadd, 1) := by decide +kernel
theorem dX4_checksum_48 : decode cX4_checksum 48 = .ok (.iaload, 1) := by decide +kernel
theorem dX4_checksum_49 : decode cX4_checksum 49 = .ok (.invokestatic 220, 3) := by decide +kernel
theorem dX4_checksum_52 : decode cX4_checksum 52 = .ok (.lstore_n 1, 1) := by decide +kernel
theorem dX4_checksum_53 : decode cX4_checksum 53 = .ok (.iinc 3 1, 3) := by decide +kernel
theorem dX4_checksum_56 : decode cX4_checksum 56 = .ok (.goto (-22), 3) := by decide +kernel
theorem dX4_checksum_59 : decode cX4_checksum 59 = .ok (.iconst 0, 1) := by decide +kernel
theorem dX4_checksum_60 : decode cX4_checksum 60 = .ok (.istore_n 3, 1) := by decide +kernel
theorem dX4_checksum_61 : decode cX4_checksum 61 = .ok (.iload_n 3, 1) := by decide +kernel
theorem dX4_checksum_62 : decode cX4_checksum 62 = .ok (.bipush 10, 2) := by decide +kernel
theorem dX4_checksum_64 : decode cX4_checksum 64 = .ok (.if_icmp .ge 19, 3) := by decide +kernel
theorem dX4_checksum_67 : decode cX4_checksum 67 = .ok (.lload_n 1, 1) := by decide +kernel
theorem dX4_checksum_68 : decode cX4_checksum 68 = .ok (.aload_n 0, 1) := by decide +kernel
theorem dX4_checksum_69 : decode cX4_checksum 69 = .ok (.iload_n 3, 1) := by decide +kernel
theorem dX4_checksum_70 : decode cX4_checksum 70 = .ok (.invokevirtual 189, 3) := by decide +kernel
theorem dX4_checksum_73 : decode cX4_checksum 73 = .ok (.invokestatic 220, 3) := by decide +kernel
theorem dX4_checksum_76 : decode cX4_checksum 76 = .ok (.lstore_n 1, 1) := by decide +kernel
theorem dX4_checksum_77 : decode cX4_checksum 77 = .ok (.iinc 3 1, 3) := by decide +kernel
theorem dX4_checksum_80 : decode cX4_checksum 80 = .ok (.goto (-19), 3) := by decide +kernel
theorem dX4_checksum_83 : decode cX4_checksum 83 = .ok (.iconst 0, 1) := by decide +kernel
theorem dX4_checksum_84 : decode cX4_checksum 84 = .ok (.istore_n 3, 1) := by decide +kernel
theorem dX4_checksum_85 : decode cX4_checksum 85 = .ok (.iload_n 3, 1) := by decide +kernel
theorem dX4_checksum_86 : decode cX4_checksum 86 = .ok (.iconst 2, 1) := by decide +kernel
theorem dX4_checksum_87 : decode cX4_checksum 87 = .ok (.if_icmp .ge 36, 3) := by decide +kernel
theorem dX4_checksum_90 : decode cX4_checksum 90 = .ok (.iconst 0, 1) := by decide +kernel
theorem dX4_checksum_91 : decode cX4_checksum 91 = .ok (.istore 4, 2) := by decide +kernel
theorem dX4_checksum_93 : decode cX4_checksum 93 = .ok (.iload 4, 2) := by decide +kernel
theorem dX4_checksum_95 : decode cX4_checksum 95 = .ok (.iconst 3, 1) := by decide +kernel
theorem dX4_checksum_96 : decode cX4_checksum 96 = .ok (.if_icmp .ge 21, 3) := by decide +kernel
theorem dX4_checksum_99 : decode cX4_checksum 99 = .ok (.lload_n 1, 1) := by decide +kernel
theorem dX4_checksum_100 : decode cX4_checksum 100 = .ok (.aload_n 0, 1) := by decide +kernel
theorem dX4_checksum_101 : decode cX4_checksum 101 = .ok (.iload_n 3, 1) := by decide +kernel
theorem dX4_checksum_102 : decode cX4_checksum 102 = .ok (.iload 4, 2) := by decide +kernel
theorem dX4_checksum_104 : decode cX4_checksum 104 = .ok (.invokevirtual 192, 3) := by decide +kernel
theorem dX4_checksum_107 : decode cX4_checksum 107 = .ok (.invokestatic 220, 3) := by decide +kernel
theorem dX4_checksum_110 : decode cX4_checksum 110 = .ok (.lstore_n 1, 1) := by decide +kernel
theorem dX4_checksum_111 : decode cX4_checksum 111 = .ok (.iinc 4 1, 3) := by decide +kernel
theorem dX4_checksum_114 : decode cX4_checksum 114 = .ok (.goto (-21), 3) := by decide +kernel
theorem dX4_checksum_117 : decode cX4_checksum 117 = .ok (.iinc 3 1, 3) := by decide +kernel
theorem dX4_checksum_120 : decode cX4_checksum 120 = .ok (.goto (-35), 3) := by decide +kernel
theorem dX4_checksum_123 : decode cX4_checksum 123 = .ok (.lload_n 1, 1) := by decide +kernel
theorem dX4_checksum_124 : decode cX4_checksum 124 = .ok (.aload_n 0, 1) := by decide +kernel
theorem dX4_checksum_125 : decode cX4_checksum 125 = .ok (.getfield 7, 3) := by decide +kernel
theorem dX4_checksum_128 : decode cX4_checksum 128 = .ok (.bipush 18, 2) := by decide +kernel
theorem dX4_checksum_130 : decode cX4_checksum 130 = .ok (.iaload, 1) := by decide +kernel
theorem dX4_checksum_131 : decode cX4_checksum 131 = .ok (.invokestatic 220, 3) := by decide +kernel
theorem dX4_checksum_134 : decode cX4_checksum 134 = .ok (.aload_n 0, 1) := by decide +kernel
theorem dX4_checksum_135 : decode cX4_checksum 135 = .ok (.getfield 7, 3) := by decide +kernel
theorem dX4_checksum_138 : decode cX4_checksum 138 = .ok (.bipush 19, 2) := by decide +kernel
theorem dX4_checksum_140 : decode cX4_checksum 140 = .ok (.iaload, 1) := by decide +kernel
theorem dX4_checksum_141 : decode cX4_checksum 141 = .ok (.invokestatic 220, 3) := by decide +kernel
theorem dX4_checksum_144 : decode cX4_checksum 144 = .ok (.lstore_n 1, 1) := by decide +kernel
theorem dX4_checksum_145 : decode cX4_checksum 145 = .ok (.aload_n 0, 1) := by decide +kernel
theorem dX4_checksum_146 : decode cX4_checksum 146 = .ok (.invokevirtual 131, 3) := by decide +kernel
theorem dX4_checksum_149 : decode cX4_checksum 149 = .ok (.aload_n 0, 1) := by decide +kernel
theorem dX4_checksum_150 : decode cX4_checksum 150 = .ok (.invokevirtual 96, 3) := by decide +kernel
theorem dX4_checksum_153 : decode cX4_checksum 153 = .ok (.istore_n 3, 1) := by decide +kernel
theorem dX4_checksum_154 : decode cX4_checksum 154 = .ok (.iconst 0, 1) := by decide +kernel
theorem dX4_checksum_155 : decode cX4_checksum 155 = .ok (.istore 4, 2) := by decide +kernel
theorem dX4_checksum_157 : decode cX4_checksum 157 = .ok (.iload 4, 2) := by decide +kernel
theorem dX4_checksum_159 : decode cX4_checksum 159 = .ok (.bipush 8, 2) := by decide +kernel
theorem dX4_checksum_161 : decode cX4_checksum 161 = .ok (.if_icmp .ge 128, 3) := by decide +kernel
theorem dX4_checksum_164 : decode cX4_checksum 164 = .ok (.iconst 0, 1) := by decide +kernel
theorem dX4_checksum_165 : decode cX4_checksum 165 = .ok (.istore 5, 2) := by decide +kernel
theorem dX4_checksum_167 : decode cX4_checksum 167 = .ok (.iload 5, 2) := by decide +kernel
theorem dX4_checksum_169 : decode cX4_checksum 169 = .ok (.bipush 24, 2) := by decide +kernel
theorem dX4_checksum_171 : decode cX4_checksum 171 = .ok (.if_icmp .ge 112, 3) := by decide +kernel
theorem dX4_checksum_174 : decode cX4_checksum 174 = .ok (.aload_n 0, 1) := by decide +kernel
theorem dX4_checksum_175 : decode cX4_checksum 175 = .ok (.iload 4, 2) := by decide +kernel
theorem dX4_checksum_177 : decode cX4_checksum 177 = .ok (.iload 5, 2) := by decide +kernel
theorem dX4_checksum_179 : decode cX4_checksum 179 = .ok (.invokevirtual 121, 3) := by decide +kernel
theorem dX4_checksum_182 : decode cX4_checksum 182 = .ok (.ifCond .eq 95, 3) := by decide +kernel
theorem dX4_checksum_185 : decode cX4_checksum 185 = .ok (.bipush 24, 2) := by decide +kernel
theorem dX4_checksum_187 : decode cX4_checksum 187 = .ok (.iload 4, 2) := by decide +kernel
theorem dX4_checksum_189 : decode cX4_checksum 189 = .ok (.imul, 1) := by decide +kernel
theorem dX4_checksum_190 : decode cX4_checksum 190 = .ok (.iload 5, 2) := by decide +kernel
theorem dX4_checksum_192 : decode cX4_checksum 192 = .ok (.iadd, 1) := by decide +kernel
theorem dX4_checksum_193 : decode cX4_checksum 193 = .ok (.istore 6, 2) := by decide +kernel
theorem dX4_checksum_195 : decode cX4_checksum 195 = .ok (.lload_n 1, 1) := by decide +kernel
theorem dX4_checksum_196 : decode cX4_checksum 196 = .ok (.bipush 100, 2) := by decide +kernel
theorem dX4_checksum_198 : decode cX4_checksum 198 = .ok (.iload 4, 2) := by decide +kernel
theorem dX4_checksum_200 : decode cX4_checksum 200 = .ok (.imul, 1) := by decide +kernel
theorem dX4_checksum_201 : decode cX4_checksum 201 = .ok (.iload 5, 2) := by decide +kernel
theorem dX4_checksum_203 : decode cX4_checksum 203 = .ok (.iadd, 1) := by decide +kernel
theorem dX4_checksum_204 : decode cX4_checksum 204 = .ok (.invokestatic 220, 3) := by decide +kernel
theorem dX4_checksum_207 : decode cX4_checksum 207 = .ok (.aload_n 0, 1) := by decide +kernel
theorem dX4_checksum_208 : decode cX4_checksum 208 = .ok (.iload 4, 2) := by decide +kernel
theorem dX4_checksum_210 : decode cX4_checksum 210 = .ok (.iload 5, 2) := by decide +kernel
theorem dX4_checksum_212 : decode cX4_checksum 212 = .ok (.invokevirtual 111, 3) := by decide +kernel
theorem dX4_checksum_215 : decode cX4_checksum 215 = .ok (.invokestatic 220, 3) := by decide +kernel
theorem dX4_checksum_218 : decode cX4_checksum 218 = .ok (.aload_n 0, 1) := by decide +kernel
theorem dX4_checksum_219 : decode cX4_checksum 219 = .ok (.getfield 7, 3) := by decide +kernel
theorem dX4_checksum_222 : decode cX4_checksum 222 = .ok (.bipush 64, 2) := by decide +kernel
theorem dX4_checksum_224 : decode cX4_checksum 224 = .ok (.iload 6, 2) := by decide +kernel
theorem dX4_checksum_226 : decode cX4_checksum 226 = .ok (.iadd, 1) := by decide +kernel
theorem dX4_checksum_227 : decode cX4_checksum 227 = .ok (.iaload, 1) := by decide +kernel
theorem dX4_checksum_228 : decode cX4_checksum 228 = .ok (.invokestatic 220, 3) := by decide +kernel
theorem dX4_checksum_231 : decode cX4_checksum 231 = .ok (.lstore_n 1, 1) := by decide +kernel
theorem dX4_checksum_232 : decode cX4_checksum 232 = .ok (.lload_n 1, 1) := by decide +kernel
theorem dX4_checksum_233 : decode cX4_checksum 233 = .ok (.aload_n 0, 1) := by decide +kernel
theorem dX4_checksum_234 : decode cX4_checksum 234 = .ok (.getfield 50, 3) := by decide +kernel
theorem dX4_checksum_237 : decode cX4_checksum 237 = .ok (.iload 6, 2) := by decide +kernel
theorem dX4_checksum_239 : decode cX4_checksum 239 = .ok (.iaload, 1) := by decide +kernel
theorem dX4_checksum_240 : decode cX4_checksum 240 = .ok (.invokestatic 220, 3) := by decide +kernel
theorem dX4_checksum_243 : decode cX4_checksum 243 = .ok (.aload_n 0, 1) := by decide +kernel
theorem dX4_checksum_244 : decode cX4_checksum 244 = .ok (.getfield 53, 3) := by decide +kernel
theorem dX4_checksum_247 : decode cX4_checksum 247 = .ok (.iload 6, 2) := by decide +kernel
theorem dX4_checksum_249 : decode cX4_checksum 249 = .ok (.iaload, 1) := by decide +kernel
theorem dX4_checksum_250 : decode cX4_checksum 250 = .ok (.invokestatic 220, 3) := by decide +kernel
theorem dX4_checksum_253 : decode cX4_checksum 253 = .ok (.aload_n 0, 1) := by decide +kernel
theorem dX4_checksum_254 : decode cX4_checksum 254 = .ok (.iload 4, 2) := by decide +kernel
theorem dX4_checksum_256 : decode cX4_checksum 256 = .ok (.iload 5, 2) := by decide +kernel
theorem dX4_checksum_258 : decode cX4_checksum 258 = .ok (.invokevirtual 195, 3) := by decide +kernel
theorem dX4_checksum_261 : decode cX4_checksum 261 = .ok (.invokestatic 220, 3) := by decide +kernel
theorem dX4_checksum_264 : decode cX4_checksum 264 = .ok (.aload_n 0, 1) := by decide +kernel
theorem dX4_checksum_265 : decode cX4_checksum 265 = .ok (.iload 4, 2) := by decide +kernel
theorem dX4_checksum_267 : decode cX4_checksum 267 = .ok (.iload 5, 2) := by decide +kernel
theorem dX4_checksum_269 : decode cX4_checksum 269 = .ok (.iload_n 3, 1) := by decide +kernel
theorem dX4_checksum_270 : decode cX4_checksum 270 = .ok (.invokevirtual 179, 3) := by decide +kernel
theorem dX4_checksum_273 : decode cX4_checksum 273 = .ok (.invokestatic 220, 3) := by decide +kernel
theorem dX4_checksum_276 : decode cX4_checksum 276 = .ok (.lstore_n 1, 1) := by decide +kernel
theorem dX4_checksum_277 : decode cX4_checksum 277 = .ok (.iinc 5 1, 3) := by decide +kernel
theorem dX4_checksum_280 : decode cX4_checksum 280 = .ok (.goto (-113), 3) := by decide +kernel
theorem dX4_checksum_283 : decode cX4_checksum 283 = .ok (.iinc 4 1, 3) := by decide +kernel
theorem dX4_checksum_286 : decode cX4_checksum 286 = .ok (.goto (-129), 3) := by decide +kernel
theorem dX4_checksum_289 : decode cX4_checksum 289 = .ok (.lload_n 1, 1) := by decide +kernel
theorem dX4_checksum_290 : decode cX4_checksum 290 = .ok (.aload_n 0, 1) := by decide +kernel
theorem dX4_checksum_291 : decode cX4_checksum 291 = .ok (.invokevirtual 204, 3) := by decide +kernel
theorem dX4_checksum_294 : decode cX4_checksum 294 = .ok (.invokestatic 220, 3) := by decide +kernel
theorem dX4_checksum_297 : decode cX4_checksum 297 = .ok (.aload_n 0, 1) := by decide +kernel
theorem dX4_checksum_298 : decode cX4_checksum 298 = .ok (.iconst 0, 1) := by decide +kernel
theorem dX4_checksum_299 : decode cX4_checksum 299 = .ok (.invokevirtual 213, 3) := by decide +kernel
theorem dX4_checksum_302 : decode cX4_checksum 302 = .ok (.invokestatic 220, 3) := by decide +kernel
theorem dX4_checksum_305 : decode cX4_checksum 305 = .ok (.aload_n 0, 1) := by decide +kernel
theorem dX4_checksum_306 : decode cX4_checksum 306 = .ok (.iconst 1, 1) := by decide +kernel
theorem dX4_checksum_307 : decode cX4_checksum 307 = .ok (.invokevirtual 213, 3) := by decide +kernel
theorem dX4_checksum_310 : decode cX4_checksum 310 = .ok (.invokestatic 220, 3) := by decide +kernel
theorem dX4_checksum_313 : decode cX4_checksum 313 = .ok (.lreturn, 1) := by decide +kernel
end
section
theorem dL_law_0 : decode cL_law 0 = .ok (.new 7, 3) := by decide +kernel
theorem dL_law_3 : decode cL_law 3 = .ok (.dup, 1) := by decide +kernel
theorem dL_law_4 : decode cL_law 4 = .ok (.invokespecial 9, 3) := by decide +kernel
theorem dL_law_7 : decode cL_law 7 = .ok (.astore_n 1, 1) := by decide +kernel
theorem dL_law_8 : decode cL_law 8 = .ok (.new 10, 3) := by decide +kernel
theorem dL_law_11 : decode cL_law 11 = .ok (.dup, 1) := by decide +kernel
theorem dL_law_12 : decode cL_law 12 = .ok (.invokespecial 12, 3) := by decide +kernel
theorem dL_law_15 : decode cL_law 15 = .ok (.astore_n 2, 1) := by decide +kernel
theorem dL_law_16 : decode cL_law 16 = .ok (.iconst 0, 1) := by decide +kernel
theorem dL_law_17 : decode cL_law 17 = .ok (.istore_n 3, 1) := by decide +kernel
theorem dL_law_18 : decode cL_law 18 = .ok (.iload_n 3, 1) := by decide +kernel
theorem dL_law_19 : decode cL_law 19 = .ok (.aload_n 0, 1) := by decide +kernel
theorem dL_law_20 : decode cL_law 20 = .ok (.arraylength, 1) := by decide +kernel
theorem dL_law_21 : decode cL_law 21 = .ok (.iconst 5, 1) := by decide +kernel
theorem dL_law_22 : decode cL_law 22 = .ok (.isub, 1) := by decide +kernel
theorem dL_law_23 : decode cL_law 23 = .ok (.if_icmp .gt 914, 3) := by decide +kernel
theorem dL_law_26 : decode cL_law 26 = .ok (.aload_n 0, 1) := by decide +kernel
theorem dL_law_27 : decode cL_law 27 = .ok (.iload_n 3, 1) := by decide +kernel
theorem dL_law_28 : decode cL_law 28 = .ok (.iaload, 1) := by decide +kernel
theorem dL_law_29 : decode cL_law 29 = .ok (.bipush 31, 2) := by decide +kernel
theorem dL_law_31 : decode cL_law 31 = .ok (.iand, 1) := by decide +kernel
theorem dL_law_32 : decode cL_law 32 = .ok (.tableswitch 899 0 25 #[120, 173, 206, 239, 298, 347, 406, 471, 494, 517, 530, 543, 556, 579, 612, 635, 678, 711, 744, 757, 780, 803, 826, 839, 862, 885], 120) := by decide +kernel
theorem dL_law_152 : decode cL_law 152 = .ok (.aload_n 1, 1) := by decide +kernel
theorem dL_law_153 : decode cL_law 153 = .ok (.aload_n 0, 1) := by decide +kernel
theorem dL_law_154 : decode cL_law 154 = .ok (.iload_n 3, 1) := by decide +kernel
theorem dL_law_155 : decode cL_law 155 = .ok (.iconst 1, 1) := by decide +kernel
theorem dL_law_156 : decode cL_law 156 = .ok (.iadd, 1) := by decide +kernel
theorem dL_law_157 : decode cL_law 157 = .ok (.iaload, 1) := by decide +kernel
theorem dL_law_158 : decode cL_law 158 = .ok (.aload_n 0, 1) := by decide +kernel
theorem dL_law_159 : decode cL_law 159 = .ok (.iload_n 3, 1) := by decide +kernel
theorem dL_law_160 : decode cL_law 160 = .ok (.iconst 2, 1) := by decide +kernel
theorem dL_law_161 : decode cL_law 161 = .ok (.iadd, 1) := by decide +kernel
theorem dL_law_162 : decode cL_law 162 = .ok (.iaload, 1) := by decide +kernel
theorem dL_law_163 : decode cL_law 163 = .ok (.aload_n 0, 1) := by decide +kernel
theorem dL_law_164 : decode cL_law 164 = .ok (.iload_n 3, 1) := by decide +kernel
theorem dL_law_165 : decode cL_law 165 = .ok (.iconst 3, 1) := by decide +kernel
theorem dL_law_166 : decode cL_law 166 = .ok (.iadd, 1) := by decide +kernel
theorem dL_law_167 : decode cL_law 167 = .ok (.iaload, 1) := by decide +kernel
theorem dL_law_168 : decode cL_law 168 = .ok (.aload_n 0, 1) := by decide +kernel
theorem dL_law_169 : decode cL_law 169 = .ok (.iload_n 3, 1) := by decide +kernel
theorem dL_law_170 : decode cL_law 170 = .ok (.iconst 4, 1) := by decide +kernel
theorem dL_law_171 : decode cL_law 171 = .ok (.iadd, 1) := by decide +kernel
theorem dL_law_172 : decode cL_law 172 = .ok (.iaload, 1) := by decide +kernel
theorem dL_law_173 : decode cL_law 173 = .ok (.invokevirtual 13, 3) := by decide +kernel
theorem dL_law_176 : decode cL_law 176 = .ok (.aload_n 2, 1) := by decide +kernel
theorem dL_law_177 : decode cL_law 177 = .ok (.aload_n 0, 1) := by decide +kernel
theorem dL_law_178 : decode cL_law 178 = .ok (.iload_n 3, 1) := by decide +kernel
theorem dL_law_179 : decode cL_law 179 = .ok (.iconst 1, 1) := by decide +kernel
theorem dL_law_180 : decode cL_law 180 = .ok (.iadd, 1) := by decide +kernel
theorem dL_law_181 : decode cL_law 181 = .ok (.iaload, 1) := by decide +kernel
theorem dL_law_182 : decode cL_law 182 = .ok (.aload_n 0, 1) := by decide +kernel
theorem dL_law_183 : decode cL_law 183 = .ok (.iload_n 3, 1) := by decide +kernel
theorem dL_law_184 : decode cL_law 184 = .ok (.iconst 2, 1) := by decide +kernel
theorem dL_law_185 : decode cL_law 185 = .ok (.iadd, 1) := by decide +kernel
theorem dL_law_186 : decode cL_law 186 = .ok (.iaload, 1) := by decide +kernel
theorem dL_law_187 : decode cL_law 187 = .ok (.aload_n 0, 1) := by decide +kernel
theorem dL_law_188 : decode cL_law 188 = .ok (.iload_n 3, 1) := by decide +kernel
theorem dL_law_189 : decode cL_law 189 = .ok (.iconst 3, 1) := by decide +kernel
theorem dL_law_190 : decode cL_law 190 = .ok (.iadd, 1) := by decide +kernel
theorem dL_law_191 : decode cL_law 191 = .ok (.iaload, 1) := by decide +kernel
theorem dL_law_192 : decode cL_law 192 = .ok (.aload_n 0, 1) := by decide +kernel
theorem dL_law_193 : decode cL_law 193 = .ok (.iload_n 3, 1) := by decide +kernel
theorem dL_law_194 : decode cL_law 194 = .ok (.iconst 4, 1) := by decide +kernel
theorem dL_law_195 : decode cL_law 195 = .ok (.iadd, 1) := by decide +kernel
theorem dL_law_196 : decode cL_law 196 = .ok (.iaload, 1) := by decide +kernel
theorem dL_law_197 : decode cL_law 197 = .ok (.invokevirtual 17, 3) := by decide +kernel
theorem dL_law_200 : decode cL_law 200 = .ok (.if_icmp .eq 731, 3) := by decide +kernel
theorem dL_law_203 : decode cL_law 203 = .ok (.iconst 0, 1) := by decide +kernel
theorem dL_law_204 : decode cL_law 204 = .ok (.ireturn, 1) := by decide +kernel
theorem dL_law_205 : decode cL_law 205 = .ok (.aload_n 1, 1) := by decide +kernel
theorem dL_law_206 : decode cL_law 206 = .ok (.aload_n 0, 1) := by decide +kernel
theorem dL_law_207 : decode cL_law 207 = .ok (.iload_n 3, 1) := by decide +kernel
theorem dL_law_208 : decode cL_law 208 = .ok (.iconst 1, 1) := by decide +kernel
theorem dL_law_209 : decode cL_law 209 = .ok (.iadd, 1) := by decide +kernel
theorem dL_law_210 : decode cL_law 210 = .ok (.iaload, 1) := by decide +kernel
theorem dL_law_211 : decode cL_law 211 = .ok (.aload_n 0, 1) := by decide +kernel
theorem dL_law_212 : decode cL_law 212 = .ok (.iload_n 3, 1) := by decide +kernel
theorem dL_law_213 : decode cL_law 213 = .ok (.iconst 2, 1) := by decide +kernel
theorem dL_law_214 : decode cL_law 214 = .ok (.iadd, 1) := by decide +kernel
theorem dL_law_215 : decode cL_law 215 = .ok (.iaload, 1) := by decide +kernel
theorem dL_law_216 : decode cL_law 216 = .ok (.invokevirtual 18, 3) := by decide +kernel
theorem dL_law_219 : decode cL_law 219 = .ok (.aload_n 2, 1) := by decide +kernel
theorem dL_law_220 : decode cL_law 220 = .ok (.aload_n 0, 1) := by decide +kernel
theorem dL_law_221 : decode cL_law 221 = .ok (.iload_n 3, 1) := by decide +kernel
theorem dL_law_222 : decode cL_law 222 = .ok (.iconst 1, 1) := by decide +kernel
theorem dL_law_223 : decode cL_law 223 = .ok (.iadd, 1) := by decide +kernel
theorem dL_law_224 : decode cL_law 224 = .ok (.iaload, 1) := by decide +kernel
theorem dL_law_225 : decode cL_law 225 = .ok (.aload_n 0, 1) := by decide +kernel
theorem dL_law_226 : decode cL_law 226 = .ok (.iload_n 3, 1) := by decide +kernel
theorem dL_law_227 : decode cL_law 227 = .ok (.iconst 2, 1) := by decide +kernel
theorem dL_law_228 : decode cL_law 228 = .ok (.iadd, 1) := by decide +kernel
theorem dL_law_229 : decode cL_law 229 = .ok (.iaload, 1) := by decide +kernel
theorem dL_law_230 : decode cL_law 230 = .ok (.invokevirtual 22, 3) := by decide +kernel
theorem dL_law_233 : decode cL_law 233 = .ok (.if_icmp .eq 698, 3) := by decide +kernel
theorem dL_law_236 : decode cL_law 236 = .ok (.iconst 0, 1) := by decide +kernel
theorem dL_law_237 : decode cL_law 237 = .ok (.ireturn, 1) := by decide +kernel
theorem dL_law_238 : decode cL_law 238 = .ok (.aload_n 1, 1) := by decide +kernel
theorem dL_law_239 : decode cL_law 239 = .ok (.aload_n 0, 1) := by decide +kernel
theorem dL_law_240 : decode cL_law 240 = .ok (.iload_n 3, 1) := by decide +kernel
theorem dL_law_241 : decode cL_law 241 = .ok (.iconst 1, 1) := by decide +kernel
theorem dL_law_242 : decode cL_law 242 = .ok (.iadd, 1) := by decide +kernel
theorem dL_law_243 : decode cL_law 243 = .ok (.iaload, 1) := by decide +kernel
theorem dL_law_244 : decode cL_law 244 = .ok (.aload_n 0, 1) := by decide +kernel
theorem dL_law_245 : decode cL_law 245 = .ok (.iload_n 3, 1) := by decide +kernel
theorem dL_law_246 : decode cL_law 246 = .ok (.iconst 2, 1) := by decide +kernel
theorem dL_law_247 : decode cL_law 247 = .ok (.iadd, 1) := by decide +kernel
theorem dL_law_248 : decode cL_law 248 = .ok (.iaload, 1) := by decide +kernel
theorem dL_law_249 : decode cL_law 249 = .ok (.invokevirtual 23, 3) := by decide +kernel
theorem dL_law_252 : decode cL_law 252 = .ok (.aload_n 2, 1) := by decide +kernel
theorem dL_law_253 : decode cL_law 253 = .ok (.aload_n 0, 1) := by decide +kernel
theorem dL_law_254 : decode cL_law 254 = .ok (.iload_n 3, 1) := by decide +kernel
theorem dL_law_255 : decode cL_law 255 = .ok (.iconst 1, 1) := by decide +kernel
theorem dL_law_256 : decode cL_law 256 = .ok (.iadd, 1) := by decide +kernel
theorem dL_law_257 : decode cL_law 257 = .ok (.iaload, 1) := by decide +kernel
theorem dL_law_258 : decode cL_law 258 = .ok (.aload_n 0, 1) := by decide +kernel
theorem dL_law_259 : decode cL_law 259 = .ok (.iload_n 3, 1) := by decide +kernel
theorem dL_law_260 : decode cL_law 260 = .ok (.iconst 2, 1) := by decide +kernel
theorem dL_law_261 : decode cL_law 261 = .ok (.iadd, 1) := by decide +kernel
theorem dL_law_262 : decode cL_law 262 = .ok (.iaload, 1) := by decide +kernel
theorem dL_law_263 : decode cL_law 263 = .ok (.invokevirtual 26, 3) := by decide +kernel
theorem dL_law_266 : decode cL_law 266 = .ok (.if_icmp .eq 665, 3) := by decide +kernel
theorem dL_law_269 : decode cL_law 269 = .ok (.iconst 0, 1) := by decide +kernel
theorem dL_law_270 : decode cL_law 270 = .ok (.ireturn, 1) := by decide +kernel
theorem dL_law_271 : decode cL_law 271 = .ok (.aload_n 1, 1) := by decide +kernel
theorem dL_law_272 : decode cL_law 272 = .ok (.aload_n 0, 1) := by decide +kernel
theorem dL_law_273 : decode cL_law 273 = .ok (.iload_n 3, 1) := by decide +kernel
theorem dL_law_274 : decode cL_law 274 = .ok (.iconst 1, 1) := by decide +kernel
theorem dL_law_275 : decode cL_law 275 = .ok (.iadd, 1) := by decide +kernel
theorem dL_law_276 : decode cL_law 276 = .ok (.iaload, 1) := by decide +kernel
theorem dL_law_277 : decode cL_law 277 = .ok (.aload_n 0, 1) := by decide +kernel
theorem dL_law_278 : decode cL_law 278 = .ok (.iload_n 3, 1) := by decide +kernel
theorem dL_law_279 : decode cL_law 279 = .ok (.iconst 2, 1) := by decide +kernel
theorem dL_law_280 : decode cL_law 280 = .ok (.iadd, 1) := by decide +kernel
theorem dL_law_281 : decode cL_law 281 = .ok (.iaload, 1) := by decide +kernel
theorem dL_law_282 : decode cL_law 282 = .ok (.aload_n 0, 1) := by decide +kernel
theorem dL_law_283 : decode cL_law 283 = .ok (.iload_n 3, 1) := by decide +kernel
theorem dL_law_284 : decode cL_law 284 = .ok (.iconst 3, 1) := by decide +kernel
theorem dL_law_285 : decode cL_law 285 = .ok (.iadd, 1) := by decide +kernel
theorem dL_law_286 : decode cL_law 286 = .ok (.iaload, 1) := by decide +kernel
theorem dL_law_287 : decode cL_law 287 = .ok (.ifCond .eq 7, 3) := by decide +kernel
theorem dL_law_290 : decode cL_law 290 = .ok (.iconst 1, 1) := by decide +kernel
theorem dL_law_291 : decode cL_law 291 = .ok (.goto 4, 3) := by decide +kernel
theorem dL_law_294 : decode cL_law 294 = .ok (.iconst 0, 1) := by decide +kernel
theorem dL_law_295 : decode cL_law 295 = .ok (.invokevirtual 27, 3) := by decide +kernel
theorem dL_law_298 : decode cL_law 298 = .ok (.aload_n 2, 1) := by decide +kernel
theorem dL_law_299 : decode cL_law 299 = .ok (.aload_n 0, 1) := by decide +kernel
theorem dL_law_300 : decode cL_law 300 = .ok (.iload_n 3, 1) := by decide +kernel
theorem dL_law_301 : decode cL_law 301 = .ok (.iconst 1, 1) := by decide +kernel
theorem dL_law_302 : decode cL_law 302 = .ok (.iadd, 1) := by decide +kernel
theorem dL_law_303 : decode cL_law 303 = .ok (.iaload, 1) := by decide +kernel
theorem dL_law_304 : decode cL_law 304 = .ok (.aload_n 0, 1) := by decide +kernel
theorem dL_law_305 : decode cL_law 305 = .ok (.iload_n 3, 1) := by decide +kernel
theorem dL_law_306 : decode cL_law 306 = .ok (.iconst 2, 1) := by decide +kernel
theorem dL_law_307 : decode cL_law 307 = .ok (.iadd, 1) := by decide +kernel
theorem dL_law_308 : decode cL_law 308 = .ok (.iaload, 1) := by decide +kernel
theorem dL_law_309 : decode cL_law 309 = .ok (.aload_n 0, 1) := by decide +kernel
theorem dL_law_310 : decode cL_law 310 = .ok (.iload_n 3, 1) := by decide +kernel
theorem dL_law_311 : decode cL_law 311 = .ok (.iconst 3, 1) := by decide +kernel
theorem dL_law_312 : decode cL_law 312 = .ok (.iadd, 1) := by decide +kernel
theorem dL_law_313 : decode cL_law 313 = .ok (.iaload, 1) := by decide +kernel
theorem dL_law_314 : decode cL_law 314 = .ok (.ifCond .eq 7, 3) := by decide +kernel
theorem dL_law_317 : decode cL_law 317 = .ok (.iconst 1, 1) := by decide +kernel
theorem dL_law_318 : decode cL_law 318 = .ok (.goto 4, 3) := by decide +kernel
theorem dL_law_321 : decode cL_law 321 = .ok (.iconst 0, 1) := by decide +kernel
theorem dL_law_322 : decode cL_law 322 = .ok (.invokevirtual 31, 3) := by decide +kernel
theorem dL_law_325 : decode cL_law 325 = .ok (.if_icmp .eq 606, 3) := by decide +kernel
theorem dL_law_328 : decode cL_law 328 = .ok (.iconst 0, 1) := by decide +kernel
theorem dL_law_329 : decode cL_law 329 = .ok (.ireturn, 1) := by decide +kernel
theorem dL_law_330 : decode cL_law 330 = .ok (.aload_n 1, 1) := by decide +kernel
theorem dL_law_331 : decode cL_law 331 = .ok (.aload_n 0, 1) := by decide +kernel
theorem dL_law_332 : decode cL_law 332 = .ok (.iload_n 3, 1) := by decide +kernel
theorem dL_law_333 : decode cL_law 333 = .ok (.iconst 1, 1) := by decide +kernel
theorem dL_law_334 : decode cL_law 334 = .ok (.iadd, 1) := by decide +kernel
theorem dL_law_335 : decode cL_law 335 = .ok (.iaload, 1) := by decide +kernel
theorem dL_law_336 : decode cL_law 336 = .ok (.aload_n 0, 1) := by decide +kernel
theorem dL_law_337 : decode cL_law 337 = .ok (.iload_n 3, 1) := by decide +kernel
theorem dL_law_338 : decode cL_law 338 = .ok (.iconst 2, 1) := by decide +kernel
theorem dL_law_339 : decode cL_law 339 = .ok (.iadd, 1) := by decide +kernel
theorem dL_law_340 : decode cL_law 340 = .ok (.iaload, 1) := by decide +kernel
theorem dL_law_341 : decode cL_law 341 = .ok (.ifCond .eq 7, 3) := by decide +kernel
theorem dL_law_344 : decode cL_law 344 = .ok (.iconst 1, 1) := by decide +kernel
theorem dL_law_345 : decode cL_law 345 = .ok (.goto 4, 3) := by decide +kernel
theorem dL_law_348 : decode cL_law 348 = .ok (.iconst 0, 1) := by decide +kernel
theorem dL_law_349 : decode cL_law 349 = .ok (.invokevirtual 32, 3) := by decide +kernel
theorem dL_law_352 : decode cL_law 352 = .ok (.aload_n 2, 1) := by decide +kernel
theorem dL_law_353 : decode cL_law 353 = .ok (.aload_n 0, 1) := by decide +kernel
theorem dL_law_354 : decode cL_law 354 = .ok (.iload_n 3, 1) := by decide +kernel
theorem dL_law_355 : decode cL_law 355 = .ok (.iconst 1, 1) := by decide +kernel
theorem dL_law_356 : decode cL_law 356 = .ok (.iadd, 1) := by decide +kernel
theorem dL_law_357 : decode cL_law 357 = .ok (.iaload, 1) := by decide +kernel
theorem dL_law_358 : decode cL_law 358 = .ok (.aload_n 0, 1) := by decide +kernel
theorem dL_law_359 : decode cL_law 359 = .ok (.iload_n 3, 1) := by decide +kernel
theorem dL_law_360 : decode cL_law 360 = .ok (.iconst 2, 1) := by decide +kernel
theorem dL_law_361 : decode cL_law 361 = .ok (.iadd, 1) := by decide +kernel
theorem dL_law_362 : decode cL_law 362 = .ok (.iaload, 1) := by decide +kernel
theorem dL_law_363 : decode cL_law 363 = .ok (.ifCond .eq 7, 3) := by decide +kernel
theorem dL_law_366 : decode cL_law 366 = .ok (.iconst 1, 1) := by decide +kernel
theorem dL_law_367 : decode cL_law 367 = .ok (.goto 4, 3) := by decide +kernel
theorem dL_law_370 : decode cL_law 370 = .ok (.iconst 0, 1) := by decide +kernel
theorem dL_law_371 : decode cL_law 371 = .ok (.invokevirtual 36, 3) := by decide +kernel
theorem dL_law_374 : decode cL_law 374 = .ok (.if_icmp .eq 557, 3) := by decide +kernel
theorem dL_law_377 : decode cL_law 377 = .ok (.iconst 0, 1) := by decide +kernel
theorem dL_law_378 : decode cL_law 378 = .ok (.ireturn, 1) := by decide +kernel
theorem dL_law_379 : decode cL_law 379 = .ok (.aload_n 1, 1) := by decide +kernel
theorem dL_law_380 : decode cL_law 380 = .ok (.aload_n 0, 1) := by decide +kernel
theorem dL_law_381 : decode cL_law 381 = .ok (.iload_n 3, 1) := by decide +kernel
theorem dL_law_382 : decode cL_law 382 = .ok (.iconst 1, 1) := by decide +kernel
theorem dL_law_383 : decode cL_law 383 = .ok (.iadd, 1) := by decide +kernel
theorem dL_law_384 : decode cL_law 384 = .ok (.iaload, 1) := by decide +kernel
theorem dL_law_385 : decode cL_law 385 = .ok (.aload_n 0, 1) := by decide +kernel
theorem dL_law_386 : decode cL_law 386 = .ok (.iload_n 3, 1) := by decide +kernel
theorem dL_law_387 : decode cL_law 387 = .ok (.iconst 2, 1) := by decide +kernel
theorem dL_law_388 : decode cL_law 388 = .ok (.iadd, 1) := by decide +kernel
theorem dL_law_389 : decode cL_law 389 = .ok (.iaload, 1) := by decide +kernel
theorem dL_law_390 : decode cL_law 390 = .ok (.aload_n 0, 1) := by decide +kernel
theorem dL_law_391 : decode cL_law 391 = .ok (.iload_n 3, 1) := by decide +kernel
theorem dL_law_392 : decode cL_law 392 = .ok (.iconst 3, 1) := by decide +kernel
theorem dL_law_393 : decode cL_law 393 = .ok (.iadd, 1) := by decide +kernel
theorem dL_law_394 : decode cL_law 394 = .ok (.iaload, 1) := by decide +kernel
theorem dL_law_395 : decode cL_law 395 = .ok (.ifCond .eq 7, 3) := by decide +kernel
theorem dL_law_398 : decode cL_law 398 = .ok (.iconst 1, 1) := by decide +kernel
theorem dL_law_399 : decode cL_law 399 = .ok (.goto 4, 3) := by decide +kernel
theorem dL_law_402 : decode cL_law 402 = .ok (.iconst 0, 1) := by decide +kernel
theorem dL_law_403 : decode cL_law 403 = .ok (.invokevirtual 37, 3) := by decide +kernel
theorem dL_law_406 : decode cL_law 406 = .ok (.aload_n 2, 1) := by decide +kernel
theorem dL_law_407 : decode cL_law 407 = .ok (.aload_n 0, 1) := by decide +kernel
theorem dL_law_408 : decode cL_law 408 = .ok (.iload_n 3, 1) := by decide +kernel
theorem dL_law_409 : decode cL_law 409 = .ok (.iconst 1, 1) := by decide +kernel
theorem dL_law_410 : decode cL_law 410 = .ok (.iadd, 1) := by decide +kernel
theorem dL_law_411 : decode cL_law 411 = .ok (.iaload, 1) := by decide +kernel
theorem dL_law_412 : decode cL_law 412 = .ok (.aload_n 0, 1) := by decide +kernel
theorem dL_law_413 : decode cL_law 413 = .ok (.iload_n 3, 1) := by decide +kernel
theorem dL_law_414 : decode cL_law 414 = .ok (.iconst 2, 1) := by decide +kernel
theorem dL_law_415 : decode cL_law 415 = .ok (.iadd, 1) := by decide +kernel
theorem dL_law_416 : decode cL_law 416 = .ok (.iaload, 1) := by decide +kernel
theorem dL_law_417 : decode cL_law 417 = .ok (.aload_n 0, 1) := by decide +kernel
theorem dL_law_418 : decode cL_law 418 = .ok (.iload_n 3, 1) := by decide +kernel
theorem dL_law_419 : decode cL_law 419 = .ok (.iconst 3, 1) := by decide +kernel
theorem dL_law_420 : decode cL_law 420 = .ok (.iadd, 1) := by decide +kernel
theorem dL_law_421 : decode cL_law 421 = .ok (.iaload, 1) := by decide +kernel
theorem dL_law_422 : decode cL_law 422 = .ok (.ifCond .eq 7, 3) := by decide +kernel
theorem dL_law_425 : decode cL_law 425 = .ok (.iconst 1, 1) := by decide +kernel
theorem dL_law_426 : decode cL_law 426 = .ok (.goto 4, 3) := by decide +kernel
theorem dL_law_429 : decode cL_law 429 = .ok (.iconst 0, 1) := by decide +kernel
theorem dL_law_430 : decode cL_law 430 = .ok (.invokevirtual 40, 3) := by decide +kernel
theorem dL_law_433 : decode cL_law 433 = .ok (.if_icmp .eq 498, 3) := by decide +kernel
theorem dL_law_436 : decode cL_law 436 = .ok (.iconst 0, 1) := by decide +kernel
theorem dL_law_437 : decode cL_law 437 = .ok (.ireturn, 1) := by decide +kernel
theorem dL_law_438 : decode cL_law 438 = .ok (.aload_n 1, 1) := by decide +kernel
theorem dL_law_439 : decode cL_law 439 = .ok (.aload_n 0, 1) := by decide +kernel
theorem dL_law_440 : decode cL_law 440 = .ok (.iload_n 3, 1) := by decide +kernel
theorem dL_law_441 : decode cL_law 441 = .ok (.iconst 1, 1) := by decide +kernel
theorem dL_law_442 : decode cL_law 442 = .ok (.iadd, 1) := by decide +kernel
theorem dL_law_443 : decode cL_law 443 = .ok (.iaload, 1) := by decide +kernel
theorem dL_law_444 : decode cL_law 444 = .ok (.ifCond .eq 7, 3) := by decide +kernel
theorem dL_law_447 : decode cL_law 447 = .ok (.iconst 1, 1) := by decide +kernel
theorem dL_law_448 : decode cL_law 448 = .ok (.goto 4, 3) := by decide +kernel
theorem dL_law_451 : decode cL_law 451 = .ok (.iconst 0, 1) := by decide +kernel
theorem dL_law_452 : decode cL_law 452 = .ok (.aload_n 0, 1) := by decide +kernel
theorem dL_law_453 : decode cL_law 453 = .ok (.iload_n 3, 1) := by decide +kernel
theorem dL_law_454 : decode cL_law 454 = .ok (.iconst 2, 1) := by decide +kernel
theorem dL_law_455 : decode cL_law 455 = .ok (.iadd, 1) := by decide +kernel
theorem dL_law_456 : decode cL_law 456 = .ok (.iaload, 1) := by decide +kernel
theorem dL_law_457 : decode cL_law 457 = .ok (.ifCond .eq 7, 3) := by decide +kernel
theorem dL_law_460 : decode cL_law 460 = .ok (.iconst 1, 1) := by decide +kernel
theorem dL_law_461 : decode cL_law 461 = .ok (.goto 4, 3) := by decide +kernel
theorem dL_law_464 : decode cL_law 464 = .ok (.iconst 0, 1) := by decide +kernel
theorem dL_law_465 : decode cL_law 465 = .ok (.invokevirtual 41, 3) := by decide +kernel
theorem dL_law_468 : decode cL_law 468 = .ok (.aload_n 2, 1) := by decide +kernel
theorem dL_law_469 : decode cL_law 469 = .ok (.aload_n 0, 1) := by decide +kernel
theorem dL_law_470 : decode cL_law 470 = .ok (.iload_n 3, 1) := by decide +kernel
theorem dL_law_471 : decode cL_law 471 = .ok (.iconst 1, 1) := by decide +kernel
theorem dL_law_472 : decode cL_law 472 = .ok (.iadd, 1) := by decide +kernel
theorem dL_law_473 : decode cL_law 473 = .ok (.iaload, 1) := by decide +kernel
theorem dL_law_474 : decode cL_law 474 = .ok (.ifCond .eq 7, 3) := by decide +kernel
theorem dL_law_477 : decode cL_law 477 = .ok (.iconst 1, 1) := by decide +kernel
theorem dL_law_478 : decode cL_law 478 = .ok (.goto 4, 3) := by decide +kernel
theorem dL_law_481 : decode cL_law 481 = .ok (.iconst 0, 1) := by decide +kernel
theorem dL_law_482 : decode cL_law 482 = .ok (.aload_n 0, 1) := by decide +kernel
theorem dL_law_483 : decode cL_law 483 = .ok (.iload_n 3, 1) := by decide +kernel
theorem dL_law_484 : decode cL_law 484 = .ok (.iconst 2, 1) := by decide +kernel
theorem dL_law_485 : decode cL_law 485 = .ok (.iadd, 1) := by decide +kernel
theorem dL_law_486 : decode cL_law 486 = .ok (.iaload, 1) := by decide +kernel
theorem dL_law_487 : decode cL_law 487 = .ok (.ifCond .eq 7, 3) := by decide +kernel
theorem dL_law_490 : decode cL_law 490 = .ok (.iconst 1, 1) := by decide +kernel
theorem dL_law_491 : decode cL_law 491 = .ok (.goto 4, 3) := by decide +kernel
theorem dL_law_494 : decode cL_law 494 = .ok (.iconst 0, 1) := by decide +kernel
theorem dL_law_495 : decode cL_law 495 = .ok (.invokevirtual 45, 3) := by decide +kernel
theorem dL_law_498 : decode cL_law 498 = .ok (.if_icmp .eq 433, 3) := by decide +kernel
theorem dL_law_501 : decode cL_law 501 = .ok (.iconst 0, 1) := by decide +kernel
theorem dL_law_502 : decode cL_law 502 = .ok (.ireturn, 1) := by decide +kernel
theorem dL_law_503 : decode cL_law 503 = .ok (.aload_n 1, 1) := by decide +kernel
theorem dL_law_504 : decode cL_law 504 = .ok (.aload_n 0, 1) := by decide +kernel
theorem dL_law_505 : decode cL_law 505 = .ok (.iload_n 3, 1) := by decide +kernel
theorem dL_law_506 : decode cL_law 506 = .ok (.iconst 1, 1) := by decide +kernel
theorem dL_law_507 : decode cL_law 507 = .ok (.iadd, 1) := by decide +kernel
theorem dL_law_508 : decode cL_law 508 = .ok (.iaload, 1) := by decide +kernel
theorem dL_law_509 : decode cL_law 509 = .ok (.invokevirtual 46, 3) := by decide +kernel
theorem dL_law_512 : decode cL_law 512 = .ok (.aload_n 2, 1) := by decide +kernel
theorem dL_law_513 : decode cL_law 513 = .ok (.aload_n 0, 1) := by decide +kernel
theorem dL_law_514 : decode cL_law 514 = .ok (.iload_n 3, 1) := by decide +kernel
theorem dL_law_515 : decode cL_law 515 = .ok (.iconst 1, 1) := by decide +kernel
theorem dL_law_516 : decode cL_law 516 = .ok (.iadd, 1) := by decide +kernel
theorem dL_law_517 : decode cL_law 517 = .ok (.iaload, 1) := by decide +kernel
theorem dL_law_518 : decode cL_law 518 = .ok (.invokevirtual 50, 3) := by decide +kernel
theorem dL_law_521 : decode cL_law 521 = .ok (.if_icmp .eq 410, 3) := by decide +kernel
theorem dL_law_524 : decode cL_law 524 = .ok (.iconst 0, 1) := by decide +kernel
theorem dL_law_525 : decode cL_law 525 = .ok (.ireturn, 1) := by decide +kernel
theorem dL_law_526 : decode cL_law 526 = .ok (.aload_n 1, 1) := by decide +kernel
theorem dL_law_527 : decode cL_law 527 = .ok (.aload_n 0, 1) := by decide +kernel
theorem dL_law_528 : decode cL_law 528 = .ok (.iload_n 3, 1) := by decide +kernel
theorem dL_law_529 : decode cL_law 529 = .ok (.iconst 1, 1) := by decide +kernel
theorem dL_law_530 : decode cL_law 530 = .ok (.iadd, 1) := by decide +kernel
theorem dL_law_531 : decode cL_law 531 = .ok (.iaload, 1) := by decide +kernel
theorem dL_law_532 : decode cL_law 532 = .ok (.invokevirtual 51, 3) := by decide +kernel
theorem dL_law_535 : decode cL_law 535 = .ok (.aload_n 2, 1) := by decide +kernel
theorem dL_law_536 : decode cL_law 536 = .ok (.aload_n 0, 1) := by decide +kernel
theorem dL_law_537 : decode cL_law 537 = .ok (.iload_n 3, 1) := by decide +kernel
theorem dL_law_538 : decode cL_law 538 = .ok (.iconst 1, 1) := by decide +kernel
theorem dL_law_539 : decode cL_law 539 = .ok (.iadd, 1) := by decide +kernel
theorem dL_law_540 : decode cL_law 540 = .ok (.iaload, 1) := by decide +kernel
theorem dL_law_541 : decode cL_law 541 = .ok (.invokevirtual 54, 3) := by decide +kernel
theorem dL_law_544 : decode cL_law 544 = .ok (.if_icmp .eq 387, 3) := by decide +kernel
theorem dL_law_547 : decode cL_law 547 = .ok (.iconst 0, 1) := by decide +kernel
theorem dL_law_548 : decode cL_law 548 = .ok (.ireturn, 1) := by decide +kernel
theorem dL_law_549 : decode cL_law 549 = .ok (.aload_n 1, 1) := by decide +kernel
theorem dL_law_550 : decode cL_law 550 = .ok (.invokevirtual 55, 3) := by decide +kernel
theorem dL_law_553 : decode cL_law 553 = .ok (.aload_n 2, 1) := by decide +kernel
theorem dL_law_554 : decode cL_law 554 = .ok (.invokevirtual 59, 3) := by decide +kernel
theorem dL_law_557 : decode cL_law 557 = .ok (.if_icmp .eq 374, 3) := by decide +kernel
theorem dL_law_560 : decode cL_law 560 = .ok (.iconst 0, 1) := by decide +kernel
theorem dL_law_561 : decode cL_law 561 = .ok (.ireturn, 1) := by decide +kernel
theorem dL_law_562 : decode cL_law 562 = .ok (.aload_n 1, 1) := by decide +kernel
theorem dL_law_563 : decode cL_law 563 = .ok (.invokevirtual 60, 3) := by decide +kernel
theorem dL_law_566 : decode cL_law 566 = .ok (.aload_n 2, 1) := by decide +kernel
theorem dL_law_567 : decode cL_law 567 = .ok (.invokevirtual 63, 3) := by decide +kernel
theorem dL_law_570 : decode cL_law 570 = .ok (.if_icmp .eq 361, 3) := by decide +kernel
theorem dL_law_573 : decode cL_law 573 = .ok (.iconst 0, 1) := by decide +kernel
theorem dL_law_574 : decode cL_law 574 = .ok (.ireturn, 1) := by decide +kernel
theorem dL_law_575 : decode cL_law 575 = .ok (.aload_n 1, 1) := by decide +kernel
theorem dL_law_576 : decode cL_law 576 = .ok (.invokevirtual 64, 3) := by decide +kernel
theorem dL_law_579 : decode cL_law 579 = .ok (.aload_n 2, 1) := by decide +kernel
theorem dL_law_580 : decode cL_law 580 = .ok (.invokevirtual 67, 3) := by decide +kernel
theorem dL_law_583 : decode cL_law 583 = .ok (.if_icmp .eq 348, 3) := by decide +kernel
theorem dL_law_586 : decode cL_law 586 = .ok (.iconst 0, 1) := by decide +kernel
theorem dL_law_587 : decode cL_law 587 = .ok (.ireturn, 1) := by decide +kernel
theorem dL_law_588 : decode cL_law 588 = .ok (.aload_n 1, 1) := by decide +kernel
theorem dL_law_589 : decode cL_law 589 = .ok (.aload_n 0, 1) := by decide +kernel
theorem dL_law_590 : decode cL_law 590 = .ok (.iload_n 3, 1) := by decide +kernel
theorem dL_law_591 : decode cL_law 591 = .ok (.iconst 1, 1) := by decide +kernel
theorem dL_law_592 : decode cL_law 592 = .ok (.iadd, 1) := by decide +kernel
theorem dL_law_593 : decode cL_law 593 = .ok (.iaload, 1) := by decide +kernel
theorem dL_law_594 : decode cL_law 594 = .ok (.invokevirtual 68, 3) := by decide +kernel
theorem dL_law_597 : decode cL_law 597 = .ok (.aload_n 2, 1) := by decide +kernel
theorem dL_law_598 : decode cL_law 598 = .ok (.aload_n 0, 1) := by decide +kernel
theorem dL_law_599 : decode cL_law 599 = .ok (.iload_n 3, 1) := by decide +kernel
theorem dL_law_600 : decode cL_law 600 = .ok (.iconst 1, 1) := by decide +kernel
theorem dL_law_601 : decode cL_law 601 = .ok (.iadd, 1) := by decide +kernel
theorem dL_law_602 : decode cL_law 602 = .ok (.iaload, 1) := by decide +kernel
theorem dL_law_603 : decode cL_law 603 = .ok (.invokevirtual 71, 3) := by decide +kernel
theorem dL_law_606 : decode cL_law 606 = .ok (.if_icmp .eq 325, 3) := by decide +kernel
theorem dL_law_609 : decode cL_law 609 = .ok (.iconst 0, 1) := by decide +kernel
theorem dL_law_610 : decode cL_law 610 = .ok (.ireturn, 1) := by decide +kernel
theorem dL_law_611 : decode cL_law 611 = .ok (.aload_n 1, 1) := by decide +kernel
theorem dL_law_612 : decode cL_law 612 = .ok (.aload_n 0, 1) := by decide +kernel
theorem dL_law_613 : decode cL_law 613 = .ok (.iload_n 3, 1) := by decide +kernel
theorem dL_law_614 : decode cL_law 614 = .ok (.iconst 1, 1) := by decide +kernel
theorem dL_law_615 : decode cL_law 615 = .ok (.iadd, 1) := by decide +kernel
theorem dL_law_616 : decode cL_law 616 = .ok (.iaload, 1) := by decide +kernel
theorem dL_law_617 : decode cL_law 617 = .ok (.aload_n 0, 1) := by decide +kernel
theorem dL_law_618 : decode cL_law 618 = .ok (.iload_n 3, 1) := by decide +kernel
theorem dL_law_619 : decode cL_law 619 = .ok (.iconst 2, 1) := by decide +kernel
theorem dL_law_620 : decode cL_law 620 = .ok (.iadd, 1) := by decide +kernel
theorem dL_law_621 : decode cL_law 621 = .ok (.iaload, 1) := by decide +kernel
theorem dL_law_622 : decode cL_law 622 = .ok (.invokevirtual 72, 3) := by decide +kernel
theorem dL_law_625 : decode cL_law 625 = .ok (.aload_n 2, 1) := by decide +kernel
theorem dL_law_626 : decode cL_law 626 = .ok (.aload_n 0, 1) := by decide +kernel
theorem dL_law_627 : decode cL_law 627 = .ok (.iload_n 3, 1) := by decide +kernel
theorem dL_law_628 : decode cL_law 628 = .ok (.iconst 1, 1) := by decide +kernel
theorem dL_law_629 : decode cL_law 629 = .ok (.iadd, 1) := by decide +kernel
theorem dL_law_630 : decode cL_law 630 = .ok (.iaload, 1) := by decide +kernel
theorem dL_law_631 : decode cL_law 631 = .ok (.aload_n 0, 1) := by decide +kernel
theorem dL_law_632 : decode cL_law 632 = .ok (.iload_n 3, 1) := by decide +kernel
theorem dL_law_633 : decode cL_law 633 = .ok (.iconst 2, 1) := by decide +kernel
theorem dL_law_634 : decode cL_law 634 = .ok (.iadd, 1) := by decide +kernel
theorem dL_law_635 : decode cL_law 635 = .ok (.iaload, 1) := by decide +kernel
theorem dL_law_636 : decode cL_law 636 = .ok (.invokevirtual 75, 3) := by decide +kernel
theorem dL_law_639 : decode cL_law 639 = .ok (.if_icmp .eq 292, 3) := by decide +kernel
theorem dL_law_642 : decode cL_law 642 = .ok (.iconst 0, 1) := by decide +kernel
theorem dL_law_643 : decode cL_law 643 = .ok (.ireturn, 1) := by decide +kernel
theorem dL_law_644 : decode cL_law 644 = .ok (.aload_n 1, 1) := by decide +kernel
theorem dL_law_645 : decode cL_law 645 = .ok (.aload_n 0, 1) := by decide +kernel
theorem dL_law_646 : decode cL_law 646 = .ok (.iload_n 3, 1) := by decide +kernel
theorem dL_law_647 : decode cL_law 647 = .ok (.iconst 1, 1) := by decide +kernel
theorem dL_law_648 : decode cL_law 648 = .ok (.iadd, 1) := by decide +kernel
theorem dL_law_649 : decode cL_law 649 = .ok (.iaload, 1) := by decide +kernel
theorem dL_law_650 : decode cL_law 650 = .ok (.invokevirtual 76, 3) := by decide +kernel
theorem dL_law_653 : decode cL_law 653 = .ok (.aload_n 2, 1) := by decide +kernel
theorem dL_law_654 : decode cL_law 654 = .ok (.aload_n 0, 1) := by decide +kernel
theorem dL_law_655 : decode cL_law 655 = .ok (.iload_n 3, 1) := by decide +kernel
theorem dL_law_656 : decode cL_law 656 = .ok (.iconst 1, 1) := by decide +kernel
theorem dL_law_657 : decode cL_law 657 = .ok (.iadd, 1) := by decide +kernel
theorem dL_law_658 : decode cL_law 658 = .ok (.iaload, 1) := by decide +kernel
theorem dL_law_659 : decode cL_law 659 = .ok (.invokevirtual 79, 3) := by decide +kernel
theorem dL_law_662 : decode cL_law 662 = .ok (.if_icmp .eq 269, 3) := by decide +kernel
theorem dL_law_665 : decode cL_law 665 = .ok (.iconst 0, 1) := by decide +kernel
theorem dL_law_666 : decode cL_law 666 = .ok (.ireturn, 1) := by decide +kernel
theorem dL_law_667 : decode cL_law 667 = .ok (.aload_n 1, 1) := by decide +kernel
theorem dL_law_668 : decode cL_law 668 = .ok (.aload_n 0, 1) := by decide +kernel
theorem dL_law_669 : decode cL_law 669 = .ok (.iload_n 3, 1) := by decide +kernel
theorem dL_law_670 : decode cL_law 670 = .ok (.iconst 1, 1) := by decide +kernel
theorem dL_law_671 : decode cL_law 671 = .ok (.iadd, 1) := by decide +kernel
theorem dL_law_672 : decode cL_law 672 = .ok (.iaload, 1) := by decide +kernel
theorem dL_law_673 : decode cL_law 673 = .ok (.aload_n 0, 1) := by decide +kernel
theorem dL_law_674 : decode cL_law 674 = .ok (.iload_n 3, 1) := by decide +kernel
theorem dL_law_675 : decode cL_law 675 = .ok (.iconst 2, 1) := by decide +kernel
theorem dL_law_676 : decode cL_law 676 = .ok (.iadd, 1) := by decide +kernel
theorem dL_law_677 : decode cL_law 677 = .ok (.iaload, 1) := by decide +kernel
theorem dL_law_678 : decode cL_law 678 = .ok (.aload_n 0, 1) := by decide +kernel
theorem dL_law_679 : decode cL_law 679 = .ok (.iload_n 3, 1) := by decide +kernel
theorem dL_law_680 : decode cL_law 680 = .ok (.iconst 3, 1) := by decide +kernel
theorem dL_law_681 : decode cL_law 681 = .ok (.iadd, 1) := by decide +kernel
theorem dL_law_682 : decode cL_law 682 = .ok (.iaload, 1) := by decide +kernel
theorem dL_law_683 : decode cL_law 683 = .ok (.invokevirtual 80, 3) := by decide +kernel
theorem dL_law_686 : decode cL_law 686 = .ok (.aload_n 2, 1) := by decide +kernel
theorem dL_law_687 : decode cL_law 687 = .ok (.aload_n 0, 1) := by decide +kernel
theorem dL_law_688 : decode cL_law 688 = .ok (.iload_n 3, 1) := by decide +kernel
theorem dL_law_689 : decode cL_law 689 = .ok (.iconst 1, 1) := by decide +kernel
theorem dL_law_690 : decode cL_law 690 = .ok (.iadd, 1) := by decide +kernel
theorem dL_law_691 : decode cL_law 691 = .ok (.iaload, 1) := by decide +kernel
theorem dL_law_692 : decode cL_law 692 = .ok (.aload_n 0, 1) := by decide +kernel
theorem dL_law_693 : decode cL_law 693 = .ok (.iload_n 3, 1) := by decide +kernel
theorem dL_law_694 : decode cL_law 694 = .ok (.iconst 2, 1) := by decide +kernel
theorem dL_law_695 : decode cL_law 695 = .ok (.iadd, 1) := by decide +kernel
theorem dL_law_696 : decode cL_law 696 = .ok (.iaload, 1) := by decide +kernel
theorem dL_law_697 : decode cL_law 697 = .ok (.aload_n 0, 1) := by decide +kernel
theorem dL_law_698 : decode cL_law 698 = .ok (.iload_n 3, 1) := by decide +kernel
theorem dL_law_699 : decode cL_law 699 = .ok (.iconst 3, 1) := by decide +kernel
theorem dL_law_700 : decode cL_law 700 = .ok (.iadd, 1) := by decide +kernel
theorem dL_law_701 : decode cL_law 701 = .ok (.iaload, 1) := by decide +kernel
theorem dL_law_702 : decode cL_law 702 = .ok (.invokevirtual 84, 3) := by decide +kernel
theorem dL_law_705 : decode cL_law 705 = .ok (.if_icmp .eq 226, 3) := by decide +kernel
theorem dL_law_708 : decode cL_law 708 = .ok (.iconst 0, 1) := by decide +kernel
theorem dL_law_709 : decode cL_law 709 = .ok (.ireturn, 1) := by decide +kernel
theorem dL_law_710 : decode cL_law 710 = .ok (.aload_n 1, 1) := by decide +kernel
theorem dL_law_711 : decode cL_law 711 = .ok (.aload_n 0, 1) := by decide +kernel
theorem dL_law_712 : decode cL_law 712 = .ok (.iload_n 3, 1) := by decide +kernel
theorem dL_law_713 : decode cL_law 713 = .ok (.iconst 1, 1) := by decide +kernel
theorem dL_law_714 : decode cL_law 714 = .ok (.iadd, 1) := by decide +kernel
theorem dL_law_715 : decode cL_law 715 = .ok (.iaload, 1) := by decide +kernel
theorem dL_law_716 : decode cL_law 716 = .ok (.aload_n 0, 1) := by decide +kernel
theorem dL_law_717 : decode cL_law 717 = .ok (.iload_n 3, 1) := by decide +kernel
theorem dL_law_718 : decode cL_law 718 = .ok (.iconst 2, 1) := by decide +kernel
theorem dL_law_719 : decode cL_law 719 = .ok (.iadd, 1) := by decide +kernel
theorem dL_law_720 : decode cL_law 720 = .ok (.iaload, 1) := by decide +kernel
theorem dL_law_721 : decode cL_law 721 = .ok (.invokevirtual 85, 3) := by decide +kernel
theorem dL_law_724 : decode cL_law 724 = .ok (.aload_n 2, 1) := by decide +kernel
theorem dL_law_725 : decode cL_law 725 = .ok (.aload_n 0, 1) := by decide +kernel
theorem dL_law_726 : decode cL_law 726 = .ok (.iload_n 3, 1) := by decide +kernel
theorem dL_law_727 : decode cL_law 727 = .ok (.iconst 1, 1) := by decide +kernel
theorem dL_law_728 : decode cL_law 728 = .ok (.iadd, 1) := by decide +kernel
theorem dL_law_729 : decode cL_law 729 = .ok (.iaload, 1) := by decide +kernel
theorem dL_law_730 : decode cL_law 730 = .ok (.aload_n 0, 1) := by decide +kernel
theorem dL_law_731 : decode cL_law 731 = .ok (.iload_n 3, 1) := by decide +kernel
theorem dL_law_732 : decode cL_law 732 = .ok (.iconst 2, 1) := by decide +kernel
theorem dL_law_733 : decode cL_law 733 = .ok (.iadd, 1) := by decide +kernel
theorem dL_law_734 : decode cL_law 734 = .ok (.iaload, 1) := by decide +kernel
theorem dL_law_735 : decode cL_law 735 = .ok (.invokevirtual 88, 3) := by decide +kernel
theorem dL_law_738 : decode cL_law 738 = .ok (.if_icmp .eq 193, 3) := by decide +kernel
theorem dL_law_741 : decode cL_law 741 = .ok (.iconst 0, 1) := by decide +kernel
theorem dL_law_742 : decode cL_law 742 = .ok (.ireturn, 1) := by decide +kernel
theorem dL_law_743 : decode cL_law 743 = .ok (.aload_n 1, 1) := by decide +kernel
theorem dL_law_744 : decode cL_law 744 = .ok (.aload_n 0, 1) := by decide +kernel
theorem dL_law_745 : decode cL_law 745 = .ok (.iload_n 3, 1) := by decide +kernel
theorem dL_law_746 : decode cL_law 746 = .ok (.iconst 1, 1) := by decide +kernel
theorem dL_law_747 : decode cL_law 747 = .ok (.iadd, 1) := by decide +kernel
theorem dL_law_748 : decode cL_law 748 = .ok (.iaload, 1) := by decide +kernel
theorem dL_law_749 : decode cL_law 749 = .ok (.aload_n 0, 1) := by decide +kernel
theorem dL_law_750 : decode cL_law 750 = .ok (.iload_n 3, 1) := by decide +kernel
theorem dL_law_751 : decode cL_law 751 = .ok (.iconst 2, 1) := by decide +kernel
theorem dL_law_752 : decode cL_law 752 = .ok (.iadd, 1) := by decide +kernel
theorem dL_law_753 : decode cL_law 753 = .ok (.iaload, 1) := by decide +kernel
theorem dL_law_754 : decode cL_law 754 = .ok (.invokevirtual 89, 3) := by decide +kernel
theorem dL_law_757 : decode cL_law 757 = .ok (.aload_n 2, 1) := by decide +kernel
theorem dL_law_758 : decode cL_law 758 = .ok (.aload_n 0, 1) := by decide +kernel
theorem dL_law_759 : decode cL_law 759 = .ok (.iload_n 3, 1) := by decide +kernel
theorem dL_law_760 : decode cL_law 760 = .ok (.iconst 1, 1) := by decide +kernel
theorem dL_law_761 : decode cL_law 761 = .ok (.iadd, 1) := by decide +kernel
theorem dL_law_762 : decode cL_law 762 = .ok (.iaload, 1) := by decide +kernel
theorem dL_law_763 : decode cL_law 763 = .ok (.aload_n 0, 1) := by decide +kernel
theorem dL_law_764 : decode cL_law 764 = .ok (.iload_n 3, 1) := by decide +kernel
theorem dL_law_765 : decode cL_law 765 = .ok (.iconst 2, 1) := by decide +kernel
theorem dL_law_766 : decode cL_law 766 = .ok (.iadd, 1) := by decide +kernel
theorem dL_law_767 : decode cL_law 767 = .ok (.iaload, 1) := by decide +kernel
theorem dL_law_768 : decode cL_law 768 = .ok (.invokevirtual 92, 3) := by decide +kernel
theorem dL_law_771 : decode cL_law 771 = .ok (.if_icmp .eq 160, 3) := by decide +kernel
theorem dL_law_774 : decode cL_law 774 = .ok (.iconst 0, 1) := by decide +kernel
theorem dL_law_775 : decode cL_law 775 = .ok (.ireturn, 1) := by decide +kernel
theorem dL_law_776 : decode cL_law 776 = .ok (.aload_n 1, 1) := by decide +kernel
theorem dL_law_777 : decode cL_law 777 = .ok (.invokevirtual 93, 3) := by decide +kernel
theorem dL_law_780 : decode cL_law 780 = .ok (.aload_n 2, 1) := by decide +kernel
theorem dL_law_781 : decode cL_law 781 = .ok (.invokevirtual 96, 3) := by decide +kernel
theorem dL_law_784 : decode cL_law 784 = .ok (.if_icmp .eq 147, 3) := by decide +kernel
theorem dL_law_787 : decode cL_law 787 = .ok (.iconst 0, 1) := by decide +kernel
theorem dL_law_788 : decode cL_law 788 = .ok (.ireturn, 1) := by decide +kernel
theorem dL_law_789 : decode cL_law 789 = .ok (.aload_n 1, 1) := by decide +kernel
theorem dL_law_790 : decode cL_law 790 = .ok (.aload_n 0, 1) := by decide +kernel
theorem dL_law_791 : decode cL_law 791 = .ok (.iload_n 3, 1) := by decide +kernel
theorem dL_law_792 : decode cL_law 792 = .ok (.iconst 1, 1) := by decide +kernel
theorem dL_law_793 : decode cL_law 793 = .ok (.iadd, 1) := by decide +kernel
theorem dL_law_794 : decode cL_law 794 = .ok (.iaload, 1) := by decide +kernel
theorem dL_law_795 : decode cL_law 795 = .ok (.invokevirtual 97, 3) := by decide +kernel
theorem dL_law_798 : decode cL_law 798 = .ok (.aload_n 2, 1) := by decide +kernel
theorem dL_law_799 : decode cL_law 799 = .ok (.aload_n 0, 1) := by decide +kernel
theorem dL_law_800 : decode cL_law 800 = .ok (.iload_n 3, 1) := by decide +kernel
theorem dL_law_801 : decode cL_law 801 = .ok (.iconst 1, 1) := by decide +kernel
theorem dL_law_802 : decode cL_law 802 = .ok (.iadd, 1) := by decide +kernel
theorem dL_law_803 : decode cL_law 803 = .ok (.iaload, 1) := by decide +kernel
theorem dL_law_804 : decode cL_law 804 = .ok (.invokevirtual 100, 3) := by decide +kernel
theorem dL_law_807 : decode cL_law 807 = .ok (.if_icmp .eq 124, 3) := by decide +kernel
theorem dL_law_810 : decode cL_law 810 = .ok (.iconst 0, 1) := by decide +kernel
theorem dL_law_811 : decode cL_law 811 = .ok (.ireturn, 1) := by decide +kernel
theorem dL_law_812 : decode cL_law 812 = .ok (.aload_n 1, 1) := by decide +kernel
theorem dL_law_813 : decode cL_law 813 = .ok (.aload_n 0, 1) := by decide +kernel
theorem dL_law_814 : decode cL_law 814 = .ok (.iload_n 3, 1) := by decide +kernel
theorem dL_law_815 : decode cL_law 815 = .ok (.iconst 1, 1) := by decide +kernel
theorem dL_law_816 : decode cL_law 816 = .ok (.iadd, 1) := by decide +kernel
theorem dL_law_817 : decode cL_law 817 = .ok (.iaload, 1) := by decide +kernel
theorem dL_law_818 : decode cL_law 818 = .ok (.invokevirtual 101, 3) := by decide +kernel
theorem dL_law_821 : decode cL_law 821 = .ok (.aload_n 2, 1) := by decide +kernel
theorem dL_law_822 : decode cL_law 822 = .ok (.aload_n 0, 1) := by decide +kernel
theorem dL_law_823 : decode cL_law 823 = .ok (.iload_n 3, 1) := by decide +kernel
theorem dL_law_824 : decode cL_law 824 = .ok (.iconst 1, 1) := by decide +kernel
theorem dL_law_825 : decode cL_law 825 = .ok (.iadd, 1) := by decide +kernel
theorem dL_law_826 : decode cL_law 826 = .ok (.iaload, 1) := by decide +kernel
theorem dL_law_827 : decode cL_law 827 = .ok (.invokevirtual 104, 3) := by decide +kernel
theorem dL_law_830 : decode cL_law 830 = .ok (.if_icmp .eq 101, 3) := by decide +kernel
theorem dL_law_833 : decode cL_law 833 = .ok (.iconst 0, 1) := by decide +kernel
theorem dL_law_834 : decode cL_law 834 = .ok (.ireturn, 1) := by decide +kernel
theorem dL_law_835 : decode cL_law 835 = .ok (.aload_n 1, 1) := by decide +kernel
theorem dL_law_836 : decode cL_law 836 = .ok (.aload_n 0, 1) := by decide +kernel
theorem dL_law_837 : decode cL_law 837 = .ok (.iload_n 3, 1) := by decide +kernel
theorem dL_law_838 : decode cL_law 838 = .ok (.iconst 1, 1) := by decide +kernel
theorem dL_law_839 : decode cL_law 839 = .ok (.iadd, 1) := by decide +kernel
theorem dL_law_840 : decode cL_law 840 = .ok (.iaload, 1) := by decide +kernel
theorem dL_law_841 : decode cL_law 841 = .ok (.invokevirtual 105, 3) := by decide +kernel
theorem dL_law_844 : decode cL_law 844 = .ok (.aload_n 2, 1) := by decide +kernel
theorem dL_law_845 : decode cL_law 845 = .ok (.aload_n 0, 1) := by decide +kernel
theorem dL_law_846 : decode cL_law 846 = .ok (.iload_n 3, 1) := by decide +kernel
theorem dL_law_847 : decode cL_law 847 = .ok (.iconst 1, 1) := by decide +kernel
theorem dL_law_848 : decode cL_law 848 = .ok (.iadd, 1) := by decide +kernel
theorem dL_law_849 : decode cL_law 849 = .ok (.iaload, 1) := by decide +kernel
theorem dL_law_850 : decode cL_law 850 = .ok (.invokevirtual 108, 3) := by decide +kernel
theorem dL_law_853 : decode cL_law 853 = .ok (.if_icmp .eq 78, 3) := by decide +kernel
theorem dL_law_856 : decode cL_law 856 = .ok (.iconst 0, 1) := by decide +kernel
theorem dL_law_857 : decode cL_law 857 = .ok (.ireturn, 1) := by decide +kernel
theorem dL_law_858 : decode cL_law 858 = .ok (.aload_n 1, 1) := by decide +kernel
theorem dL_law_859 : decode cL_law 859 = .ok (.invokevirtual 109, 3) := by decide +kernel
theorem dL_law_862 : decode cL_law 862 = .ok (.aload_n 2, 1) := by decide +kernel
theorem dL_law_863 : decode cL_law 863 = .ok (.invokevirtual 112, 3) := by decide +kernel
theorem dL_law_866 : decode cL_law 866 = .ok (.if_icmp .eq 65, 3) := by decide +kernel
theorem dL_law_869 : decode cL_law 869 = .ok (.iconst 0, 1) := by decide +kernel
theorem dL_law_870 : decode cL_law 870 = .ok (.ireturn, 1) := by decide +kernel
theorem dL_law_871 : decode cL_law 871 = .ok (.aload_n 1, 1) := by decide +kernel
theorem dL_law_872 : decode cL_law 872 = .ok (.aload_n 0, 1) := by decide +kernel
theorem dL_law_873 : decode cL_law 873 = .ok (.iload_n 3, 1) := by decide +kernel
theorem dL_law_874 : decode cL_law 874 = .ok (.iconst 1, 1) := by decide +kernel
theorem dL_law_875 : decode cL_law 875 = .ok (.iadd, 1) := by decide +kernel
theorem dL_law_876 : decode cL_law 876 = .ok (.iaload, 1) := by decide +kernel
theorem dL_law_877 : decode cL_law 877 = .ok (.invokevirtual 113, 3) := by decide +kernel
theorem dL_law_880 : decode cL_law 880 = .ok (.aload_n 2, 1) := by decide +kernel
theorem dL_law_881 : decode cL_law 881 = .ok (.aload_n 0, 1) := by decide +kernel
theorem dL_law_882 : decode cL_law 882 = .ok (.iload_n 3, 1) := by decide +kernel
theorem dL_law_883 : decode cL_law 883 = .ok (.iconst 1, 1) := by decide +kernel
theorem dL_law_884 : decode cL_law 884 = .ok (.iadd, 1) := by decide +kernel
theorem dL_law_885 : decode cL_law 885 = .ok (.iaload, 1) := by decide +kernel
theorem dL_law_886 : decode cL_law 886 = .ok (.invokevirtual 116, 3) := by decide +kernel
theorem dL_law_889 : decode cL_law 889 = .ok (.if_icmp .eq 42, 3) := by decide +kernel
theorem dL_law_892 : decode cL_law 892 = .ok (.iconst 0, 1) := by decide +kernel
theorem dL_law_893 : decode cL_law 893 = .ok (.ireturn, 1) := by decide +kernel
theorem dL_law_894 : decode cL_law 894 = .ok (.aload_n 1, 1) := by decide +kernel
theorem dL_law_895 : decode cL_law 895 = .ok (.aload_n 0, 1) := by decide +kernel
theorem dL_law_896 : decode cL_law 896 = .ok (.iload_n 3, 1) := by decide +kernel
theorem dL_law_897 : decode cL_law 897 = .ok (.iconst 1, 1) := by decide +kernel
theorem dL_law_898 : decode cL_law 898 = .ok (.iadd, 1) := by decide +kernel
theorem dL_law_899 : decode cL_law 899 = .ok (.iaload, 1) := by decide +kernel
theorem dL_law_900 : decode cL_law 900 = .ok (.invokevirtual 117, 3) := by decide +kernel
theorem dL_law_903 : decode cL_law 903 = .ok (.aload_n 2, 1) := by decide +kernel
theorem dL_law_904 : decode cL_law 904 = .ok (.aload_n 0, 1) := by decide +kernel
theorem dL_law_905 : decode cL_law 905 = .ok (.iload_n 3, 1) := by decide +kernel
theorem dL_law_906 : decode cL_law 906 = .ok (.iconst 1, 1) := by decide +kernel
theorem dL_law_907 : decode cL_law 907 = .ok (.iadd, 1) := by decide +kernel
theorem dL_law_908 : decode cL_law 908 = .ok (.iaload, 1) := by decide +kernel
theorem dL_law_909 : decode cL_law 909 = .ok (.invokevirtual 120, 3) := by decide +kernel
theorem dL_law_912 : decode cL_law 912 = .ok (.if_icmp .eq 19, 3) := by decide +kernel
theorem dL_law_915 : decode cL_law 915 = .ok (.iconst 0, 1) := by decide +kernel
theorem dL_law_916 : decode cL_law 916 = .ok (.ireturn, 1) := by decide +kernel
theorem dL_law_917 : decode cL_law 917 = .ok (.aload_n 1, 1) := by decide +kernel
theorem dL_law_918 : decode cL_law 918 = .ok (.invokevirtual 121, 3) := by decide +kernel
theorem dL_law_921 : decode cL_law 921 = .ok (.aload_n 2, 1) := by decide +kernel
theorem dL_law_922 : decode cL_law 922 = .ok (.invokevirtual 125, 3) := by decide +kernel
theorem dL_law_925 : decode cL_law 925 = .ok (.lcmp, 1) := by decide +kernel
theorem dL_law_926 : decode cL_law 926 = .ok (.ifCond .eq 5, 3) := by decide +kernel
theorem dL_law_929 : decode cL_law 929 = .ok (.iconst 0, 1) := by decide +kernel
theorem dL_law_930 : decode cL_law 930 = .ok (.ireturn, 1) := by decide +kernel
theorem dL_law_931 : decode cL_law 931 = .ok (.iinc 3 5, 3) := by decide +kernel
theorem dL_law_934 : decode cL_law 934 = .ok (.goto (-916), 3) := by decide +kernel
theorem dL_law_937 : decode cL_law 937 = .ok (.iconst 1, 1) := by decide +kernel
theorem dL_law_938 : decode cL_law 938 = .ok (.ireturn, 1) := by decide +kernel
end
section
/-! ===== the abstract machine: ids for cells, whole numbers for ints, one memory for all ===== -/
abbrev AV : Type := Int ⊕ (Int ⊕ Option Nat)
abbrev aI (z : Int) : AV := Sum.inl z
abbrev aL (z : Int) : AV := Sum.inr (Sum.inl z)
abbrev aR (o : Option Nat) : AV := Sum.inr (Sum.inr o)
abbrev Shp : Type := Nat ⊕ (Nat × Nat)
abbrev Mem : Type := (Nat → Nat → Int) × (Nat → Nat → Option Nat)
abbrev vGG : Type := va_G × (Nat → ClassId) × Nat × (Nat → Nat)
def vad (G : vGG) (i : Nat) : Nat := if i < 1000 then G.2.2.1 + i else G.2.2.2 i
def vrv (G : vGG) : AV → Value
  | .inl z => .int (Int32.ofInt z)
  | .inr (.inl z) => .long (Int64.ofInt z)
  | .inr (.inr o) => va_rf (o.map (vad G))
def vcat : AV → Nat
  | .inr (.inl _) => 2
  | _ => 1
theorem vrv_cat (G : vGG) (v : AV) : (vrv G v).category = vcat v := by
  rcases v with z | z | o
  · rfl
  · rfl
  · cases o <;> rfl
abbrev R32 (z : Int) : Prop := -2147483648 ≤ z ∧ z ≤ 2147483647
/-- which fields hold references -/
def vrefF : Nat → Nat → Bool
  | 0, k => decide (k < 9)
  | 1, k => decide (k < 1)
  | 2, k => decide (k < 6)
  | 3, k => decide (k < 8)
  | 4, k => decide (k < 3 ∨ k = 4 ∨ k = 5 ∨ k = 6 ∨ (8 ≤ k ∧ k ≤ 16) ∨ k = 21)
  | _, _ => false
def vtyF : Nat → Nat → FieldType
  | 0, k => tyX0 k
  | 1, k => tyX1 k
  | 2, k => tyX2 k
  | 3, k => tyX3 k
  | _, k => tyX4 k
def vfv (G : vGG) (ci : Nat) (M : Mem) (i k : Nat) : Value := if vrefF ci k = true then va_rf ((M.2 i k).map (vad G)) else .int (Int32.ofInt (M.1 i k))
def vkt : Nat → FieldType
  | 0 => .int
  | 1 => .boolean
  | _ => .object RX0
def vav (G : vGG) (kd : Nat) (M : Mem) (i j : Nat) : Value := if kd = 2 then va_rf ((M.2 i j).map (vad G)) else .int (Int32.ofInt (M.1 i j))
def vCell (G : vGG) (U : State) (M : Mem) (H : Heap) (i : Nat) : Shp → Prop
  | .inl ci => i < 1000 ∧ ∃ r : vw_C, vwCl[ci]? = some r ∧ t_OB (vad G i) (G.1.1 ci) r.2.2 (G.1.2 ci) H (vfv G ci M i)
  | .inr a => (i < 1000 → H[vad G i]? = some (arrV (G.2.1 a.1) a.2 (vav G a.1 M i))) ∧ (1000 ≤ i → a.1 = 0 ∧ ∃ cell : Cell, H[vad G i]? = some cell ∧ U.isArrayOf cell .int ∧ cell.vm ≠ .unknown ∧ cell.slots.size = a.2 ∧ ∀ j, j < a.2 → cell.slots[j]? = some (.int (Int32.ofInt (M.1 i j))))
def vRel (G : vGG) (U : State) (sh : Nat → Option Shp) (n : Nat) (M : Mem) (H : Heap) : Prop :=
  H.size = G.2.2.1 + n ∧ n ≤ 1000 ∧ (∀ i, 1000 ≤ i → sh i ≠ none → vad G i < G.2.2.1) ∧ (∀ i, n ≤ i → i < 1000 → sh i = none) ∧ ∀ i x, sh i = some x → vCell G U M H i x
theorem vCell.keep {G : vGG} {U : State} {M M' : Mem} {H H' : Heap} {i : Nat} {x : Shp} (h : vCell G U M H i x) (hq : H'[vad G i]? = H[vad G i]?) (h1 : ∀ k, M'.1 i k = M.1 i k) (h2 : ∀ k, M'.2 i k = M.2 i k) : vCell G U M' H' i x := by
  rcases x with ci | a
  · obtain ⟨hi, r, hr, ho⟩ := h
    refine ⟨hi, r, hr, (ho.kept hq).to (fun k _ => ?_)⟩
    simp only [vfv, h1, h2]
  · refine ⟨fun hi => ?_, fun hi => ?_⟩
    · rw [hq, h.1 hi]
      congr 2
      funext j
      simp only [vav, h1, h2]
    · obtain ⟨hk, cell, c1, c2, c3, c4, c5⟩ := h.2 hi
      exact ⟨hk, cell, by rw [hq]; exact c1, c2, c3, c4, fun j hj => by rw [h1]; exact c5 j hj⟩
theorem vCell.moved {G : vGG} {u U : State} (hvm : u.vm.Alike U.vm) {M : Mem} {H : Heap} {i : Nat} {x : Shp} (h : vCell G u M H i x) : vCell G U M H i x := by
  rcases x with ci | a
  · exact h
  · refine ⟨h.1, fun hi => ?_⟩
    obtain ⟨hk, cell, c1, c2, c3⟩ := h.2 hi
    exact ⟨hk, cell, c1, State.isArrayOf_alike hvm c2, c3⟩
theorem vRel.moved {G : vGG} {u U : State} (hvm : u.vm.Alike U.vm) {sh : Nat → Option Shp} {n : Nat} {M : Mem} {H : Heap} (h : vRel G u sh n M H) : vRel G U sh n M H :=
  ⟨h.1, h.2.1, h.2.2.1, h.2.2.2.1, fun i x hx => (h.2.2.2.2 i x hx).moved hvm⟩
theorem vad_lo {G : vGG} {i : Nat} (h : i < 1000) : vad G i = G.2.2.1 + i := if_pos h
/-- a write at one new cell -/
theorem vRel.put {G : vGG} {U : State} {sh : Nat → Option Shp} {n : Nat} {M M' : Mem} {H H' : Heap} (h : vRel G U sh n M H) {i : Nat} (hi : i < 1000) (hz : H'.size = H.size) (oq : ∀ q, q ≠ vad G i → H'[q]? = H[q]?)
    (h1 : ∀ j, j ≠ i → ∀ k, M'.1 j k = M.1 j k) (h2 : ∀ j, j ≠ i → ∀ k, M'.2 j k = M.2 j k) (hc : ∀ x, sh i = some x → vCell G U M' H' i x) : vRel G U sh n M' H' := by
  obtain ⟨a1, a2, a3, a4, a5⟩ := h
  refine ⟨hz.trans a1, a2, a3, a4, fun j x hx => ?_⟩
  by_cases hj : j = i
  · subst hj; exact hc x hx
  · refine (a5 j x hx).keep (oq _ ?_) (h1 j hj) (h2 j hj)
    rw [vad_lo hi]
    by_cases hj2 : j < 1000
    · rw [vad_lo hj2]; omega
    · have := a3 j (by omega) (by rw [hx]; simp)
      omega
def vprs (G : vGG) : Nat → List (Option AV) → List (Nat × Value)
  | _, [] => []
  | k, none :: r => vprs G (k + 1) r
  | k, some v :: r => (k, vrv G v) :: vprs G (k + 1) r
theorem vprs_mem {G : vGG} {q : Nat × Value} : ∀ {ls : List (Option AV)} {k : Nat}, q ∈ vprs G k ls ↔ ∃ i v, ls[i]? = some (some v) ∧ q = (k + i, vrv G v)
  | [], k => by simp [vprs]
  | none :: r, k => by
    rw [vprs, vprs_mem (ls := r)]
    constructor
    · rintro ⟨i, v, h, e⟩
      exact ⟨i + 1, v, by simpa using h, by rw [e]; congr 1; omega⟩
    · rintro ⟨i, v, h, e⟩
      cases i with
      | zero => simp at h
      | succ i => exact ⟨i, v, by simpa using h, by rw [e]; congr 1; omega⟩
  | some w :: r, k => by
    rw [vprs, List.mem_cons, vprs_mem (ls := r)]
    constructor
    · rintro (e | ⟨i, v, h, e⟩)
      · exact ⟨0, w, by simp, by simpa using e⟩
      · exact ⟨i + 1, v, by simpa using h, by rw [e]; congr 1; omega⟩
    · rintro ⟨i, v, h, e⟩
      cases i with
      | zero =>
        simp at h
        subst h
        exact Or.inl (by simpa using e)
      | succ i => exact Or.inr ⟨i, v, by simpa using h, by rw [e]; congr 1; omega⟩
theorem vls_at {G : vGG} {la : Array Slot} {nL : Nat} {ls : List (Option AV)} (h : lv_has la nL (vprs G 0 ls)) {i : Nat} {v : AV} (hi : ls[i]? = some (some v)) : la[i]? = some (.val (vrv G v)) := by
  have := h.2.2 (i, vrv G v) (vprs_mem.mpr ⟨i, v, hi, by simp⟩)
  exact this
/-- the local before place i holds no long -/
def vnl1 : Option AV → Bool
  | some (.inr (.inl _)) => false
  | _ => true
def vnl (ls : List (Option AV)) : Nat → Bool
  | 0 => true
  | j + 1 => match ls[j]? with
    | some a => vnl1 a
    | none => true
theorem vls_set {G : vGG} {la : Array Slot} {ls : List (Option AV)} {i : Nat} {v : AV} (hn : vnl ls i = true) (h : lv_has la ls.length ((i, vrv G v) :: (vprs G 0 ls).filter (fun q => !(q.1 == i) && !(q.1 + 1 == i && q.2.category == 2)))) :
    lv_has la (ls.set i (some v)).length (vprs G 0 (ls.set i (some v))) := by
  refine ⟨by rw [List.length_set]; exact h.1, h.2.1, fun q hq => h.2.2 q ?_⟩
  obtain ⟨j, w, hj, rfl⟩ := vprs_mem.mp hq
  simp only [Nat.zero_add]
  by_cases hji : i = j
  · subst hji
    have hl : i < ls.length := by
      have := (List.getElem?_eq_some_iff.mp hj).1
      simpa using this
    rw [List.getElem?_set_self hl] at hj
    cases hj
    exact List.mem_cons_self
  · rw [List.getElem?_set_ne hji] at hj
    refine List.mem_cons_of_mem _ (List.mem_filter.mpr ⟨vprs_mem.mpr ⟨j, w, hj, by simp⟩, ?_⟩)
    have h1 : (j == i) = false := by simp; omega
    simp only [h1, Bool.not_false, Bool.true_and, Bool.not_eq_true', Bool.and_eq_false_iff, beq_eq_false_iff_ne]
    by_cases h2 : j + 1 = i
    · right
      subst h2
      simp only [vnl, hj] at hn
      rw [vrv_cat]
      rcases w with z | z | o
      · simp [vcat]
      · simp [vnl1] at hn
      · simp [vcat]
    · left; exact h2
abbrev vXX : Type := Program × Launch × Env × Room × State × MethodId × Array Value × List Frame × Method × Code
abbrev xp (x : vXX) := x.1
abbrev xl (x : vXX) := x.2.1
abbrev xe (x : vXX) := x.2.2.1
abbrev xR (x : vXX) := x.2.2.2.1
abbrev xs (x : vXX) := x.2.2.2.2.1
abbrev xm (x : vXX) := x.2.2.2.2.2.1
abbrev xa (x : vXX) := x.2.2.2.2.2.2.1
abbrev xb (x : vXX) := x.2.2.2.2.2.2.2.1
abbrev xM (x : vXX) := x.2.2.2.2.2.2.2.2.1
abbrev xc (x : vXX) := x.2.2.2.2.2.2.2.2.2
def vnest : Cond → Bool
  | .fieldLinkNest _ _ _ _ _ _ => true
  | .methodLinkNest _ _ _ _ => true
  | _ => false
def vGT : List Cond := lw_tbl.filter goodWord
def vNW : List Cond := lw_tbl.filter vnest
abbrev vtys (G : vGG) : List (ClassId × FieldType) := [(G.2.1 0, .int), (G.2.1 1, .boolean), (G.2.1 2, .object RX0)]
def vKF (G : vGG) (U : State) : Prop := va_K G.1 vwCl (vtys G) U ∧ (∀ w ∈ vNW, va_Nw w U) ∧ va_AO RX0 U
abbrev vnew (G : vGG) : Nat → Prop := fun q => G.2.2.1 ≤ q
def vSZ (G : vGG) (U : State) (H : Heap) : Prop := va_Z "OrganWind" "FIRST_SETTING" "[I" (.ref (vad G 1000)) (vnew G) U H ∧ va_Z "OrganWind" "LEAST_SETTING" "[I" (.ref (vad G 1001)) (vnew G) U H ∧ va_Z "OrganWind" "MOST_SETTING" "[I" (.ref (vad G 1002)) (vnew G) U H
def vCX (x : vXX) (G : vGG) (cc : ByteArray) (own : String) (nL : Nat) : Prop :=
  (xp x).tables.exec = Jvm.exec ∧ (xc x).code = cc ∧ (xc x).maxLocals = nL ∧ (xs x).vm.findClass own = some (xm x).cls ∧ (∀ w ∈ vGT, w.before (xa x) (xs x) = true) ∧ vKF G (xs x) ∧ vSZ G (xs x) (xs x).heap ∧ G.2.2.1 ≤ (xs x).heap.size
/-- from here on, whatever the cells are that hold the memory M, the machine comes to a state with Q -/
def V (x : vXX) (Q : State → Prop) (G : vGG) (cc : ByteArray) (own : String) (sh : Nat → Option Shp) (n cl sl : Nat) (pc : Nat) (ls : List (Option AV)) (st : List AV) (M : Mem) : Prop :=
  vCX x G cc own ls.length → ∀ (H : Heap) (locs : List Loc) (la : Array Slot), vRel G (xs x) sh n M H → va_S (vnew G) (xs x).heap H locs → lv_has la ls.length (vprs G 0 ls) →
    W (xp x) (xl x) (xe x) (xR x) (xs x) (xm x) (xa x) (xb x) (xM x) (xc x) H locs cl sl Q (F0 (xm x) pc la (st.map (vrv G)))
end
section
theorem i32_lt {a b : Int} (ha : R32 a) (hb : R32 b) : Int32.ofInt a < Int32.ofInt b ↔ a < b := by
  rw [Int32.lt_iff_toInt_lt, Int32.toInt_ofInt_of_le (by omega) (by omega), Int32.toInt_ofInt_of_le (by omega) (by omega)]
theorem i32_le {a b : Int} (ha : R32 a) (hb : R32 b) : Int32.ofInt a ≤ Int32.ofInt b ↔ a ≤ b := by
  rw [Int32.le_iff_toInt_le, Int32.toInt_ofInt_of_le (by omega) (by omega), Int32.toInt_ofInt_of_le (by omega) (by omega)]
theorem i32_eq {a b : Int} (ha : R32 a) (hb : R32 b) : Int32.ofInt a = Int32.ofInt b ↔ a = b := by
  rw [← Int32.toInt_inj, Int32.toInt_ofInt_of_le (by omega) (by omega), Int32.toInt_ofInt_of_le (by omega) (by omega)]
theorem i32_0 : (0 : Int32) = Int32.ofInt 0 := by decide
theorem i32_r0 : R32 0 := by decide
theorem i32_T (a : Int32) : R32 a.toInt := ⟨Int32.le_toInt a, by have := Int32.toInt_lt a; omega⟩
theorem i32_div {a b : Int} (ha : R32 a) (hb : R32 b) : Int32.ofInt a / Int32.ofInt b = Int32.ofInt (a.tdiv b) := by
  rw [← Int32.toInt_inj, Int32.toInt_div, Int32.toInt_ofInt_of_le (by omega) (by omega), Int32.toInt_ofInt_of_le (by omega) (by omega), Int32.toInt_ofInt]
def vw (z : Int) : Int := (Int32.ofInt z).toInt
theorem vw_R (z : Int) : R32 (vw z) := i32_T _
theorem vw_of (z : Int) : Int32.ofInt (vw z) = Int32.ofInt z := Int32.ofInt_toInt _
theorem vw_in {z : Int} (h : R32 z) : vw z = z := Int32.toInt_ofInt_of_le (by omega) (by omega)
def vand (a b : Int) : Int := (Int32.ofInt a &&& Int32.ofInt b).toInt
def vor (a b : Int) : Int := (Int32.ofInt a ||| Int32.ofInt b).toInt
def vxor (a b : Int) : Int := (Int32.ofInt a ^^^ Int32.ofInt b).toInt
def vshl (a b : Int) : Int := (Int32.ofInt a <<< (Int32.ofInt b &&& 31)).toInt
def vshr (a b : Int) : Int := (Int32.ofInt a >>> (Int32.ofInt b &&& 31)).toInt
def vushr (a b : Int) : Int := (((Int32.ofInt a).toUInt32 >>> ((Int32.ofInt b).toUInt32 &&& Int32.toUInt32 31)).toInt32).toInt
section VR
variable {x : vXX} {Q : State → Prop} {G : vGG} {cc : ByteArray} {own : String} {sh : Nat → Option Shp} {n cl sl pc : Nat} {ls : List (Option AV)} {st : List AV} {M : Mem}
theorem v_iconst {z : Int} (hd : decode cc pc = .ok (.iconst z, 1)) (k : V x Q G cc own sh n cl sl (pc + 1) ls (aI z :: st) M) : V x Q G cc own sh n cl sl pc ls st M :=
  fun C H locs la hR hS hL => lv_iconst C.1 C.2.1 hd rfl (k C H locs la hR hS hL)
theorem v_bipush {z : Int} (hd : decode cc pc = .ok (.bipush z, 2)) (hv : (Int8.ofInt z).toInt32 = Int32.ofInt z) (k : V x Q G cc own sh n cl sl (pc + 2) ls (aI z :: st) M) : V x Q G cc own sh n cl sl pc ls st M :=
  fun C H locs la hR hS hL => lv_bipush C.1 C.2.1 hd hv (k C H locs la hR hS hL)
theorem v_sipush {z : Int} (hd : decode cc pc = .ok (.sipush z, 3)) (hv : (Int16.ofInt z).toInt32 = Int32.ofInt z) (k : V x Q G cc own sh n cl sl (pc + 3) ls (aI z :: st) M) : V x Q G cc own sh n cl sl pc ls st M :=
  fun C H locs la hR hS hL => lv_sipush C.1 C.2.1 hd hv (k C H locs la hR hS hL)
theorem v_ldc {idx : Nat} {v : Int32} (z : Int) (hc : Cond.constant own idx v ∈ vGT) (hv : v = Int32.ofInt z) (hd : decode cc pc = .ok (.ldc idx, 2)) (k : V x Q G cc own sh n cl sl (pc + 2) ls (aI z :: st) M) : V x Q G cc own sh n cl sl pc ls st M :=
  fun C H locs la hR hS hL => lv_ldc C.1 C.2.1 C.2.2.2.1 (C.2.2.2.2.1 _ hc) hd (by rw [hv]; exact k C H locs la hR hS hL)
theorem v_ldc2 {idx : Nat} {v : Int64} (z : Int) (hc : Cond.constantLong own idx v ∈ vGT) (hv : v = Int64.ofInt z) (hd : decode cc pc = .ok (.ldc2_w idx, 3)) (k : V x Q G cc own sh n cl sl (pc + 3) ls (aL z :: st) M) : V x Q G cc own sh n cl sl pc ls st M :=
  fun C H locs la hR hS hL => lv_ldc2 C.1 C.2.1 C.2.2.2.1 (C.2.2.2.2.1 _ hc) hd (by rw [hv]; exact k C H locs la hR hS hL)
theorem v_iload_n {kf : Fin 4} (j : Nat) {z : Int} (hd : decode cc pc = .ok (.iload_n kf, 1)) (hj : (kf : Nat) = j) (hl : ls[j]? = some (some (aI z))) (k : V x Q G cc own sh n cl sl (pc + 1) ls (aI z :: st) M) : V x Q G cc own sh n cl sl pc ls st M :=
  fun C H locs la hR hS hL => lv_iload_n C.1 C.2.1 hd hj (vls_at hL hl) (k C H locs la hR hS hL)
theorem v_iload {j : Nat} {z : Int} (hd : decode cc pc = .ok (.iload j, 2)) (hl : ls[j]? = some (some (aI z))) (k : V x Q G cc own sh n cl sl (pc + 2) ls (aI z :: st) M) : V x Q G cc own sh n cl sl pc ls st M :=
  fun C H locs la hR hS hL => lv_iload C.1 C.2.1 hd (vls_at hL hl) (k C H locs la hR hS hL)
theorem v_lload_n {kf : Fin 4} (j : Nat) {z : Int} (hd : decode cc pc = .ok (.lload_n kf, 1)) (hj : (kf : Nat) = j) (hl : ls[j]? = some (some (aL z))) (k : V x Q G cc own sh n cl sl (pc + 1) ls (aL z :: st) M) : V x Q G cc own sh n cl sl pc ls st M :=
  fun C H locs la hR hS hL => lv_lload_n C.1 C.2.1 hd hj (vls_at hL hl) (k C H locs la hR hS hL)
theorem v_lload {j : Nat} {z : Int} (hd : decode cc pc = .ok (.lload j, 2)) (hl : ls[j]? = some (some (aL z))) (k : V x Q G cc own sh n cl sl (pc + 2) ls (aL z :: st) M) : V x Q G cc own sh n cl sl pc ls st M :=
  fun C H locs la hR hS hL => lv_lload C.1 C.2.1 hd (vls_at hL hl) (k C H locs la hR hS hL)
theorem v_aload_n {kf : Fin 4} (j : Nat) {i : Nat} (hd : decode cc pc = .ok (.aload_n kf, 1)) (hj : (kf : Nat) = j) (hl : ls[j]? = some (some (aR (some i)))) (k : V x Q G cc own sh n cl sl (pc + 1) ls (aR (some i) :: st) M) : V x Q G cc own sh n cl sl pc ls st M :=
  fun C H locs la hR hS hL => lv_aload_n C.1 C.2.1 hd hj (vls_at hL hl) (k C H locs la hR hS hL)
theorem v_aload {j : Nat} {i : Nat} (hd : decode cc pc = .ok (.aload j, 2)) (hl : ls[j]? = some (some (aR (some i)))) (k : V x Q G cc own sh n cl sl (pc + 2) ls (aR (some i) :: st) M) : V x Q G cc own sh n cl sl pc ls st M :=
  fun C H locs la hR hS hL => lv_aload C.1 C.2.1 hd (vls_at hL hl) (k C H locs la hR hS hL)
theorem v_istore_n {j : Nat} {kf : Fin 4} (hj : (kf : Nat) = j) {z : Int} (hd : decode cc pc = .ok (.istore_n kf, 1)) (hi : j < ls.length) (hn : vnl ls j = true) (k : V x Q G cc own sh n cl sl (pc + 1) (ls.set j (some (aI z))) st M) : V x Q G cc own sh n cl sl pc ls (aI z :: st) M :=
  fun C H locs la hR hS hL => lv_istore_n C.1 C.2.1 hd hj hL hi rfl (fun la' h' => k (by rw [List.length_set]; exact C) H locs la' hR hS (vls_set (v := aI z) hn h'))
theorem v_istore {j : Nat} {z : Int} (hd : decode cc pc = .ok (.istore j, 2)) (hi : j < ls.length) (hn : vnl ls j = true) (k : V x Q G cc own sh n cl sl (pc + 2) (ls.set j (some (aI z))) st M) : V x Q G cc own sh n cl sl pc ls (aI z :: st) M :=
  fun C H locs la hR hS hL => lv_istore C.1 C.2.1 hd hL hi rfl (fun la' h' => k (by rw [List.length_set]; exact C) H locs la' hR hS (vls_set (v := aI z) hn h'))
theorem v_astore_n {j : Nat} {kf : Fin 4} (hj : (kf : Nat) = j) {i : Nat} (hd : decode cc pc = .ok (.astore_n kf, 1)) (hi : j < ls.length) (hn : vnl ls j = true) (k : V x Q G cc own sh n cl sl (pc + 1) (ls.set j (some (aR (some i)))) st M) : V x Q G cc own sh n cl sl pc ls (aR (some i) :: st) M :=
  fun C H locs la hR hS hL => lv_astore_n C.1 C.2.1 hd hj hL hi rfl (fun la' h' => k (by rw [List.length_set]; exact C) H locs la' hR hS (vls_set (v := aR (some i)) hn h'))
theorem v_astore {j : Nat} {i : Nat} (hd : decode cc pc = .ok (.astore j, 2)) (hi : j < ls.length) (hn : vnl ls j = true) (k : V x Q G cc own sh n cl sl (pc + 2) (ls.set j (some (aR (some i)))) st M) : V x Q G cc own sh n cl sl pc ls (aR (some i) :: st) M :=
  fun C H locs la hR hS hL => lv_astore C.1 C.2.1 hd hL hi rfl (fun la' h' => k (by rw [List.length_set]; exact C) H locs la' hR hS (vls_set (v := aR (some i)) hn h'))
theorem v_iinc {j : Nat} {z d : Int} (hd : decode cc pc = .ok (.iinc j d, 3)) (hl : ls[j]? = some (some (aI z))) (hn : vnl ls j = true) (k : V x Q G cc own sh n cl sl (pc + 3) (ls.set j (some (aI (z + d)))) st M) : V x Q G cc own sh n cl sl pc ls st M :=
  fun C H locs la hR hS hL => by
  have hi : j < ls.length := (List.getElem?_eq_some_iff.mp hl).1
  obtain ⟨w, hw⟩ : ∃ w, (vprs G 0 ls)[w]? = some (j, Value.int (Int32.ofInt z)) := by
    obtain ⟨w, hw⟩ := List.getElem?_of_mem (vprs_mem.mpr ⟨j, aI z, hl, rfl⟩ : (0 + j, vrv G (aI z)) ∈ vprs G 0 ls)
    exact ⟨w, by rw [hw]; simp [vrv]⟩
  exact lv_iinc (v := Int32.ofInt (z + d)) C.1 C.2.1 hd hL hw (by rw [Int32.ofInt_add]) hi rfl (fun la' h' => k (by rw [List.length_set]; exact C) H locs la' hR hS (vls_set (v := aI (z + d)) hn h'))
theorem v_iadd {a b : Int} (hd : decode cc pc = .ok (.iadd, 1)) (k : V x Q G cc own sh n cl sl (pc + 1) ls (aI (a + b) :: st) M) : V x Q G cc own sh n cl sl pc ls (aI b :: aI a :: st) M :=
  fun C H locs la hR hS hL => lv_iadd C.1 C.2.1 hd (by rw [← Int32.ofInt_add]; exact k C H locs la hR hS hL)
theorem v_isub {a b : Int} (hd : decode cc pc = .ok (.isub, 1)) (k : V x Q G cc own sh n cl sl (pc + 1) ls (aI (a - b) :: st) M) : V x Q G cc own sh n cl sl pc ls (aI b :: aI a :: st) M :=
  fun C H locs la hR hS hL => lv_isub C.1 C.2.1 hd (by rw [← Int32.ofInt_sub]; exact k C H locs la hR hS hL)
theorem v_imul {a b : Int} (hd : decode cc pc = .ok (.imul, 1)) (k : V x Q G cc own sh n cl sl (pc + 1) ls (aI (a * b) :: st) M) : V x Q G cc own sh n cl sl pc ls (aI b :: aI a :: st) M :=
  fun C H locs la hR hS hL => lv_imul C.1 C.2.1 hd (by rw [← Int32.ofInt_mul]; exact k C H locs la hR hS hL)
theorem v_ineg {a : Int} (hd : decode cc pc = .ok (.ineg, 1)) (k : V x Q G cc own sh n cl sl (pc + 1) ls (aI (-a) :: st) M) : V x Q G cc own sh n cl sl pc ls (aI a :: st) M :=
  fun C H locs la hR hS hL => lv_ineg C.1 C.2.1 hd (by rw [Int32.neg_ofInt]; exact k C H locs la hR hS hL)
theorem v_idiv {a b : Int} (hd : decode cc pc = .ok (.idiv, 1)) (ha : R32 a) (hb : R32 b) (h0 : b ≠ 0) (k : V x Q G cc own sh n cl sl (pc + 1) ls (aI (a.tdiv b) :: st) M) : V x Q G cc own sh n cl sl pc ls (aI b :: aI a :: st) M :=
  fun C H locs la hR hS hL => lv_idiv C.1 C.2.1 hd (by rw [i32_0, i32_eq hb i32_r0]; exact h0) (by rw [i32_div ha hb]; exact k C H locs la hR hS hL)
theorem v_irem {a b : Int} (hd : decode cc pc = .ok (.irem, 1)) (ha : R32 a) (hb : R32 b) (h0 : b ≠ 0) (k : V x Q G cc own sh n cl sl (pc + 1) ls (aI (a.tmod b) :: st) M) : V x Q G cc own sh n cl sl pc ls (aI b :: aI a :: st) M :=
  fun C H locs la hR hS hL => lv_irem C.1 C.2.1 hd (by rw [i32_0, i32_eq hb i32_r0]; exact h0) (by rw [i32_div ha hb, ← Int32.ofInt_mul, ← Int32.ofInt_sub, Int.mul_comm, ← Int.tmod_def]; exact k C H locs la hR hS hL)
theorem v_iand {a b : Int} (hd : decode cc pc = .ok (.iand, 1)) (k : V x Q G cc own sh n cl sl (pc + 1) ls (aI (vand a b) :: st) M) : V x Q G cc own sh n cl sl pc ls (aI b :: aI a :: st) M :=
  fun C H locs la hR hS hL => lv_iand C.1 C.2.1 hd (by have h := k C H locs la hR hS hL; simp only [List.map_cons, vrv, vand, Int32.ofInt_toInt] at h; exact h)
theorem v_ior {a b : Int} (hd : decode cc pc = .ok (.ior, 1)) (k : V x Q G cc own sh n cl sl (pc + 1) ls (aI (vor a b) :: st) M) : V x Q G cc own sh n cl sl pc ls (aI b :: aI a :: st) M :=
  fun C H locs la hR hS hL => lv_ior C.1 C.2.1 hd (by have h := k C H locs la hR hS hL; simp only [List.map_cons, vrv, vor, Int32.ofInt_toInt] at h; exact h)
theorem v_ixor {a b : Int} (hd : decode cc pc = .ok (.ixor, 1)) (k : V x Q G cc own sh n cl sl (pc + 1) ls (aI (vxor a b) :: st) M) : V x Q G cc own sh n cl sl pc ls (aI b :: aI a :: st) M :=
  fun C H locs la hR hS hL => lv_ixor C.1 C.2.1 hd (by have h := k C H locs la hR hS hL; simp only [List.map_cons, vrv, vxor, Int32.ofInt_toInt] at h; exact h)
theorem v_ishl {a b : Int} (hd : decode cc pc = .ok (.ishl, 1)) (k : V x Q G cc own sh n cl sl (pc + 1) ls (aI (vshl a b) :: st) M) : V x Q G cc own sh n cl sl pc ls (aI b :: aI a :: st) M :=
  fun C H locs la hR hS hL => lv_ishl C.1 C.2.1 hd (by have h := k C H locs la hR hS hL; simp only [List.map_cons, vrv, vshl, Int32.ofInt_toInt] at h; exact h)
theorem v_ishr {a b : Int} (hd : decode cc pc = .ok (.ishr, 1)) (k : V x Q G cc own sh n cl sl (pc + 1) ls (aI (vshr a b) :: st) M) : V x Q G cc own sh n cl sl pc ls (aI b :: aI a :: st) M :=
  fun C H locs la hR hS hL => lv_ishr C.1 C.2.1 hd (by have h := k C H locs la hR hS hL; simp only [List.map_cons, vrv, vshr, Int32.ofInt_toInt] at h; exact h)
theorem v_iushr {a b : Int} (hd : decode cc pc = .ok (.iushr, 1)) (k : V x Q G cc own sh n cl sl (pc + 1) ls (aI (vushr a b) :: st) M) : V x Q G cc own sh n cl sl pc ls (aI b :: aI a :: st) M :=
  fun C H locs la hR hS hL => lv_iushr C.1 C.2.1 hd rfl (by have h := k C H locs la hR hS hL; simp only [List.map_cons, vrv, vushr, Int32.ofInt_toInt] at h; exact h)
theorem v_i2l {a : Int} (hd : decode cc pc = .ok (.i2l, 1)) (k : V x Q G cc own sh n cl sl (pc + 1) ls (aL (vw a) :: st) M) : V x Q G cc own sh n cl sl pc ls (aI a :: st) M :=
  fun C H locs la hR hS hL => lv_i2l C.1 C.2.1 hd (Int64.ofInt_int32ToInt _).symm (k C H locs la hR hS hL)
theorem v_ladd {a b : Int} (hd : decode cc pc = .ok (.ladd, 1)) (k : V x Q G cc own sh n cl sl (pc + 1) ls (aL (a + b) :: st) M) : V x Q G cc own sh n cl sl pc ls (aL b :: aL a :: st) M :=
  fun C H locs la hR hS hL => lv_ladd C.1 C.2.1 hd (by rw [← Int64.ofInt_add]; exact k C H locs la hR hS hL)
theorem v_lmul {a b : Int} (hd : decode cc pc = .ok (.lmul, 1)) (k : V x Q G cc own sh n cl sl (pc + 1) ls (aL (a * b) :: st) M) : V x Q G cc own sh n cl sl pc ls (aL b :: aL a :: st) M :=
  fun C H locs la hR hS hL => lv_lmul C.1 C.2.1 hd (by rw [← Int64.ofInt_mul]; exact k C H locs la hR hS hL)
theorem v_dup {a : AV} (hd : decode cc pc = .ok (.dup, 1)) (ha : vcat a = 1) (k : V x Q G cc own sh n cl sl (pc + 1) ls (a :: a :: st) M) : V x Q G cc own sh n cl sl pc ls (a :: st) M :=
  fun C H locs la hR hS hL => lv_dup C.1 C.2.1 hd ((vrv_cat G a).trans ha) (k C H locs la hR hS hL)
theorem v_pop {a : AV} (hd : decode cc pc = .ok (.pop, 1)) (ha : vcat a = 1) (k : V x Q G cc own sh n cl sl (pc + 1) ls st M) : V x Q G cc own sh n cl sl pc ls (a :: st) M :=
  fun C H locs la hR hS hL => lv_pop C.1 C.2.1 hd ((vrv_cat G a).trans ha) (k C H locs la hR hS hL)
theorem v_dup_x1 {a b : AV} (hd : decode cc pc = .ok (.dup_x1, 1)) (ha : vcat a = 1) (hb : vcat b = 1) (k : V x Q G cc own sh n cl sl (pc + 1) ls (a :: b :: a :: st) M) : V x Q G cc own sh n cl sl pc ls (a :: b :: st) M :=
  fun C H locs la hR hS hL => lv_dup_x1 C.1 C.2.1 hd ((vrv_cat G a).trans ha) ((vrv_cat G b).trans hb) (k C H locs la hR hS hL)
theorem v_dup2 {a b : AV} (hd : decode cc pc = .ok (.dup2, 1)) (ha : vcat a = 1) (hb : vcat b = 1) (k : V x Q G cc own sh n cl sl (pc + 1) ls (a :: b :: a :: b :: st) M) : V x Q G cc own sh n cl sl pc ls (a :: b :: st) M :=
  fun C H locs la hR hS hL => lv_dup2_11 C.1 C.2.1 hd ((vrv_cat G a).trans ha) ((vrv_cat G b).trans hb) (k C H locs la hR hS hL)
theorem v_icmp_eq {a b off : Int} (tgt : Nat) (hd : decode cc pc = .ok (.if_icmp .eq off, 3)) (ht : (pc : Int) + off = (tgt : Int)) (ha : R32 a) (hb : R32 b)
    (kt : a = b → V x Q G cc own sh n cl sl tgt ls st M) (kf : ¬ a = b → V x Q G cc own sh n cl sl (pc + 3) ls st M) : V x Q G cc own sh n cl sl pc ls (aI b :: aI a :: st) M :=
  fun C H locs la hR hS hL => lv_icmp_eq C.1 C.2.1 hd ht (fun h => kt (by simp only [gt_iff_lt, ge_iff_le, ne_eq, i32_eq ha hb, i32_lt ha hb, i32_lt hb ha, i32_le ha hb, i32_le hb ha, Int.not_lt, Int.not_le, Decidable.not_not] at h; exact h) C H locs la hR hS hL) (fun h => kf (by simp only [gt_iff_lt, ge_iff_le, ne_eq, i32_eq ha hb, i32_lt ha hb, i32_lt hb ha, i32_le ha hb, i32_le hb ha, Int.not_lt, Int.not_le, Decidable.not_not] at h; exact h) C H locs la hR hS hL)
theorem v_if_eq {a off : Int} (tgt : Nat) (hd : decode cc pc = .ok (.ifCond .eq off, 3)) (ht : (pc : Int) + off = (tgt : Int)) (ha : R32 a)
    (kt : a = 0 → V x Q G cc own sh n cl sl tgt ls st M) (kf : ¬ a = 0 → V x Q G cc own sh n cl sl (pc + 3) ls st M) : V x Q G cc own sh n cl sl pc ls (aI a :: st) M :=
  fun C H locs la hR hS hL => lv_if_eq C.1 C.2.1 hd ht (fun h => kt (by rw [i32_0] at h; simp only [gt_iff_lt, ge_iff_le, ne_eq, i32_eq ha i32_r0, i32_lt ha i32_r0, i32_lt i32_r0 ha, i32_le ha i32_r0, i32_le i32_r0 ha, Int.not_lt, Int.not_le, Decidable.not_not] at h; exact h) C H locs la hR hS hL) (fun h => kf (by rw [i32_0] at h; simp only [gt_iff_lt, ge_iff_le, ne_eq, i32_eq ha i32_r0, i32_lt ha i32_r0, i32_lt i32_r0 ha, i32_le ha i32_r0, i32_le i32_r0 ha, Int.not_lt, Int.not_le, Decidable.not_not] at h; exact h) C H locs la hR hS hL)
theorem v_icmp_ne {a b off : Int} (tgt : Nat) (hd : decode cc pc = .ok (.if_icmp .ne off, 3)) (ht : (pc : Int) + off = (tgt : Int)) (ha : R32 a) (hb : R32 b)
    (kt : ¬ a = b → V x Q G cc own sh n cl sl tgt ls st M) (kf : a = b → V x Q G cc own sh n cl sl (pc + 3) ls st M) : V x Q G cc own sh n cl sl pc ls (aI b :: aI a :: st) M :=
  fun C H locs la hR hS hL => lv_icmp_ne C.1 C.2.1 hd ht (fun h => kt (by simp only [gt_iff_lt, ge_iff_le, ne_eq, i32_eq ha hb, i32_lt ha hb, i32_lt hb ha, i32_le ha hb, i32_le hb ha, Int.not_lt, Int.not_le, Decidable.not_not] at h; exact h) C H locs la hR hS hL) (fun h => kf (by simp only [gt_iff_lt, ge_iff_le, ne_eq, i32_eq ha hb, i32_lt ha hb, i32_lt hb ha, i32_le ha hb, i32_le hb ha, Int.not_lt, Int.not_le, Decidable.not_not] at h; exact h) C H locs la hR hS hL)
theorem v_if_ne {a off : Int} (tgt : Nat) (hd : decode cc pc = .ok (.ifCond .ne off, 3)) (ht : (pc : Int) + off = (tgt : Int)) (ha : R32 a)
    (kt : ¬ a = 0 → V x Q G cc own sh n cl sl tgt ls st M) (kf : a = 0 → V x Q G cc own sh n cl sl (pc + 3) ls st M) : V x Q G cc own sh n cl sl pc ls (aI a :: st) M :=
  fun C H locs la hR hS hL => lv_if_ne C.1 C.2.1 hd ht (fun h => kt (by rw [i32_0] at h; simp only [gt_iff_lt, ge_iff_le, ne_eq, i32_eq ha i32_r0, i32_lt ha i32_r0, i32_lt i32_r0 ha, i32_le ha i32_r0, i32_le i32_r0 ha, Int.not_lt, Int.not_le, Decidable.not_not] at h; exact h) C H locs la hR hS hL) (fun h => kf (by rw [i32_0] at h; simp only [gt_iff_lt, ge_iff_le, ne_eq, i32_eq ha i32_r0, i32_lt ha i32_r0, i32_lt i32_r0 ha, i32_le ha i32_r0, i32_le i32_r0 ha, Int.not_lt, Int.not_le, Decidable.not_not] at h; exact h) C H locs la hR hS hL)
theorem v_icmp_lt {a b off : Int} (tgt : Nat) (hd : decode cc pc = .ok (.if_icmp .lt off, 3)) (ht : (pc : Int) + off = (tgt : Int)) (ha : R32 a) (hb : R32 b)
    (kt : a < b → V x Q G cc own sh n cl sl tgt ls st M) (kf : b ≤ a → V x Q G cc own sh n cl sl (pc + 3) ls st M) : V x Q G cc own sh n cl sl pc ls (aI b :: aI a :: st) M :=
  fun C H locs la hR hS hL => lv_icmp_lt C.1 C.2.1 hd ht (fun h => kt (by simp only [gt_iff_lt, ge_iff_le, ne_eq, i32_eq ha hb, i32_lt ha hb, i32_lt hb ha, i32_le ha hb, i32_le hb ha, Int.not_lt, Int.not_le, Decidable.not_not] at h; exact h) C H locs la hR hS hL) (fun h => kf (by simp only [gt_iff_lt, ge_iff_le, ne_eq, i32_eq ha hb, i32_lt ha hb, i32_lt hb ha, i32_le ha hb, i32_le hb ha, Int.not_lt, Int.not_le, Decidable.not_not] at h; exact h) C H locs la hR hS hL)
theorem v_if_lt {a off : Int} (tgt : Nat) (hd : decode cc pc = .ok (.ifCond .lt off, 3)) (ht : (pc : Int) + off = (tgt : Int)) (ha : R32 a)
    (kt : a < 0 → V x Q G cc own sh n cl sl tgt ls st M) (kf : 0 ≤ a → V x Q G cc own sh n cl sl (pc + 3) ls st M) : V x Q G cc own sh n cl sl pc ls (aI a :: st) M :=
  fun C H locs la hR hS hL => lv_if_lt C.1 C.2.1 hd ht (fun h => kt (by rw [i32_0] at h; simp only [gt_iff_lt, ge_iff_le, ne_eq, i32_eq ha i32_r0, i32_lt ha i32_r0, i32_lt i32_r0 ha, i32_le ha i32_r0, i32_le i32_r0 ha, Int.not_lt, Int.not_le, Decidable.not_not] at h; exact h) C H locs la hR hS hL) (fun h => kf (by rw [i32_0] at h; simp only [gt_iff_lt, ge_iff_le, ne_eq, i32_eq ha i32_r0, i32_lt ha i32_r0, i32_lt i32_r0 ha, i32_le ha i32_r0, i32_le i32_r0 ha, Int.not_lt, Int.not_le, Decidable.not_not] at h; exact h) C H locs la hR hS hL)
theorem v_icmp_ge {a b off : Int} (tgt : Nat) (hd : decode cc pc = .ok (.if_icmp .ge off, 3)) (ht : (pc : Int) + off = (tgt : Int)) (ha : R32 a) (hb : R32 b)
    (kt : b ≤ a → V x Q G cc own sh n cl sl tgt ls st M) (kf : a < b → V x Q G cc own sh n cl sl (pc + 3) ls st M) : V x Q G cc own sh n cl sl pc ls (aI b :: aI a :: st) M :=
  fun C H locs la hR hS hL => lv_icmp_ge C.1 C.2.1 hd ht (fun h => kt (by simp only [gt_iff_lt, ge_iff_le, ne_eq, i32_eq ha hb, i32_lt ha hb, i32_lt hb ha, i32_le ha hb, i32_le hb ha, Int.not_lt, Int.not_le, Decidable.not_not] at h; exact h) C H locs la hR hS hL) (fun h => kf (by simp only [gt_iff_lt, ge_iff_le, ne_eq, i32_eq ha hb, i32_lt ha hb, i32_lt hb ha, i32_le ha hb, i32_le hb ha, Int.not_lt, Int.not_le, Decidable.not_not] at h; exact h) C H locs la hR hS hL)
theorem v_if_ge {a off : Int} (tgt : Nat) (hd : decode cc pc = .ok (.ifCond .ge off, 3)) (ht : (pc : Int) + off = (tgt : Int)) (ha : R32 a)
    (kt : 0 ≤ a → V x Q G cc own sh n cl sl tgt ls st M) (kf : a < 0 → V x Q G cc own sh n cl sl (pc + 3) ls st M) : V x Q G cc own sh n cl sl pc ls (aI a :: st) M :=
  fun C H locs la hR hS hL => lv_if_ge C.1 C.2.1 hd ht (fun h => kt (by rw [i32_0] at h; simp only [gt_iff_lt, ge_iff_le, ne_eq, i32_eq ha i32_r0, i32_lt ha i32_r0, i32_lt i32_r0 ha, i32_le ha i32_r0, i32_le i32_r0 ha, Int.not_lt, Int.not_le, Decidable.not_not] at h; exact h) C H locs la hR hS hL) (fun h => kf (by rw [i32_0] at h; simp only [gt_iff_lt, ge_iff_le, ne_eq, i32_eq ha i32_r0, i32_lt ha i32_r0, i32_lt i32_r0 ha, i32_le ha i32_r0, i32_le i32_r0 ha, Int.not_lt, Int.not_le, Decidable.not_not] at h; exact h) C H locs la hR hS hL)
theorem v_icmp_gt {a b off : Int} (tgt : Nat) (hd : decode cc pc = .ok (.if_icmp .gt off, 3)) (ht : (pc : Int) + off = (tgt : Int)) (ha : R32 a) (hb : R32 b)
    (kt : b < a → V x Q G cc own sh n cl sl tgt ls st M) (kf : a ≤ b → V x Q G cc own sh n cl sl (pc + 3) ls st M) : V x Q G cc own sh n cl sl pc ls (aI b :: aI a :: st) M :=
  fun C H locs la hR hS hL => lv_icmp_gt C.1 C.2.1 hd ht (fun h => kt (by simp only [gt_iff_lt, ge_iff_le, ne_eq, i32_eq ha hb, i32_lt ha hb, i32_lt hb ha, i32_le ha hb, i32_le hb ha, Int.not_lt, Int.not_le, Decidable.not_not] at h; exact h) C H locs la hR hS hL) (fun h => kf (by simp only [gt_iff_lt, ge_iff_le, ne_eq, i32_eq ha hb, i32_lt ha hb, i32_lt hb ha, i32_le ha hb, i32_le hb ha, Int.not_lt, Int.not_le, Decidable.not_not] at h; exact h) C H locs la hR hS hL)
theorem v_if_gt {a off : Int} (tgt : Nat) (hd : decode cc pc = .ok (.ifCond .gt off, 3)) (ht : (pc : Int) + off = (tgt : Int)) (ha : R32 a)
    (kt : 0 < a → V x Q G cc own sh n cl sl tgt ls st M) (kf : a ≤ 0 → V x Q G cc own sh n cl sl (pc + 3) ls st M) : V x Q G cc own sh n cl sl pc ls (aI a :: st) M :=
  fun C H locs la hR hS hL => lv_if_gt C.1 C.2.1 hd ht (fun h => kt (by rw [i32_0] at h; simp only [gt_iff_lt, ge_iff_le, ne_eq, i32_eq ha i32_r0, i32_lt ha i32_r0, i32_lt i32_r0 ha, i32_le ha i32_r0, i32_le i32_r0 ha, Int.not_lt, Int.not_le, Decidable.not_not] at h; exact h) C H locs la hR hS hL) (fun h => kf (by rw [i32_0] at h; simp only [gt_iff_lt, ge_iff_le, ne_eq, i32_eq ha i32_r0, i32_lt ha i32_r0, i32_lt i32_r0 ha, i32_le ha i32_r0, i32_le i32_r0 ha, Int.not_lt, Int.not_le, Decidable.not_not] at h; exact h) C H locs la hR hS hL)
theorem v_icmp_le {a b off : Int} (tgt : Nat) (hd : decode cc pc = .ok (.if_icmp .le off, 3)) (ht : (pc : Int) + off = (tgt : Int)) (ha : R32 a) (hb : R32 b)
    (kt : a ≤ b → V x Q G cc own sh n cl sl tgt ls st M) (kf : b < a → V x Q G cc own sh n cl sl (pc + 3) ls st M) : V x Q G cc own sh n cl sl pc ls (aI b :: aI a :: st) M :=
  fun C H locs la hR hS hL => lv_icmp_le C.1 C.2.1 hd ht (fun h => kt (by simp only [gt_iff_lt, ge_iff_le, ne_eq, i32_eq ha hb, i32_lt ha hb, i32_lt hb ha, i32_le ha hb, i32_le hb ha, Int.not_lt, Int.not_le, Decidable.not_not] at h; exact h) C H locs la hR hS hL) (fun h => kf (by simp only [gt_iff_lt, ge_iff_le, ne_eq, i32_eq ha hb, i32_lt ha hb, i32_lt hb ha, i32_le ha hb, i32_le hb ha, Int.not_lt, Int.not_le, Decidable.not_not] at h; exact h) C H locs la hR hS hL)
theorem v_if_le {a off : Int} (tgt : Nat) (hd : decode cc pc = .ok (.ifCond .le off, 3)) (ht : (pc : Int) + off = (tgt : Int)) (ha : R32 a)
    (kt : a ≤ 0 → V x Q G cc own sh n cl sl tgt ls st M) (kf : 0 < a → V x Q G cc own sh n cl sl (pc + 3) ls st M) : V x Q G cc own sh n cl sl pc ls (aI a :: st) M :=
  fun C H locs la hR hS hL => lv_if_le C.1 C.2.1 hd ht (fun h => kt (by rw [i32_0] at h; simp only [gt_iff_lt, ge_iff_le, ne_eq, i32_eq ha i32_r0, i32_lt ha i32_r0, i32_lt i32_r0 ha, i32_le ha i32_r0, i32_le i32_r0 ha, Int.not_lt, Int.not_le, Decidable.not_not] at h; exact h) C H locs la hR hS hL) (fun h => kf (by rw [i32_0] at h; simp only [gt_iff_lt, ge_iff_le, ne_eq, i32_eq ha i32_r0, i32_lt ha i32_r0, i32_lt i32_r0 ha, i32_le ha i32_r0, i32_le i32_r0 ha, Int.not_lt, Int.not_le, Decidable.not_not] at h; exact h) C H locs la hR hS hL)
theorem v_goto {off : Int} (tgt : Nat) (hd : decode cc pc = .ok (.goto off, 3)) (ht : (pc : Int) + off = (tgt : Int)) (k : V x Q G cc own sh n cl sl tgt ls st M) : V x Q G cc own sh n cl sl pc ls st M :=
  fun C H locs la hR hS hL => lv_goto C.1 C.2.1 hd ht (k C H locs la hR hS hL)
theorem v_ifnull {off : Int} {i : Nat} (hd : decode cc pc = .ok (.ifnull off, 3)) (k : V x Q G cc own sh n cl sl (pc + 3) ls st M) : V x Q G cc own sh n cl sl pc ls (aR (some i) :: st) M :=
  fun C H locs la hR hS hL => lv_ifnull C.1 C.2.1 hd (k C H locs la hR hS hL)
theorem v_tableIn {dflt lo hi off z : Int} {offs : Array Int} {len : Nat} (tgt : Nat) (hd : decode cc pc = .ok (.tableswitch dflt lo hi offs, len)) (hz : R32 z) (h1 : lo ≤ z) (h2 : z ≤ hi) (ho : offs[(z - lo).toNat]? = some off) (ht : (pc : Int) + off = (tgt : Int))
    (k : V x Q G cc own sh n cl sl tgt ls st M) : V x Q G cc own sh n cl sl pc ls (aI z :: st) M :=
  fun C H locs la hR hS hL => lv_tableIn C.1 C.2.1 hd (by rw [show (Int32.ofInt z).toInt = z from vw_in hz]; omega) (by rw [show (Int32.ofInt z).toInt = z from vw_in hz]; omega) (by rw [show (Int32.ofInt z).toInt = z from vw_in hz]; exact ho) ht (k C H locs la hR hS hL)
theorem v_tableOut {dflt lo hi z : Int} {offs : Array Int} {len : Nat} (tgt : Nat) (hd : decode cc pc = .ok (.tableswitch dflt lo hi offs, len)) (hz : R32 z) (h : z < lo ∨ hi < z) (ht : (pc : Int) + dflt = (tgt : Int))
    (k : V x Q G cc own sh n cl sl tgt ls st M) : V x Q G cc own sh n cl sl pc ls (aI z :: st) M :=
  fun C H locs la hR hS hL => lv_tableOut C.1 C.2.1 hd (by rw [show (Int32.ofInt z).toInt = z from vw_in hz]; exact h) ht (k C H locs la hR hS hL)
theorem v_lookup {dflt off z : Int} {ps : Array (Int × Int)} {len : Nat} (tgt : Nat) (hd : decode cc pc = .ok (.lookupswitch dflt ps, len)) (hp : (ps.toList.zip (ps.toList.drop 1)).all (fun (a, next) => a.1 < next.1) = true) (hz : R32 z) (ho : Op.lookupswitch.offset ps.toList dflt z = off) (ht : (pc : Int) + off = (tgt : Int))
    (k : V x Q G cc own sh n cl sl tgt ls st M) : V x Q G cc own sh n cl sl pc ls (aI z :: st) M :=
  fun C H locs la hR hS hL => lv_lookup C.1 C.2.1 hd hp (by rw [show (Int32.ofInt z).toInt = z from vw_in hz]; exact ho) ht (k C H locs la hR hS hL)
theorem v_ist0 {a0 : Option AV} {r : List (Option AV)} {z : Int} (hd : decode cc pc = .ok (.istore_n 0, 1)) (k : V x Q G cc own sh n cl sl (pc + 1) (some (aI z) :: r) st M) : V x Q G cc own sh n cl sl pc (a0 :: r) (aI z :: st) M :=
  v_istore_n (j := 0) rfl hd (by simp) rfl k
theorem v_ist1 {a0 a1 : Option AV} {r : List (Option AV)} {z : Int} (hd : decode cc pc = .ok (.istore_n 1, 1)) (hn : vnl1 a0 = true) (k : V x Q G cc own sh n cl sl (pc + 1) (a0 :: some (aI z) :: r) st M) : V x Q G cc own sh n cl sl pc (a0 :: a1 :: r) (aI z :: st) M :=
  v_istore_n (j := 1) rfl hd (by simp) (by exact hn) k
theorem v_ist2 {a0 a1 a2 : Option AV} {r : List (Option AV)} {z : Int} (hd : decode cc pc = .ok (.istore_n 2, 1)) (hn : vnl1 a1 = true) (k : V x Q G cc own sh n cl sl (pc + 1) (a0 :: a1 :: some (aI z) :: r) st M) : V x Q G cc own sh n cl sl pc (a0 :: a1 :: a2 :: r) (aI z :: st) M :=
  v_istore_n (j := 2) rfl hd (by simp) (by exact hn) k
theorem v_ist3 {a0 a1 a2 a3 : Option AV} {r : List (Option AV)} {z : Int} (hd : decode cc pc = .ok (.istore_n 3, 1)) (hn : vnl1 a2 = true) (k : V x Q G cc own sh n cl sl (pc + 1) (a0 :: a1 :: a2 :: some (aI z) :: r) st M) : V x Q G cc own sh n cl sl pc (a0 :: a1 :: a2 :: a3 :: r) (aI z :: st) M :=
  v_istore_n (j := 3) rfl hd (by simp) (by exact hn) k
theorem v_ist4 {a0 a1 a2 a3 a4 : Option AV} {r : List (Option AV)} {z : Int} (hd : decode cc pc = .ok (.istore 4, 2)) (hn : vnl1 a3 = true) (k : V x Q G cc own sh n cl sl (pc + 2) (a0 :: a1 :: a2 :: a3 :: some (aI z) :: r) st M) : V x Q G cc own sh n cl sl pc (a0 :: a1 :: a2 :: a3 :: a4 :: r) (aI z :: st) M :=
  v_istore (j := 4) hd (by simp) (by exact hn) k
theorem v_ist5 {a0 a1 a2 a3 a4 a5 : Option AV} {r : List (Option AV)} {z : Int} (hd : decode cc pc = .ok (.istore 5, 2)) (hn : vnl1 a4 = true) (k : V x Q G cc own sh n cl sl (pc + 2) (a0 :: a1 :: a2 :: a3 :: a4 :: some (aI z) :: r) st M) : V x Q G cc own sh n cl sl pc (a0 :: a1 :: a2 :: a3 :: a4 :: a5 :: r) (aI z :: st) M :=
  v_istore (j := 5) hd (by simp) (by exact hn) k
theorem v_ist6 {a0 a1 a2 a3 a4 a5 a6 : Option AV} {r : List (Option AV)} {z : Int} (hd : decode cc pc = .ok (.istore 6, 2)) (hn : vnl1 a5 = true) (k : V x Q G cc own sh n cl sl (pc + 2) (a0 :: a1 :: a2 :: a3 :: a4 :: a5 :: some (aI z) :: r) st M) : V x Q G cc own sh n cl sl pc (a0 :: a1 :: a2 :: a3 :: a4 :: a5 :: a6 :: r) (aI z :: st) M :=
  v_istore (j := 6) hd (by simp) (by exact hn) k
theorem v_ist7 {a0 a1 a2 a3 a4 a5 a6 a7 : Option AV} {r : List (Option AV)} {z : Int} (hd : decode cc pc = .ok (.istore 7, 2)) (hn : vnl1 a6 = true) (k : V x Q G cc own sh n cl sl (pc + 2) (a0 :: a1 :: a2 :: a3 :: a4 :: a5 :: a6 :: some (aI z) :: r) st M) : V x Q G cc own sh n cl sl pc (a0 :: a1 :: a2 :: a3 :: a4 :: a5 :: a6 :: a7 :: r) (aI z :: st) M :=
  v_istore (j := 7) hd (by simp) (by exact hn) k
theorem v_ist8 {a0 a1 a2 a3 a4 a5 a6 a7 a8 : Option AV} {r : List (Option AV)} {z : Int} (hd : decode cc pc = .ok (.istore 8, 2)) (hn : vnl1 a7 = true) (k : V x Q G cc own sh n cl sl (pc + 2) (a0 :: a1 :: a2 :: a3 :: a4 :: a5 :: a6 :: a7 :: some (aI z) :: r) st M) : V x Q G cc own sh n cl sl pc (a0 :: a1 :: a2 :: a3 :: a4 :: a5 :: a6 :: a7 :: a8 :: r) (aI z :: st) M :=
  v_istore (j := 8) hd (by simp) (by exact hn) k
theorem v_ist9 {a0 a1 a2 a3 a4 a5 a6 a7 a8 a9 : Option AV} {r : List (Option AV)} {z : Int} (hd : decode cc pc = .ok (.istore 9, 2)) (hn : vnl1 a8 = true) (k : V x Q G cc own sh n cl sl (pc + 2) (a0 :: a1 :: a2 :: a3 :: a4 :: a5 :: a6 :: a7 :: a8 :: some (aI z) :: r) st M) : V x Q G cc own sh n cl sl pc (a0 :: a1 :: a2 :: a3 :: a4 :: a5 :: a6 :: a7 :: a8 :: a9 :: r) (aI z :: st) M :=
  v_istore (j := 9) hd (by simp) (by exact hn) k
theorem v_ist10 {a0 a1 a2 a3 a4 a5 a6 a7 a8 a9 a10 : Option AV} {r : List (Option AV)} {z : Int} (hd : decode cc pc = .ok (.istore 10, 2)) (hn : vnl1 a9 = true) (k : V x Q G cc own sh n cl sl (pc + 2) (a0 :: a1 :: a2 :: a3 :: a4 :: a5 :: a6 :: a7 :: a8 :: a9 :: some (aI z) :: r) st M) : V x Q G cc own sh n cl sl pc (a0 :: a1 :: a2 :: a3 :: a4 :: a5 :: a6 :: a7 :: a8 :: a9 :: a10 :: r) (aI z :: st) M :=
  v_istore (j := 10) hd (by simp) (by exact hn) k
theorem v_ist11 {a0 a1 a2 a3 a4 a5 a6 a7 a8 a9 a10 a11 : Option AV} {r : List (Option AV)} {z : Int} (hd : decode cc pc = .ok (.istore 11, 2)) (hn : vnl1 a10 = true) (k : V x Q G cc own sh n cl sl (pc + 2) (a0 :: a1 :: a2 :: a3 :: a4 :: a5 :: a6 :: a7 :: a8 :: a9 :: a10 :: some (aI z) :: r) st M) : V x Q G cc own sh n cl sl pc (a0 :: a1 :: a2 :: a3 :: a4 :: a5 :: a6 :: a7 :: a8 :: a9 :: a10 :: a11 :: r) (aI z :: st) M :=
  v_istore (j := 11) hd (by simp) (by exact hn) k
theorem v_ist12 {a0 a1 a2 a3 a4 a5 a6 a7 a8 a9 a10 a11 a12 : Option AV} {r : List (Option AV)} {z : Int} (hd : decode cc pc = .ok (.istore 12, 2)) (hn : vnl1 a11 = true) (k : V x Q G cc own sh n cl sl (pc + 2) (a0 :: a1 :: a2 :: a3 :: a4 :: a5 :: a6 :: a7 :: a8 :: a9 :: a10 :: a11 :: some (aI z) :: r) st M) : V x Q G cc own sh n cl sl pc (a0 :: a1 :: a2 :: a3 :: a4 :: a5 :: a6 :: a7 :: a8 :: a9 :: a10 :: a11 :: a12 :: r) (aI z :: st) M :=
  v_istore (j := 12) hd (by simp) (by exact hn) k
theorem v_ist13 {a0 a1 a2 a3 a4 a5 a6 a7 a8 a9 a10 a11 a12 a13 : Option AV} {r : List (Option AV)} {z : Int} (hd : decode cc pc = .ok (.istore 13, 2)) (hn : vnl1 a12 = true) (k : V x Q G cc own sh n cl sl (pc + 2) (a0 :: a1 :: a2 :: a3 :: a4 :: a5 :: a6 :: a7 :: a8 :: a9 :: a10 :: a11 :: a12 :: some (aI z) :: r) st M) : V x Q G cc own sh n cl sl pc (a0 :: a1 :: a2 :: a3 :: a4 :: a5 :: a6 :: a7 :: a8 :: a9 :: a10 :: a11 :: a12 :: a13 :: r) (aI z :: st) M :=
  v_istore (j := 13) hd (by simp) (by exact hn) k
theorem v_ast0 {a0 : Option AV} {r : List (Option AV)} {i : Nat} (hd : decode cc pc = .ok (.astore_n 0, 1)) (k : V x Q G cc own sh n cl sl (pc + 1) (some (aR (some i)) :: r) st M) : V x Q G cc own sh n cl sl pc (a0 :: r) (aR (some i) :: st) M :=
  v_astore_n (j := 0) rfl hd (by simp) rfl k
theorem v_ast1 {a0 a1 : Option AV} {r : List (Option AV)} {i : Nat} (hd : decode cc pc = .ok (.astore_n 1, 1)) (hn : vnl1 a0 = true) (k : V x Q G cc own sh n cl sl (pc + 1) (a0 :: some (aR (some i)) :: r) st M) : V x Q G cc own sh n cl sl pc (a0 :: a1 :: r) (aR (some i) :: st) M :=
  v_astore_n (j := 1) rfl hd (by simp) (by exact hn) k
theorem v_ast2 {a0 a1 a2 : Option AV} {r : List (Option AV)} {i : Nat} (hd : decode cc pc = .ok (.astore_n 2, 1)) (hn : vnl1 a1 = true) (k : V x Q G cc own sh n cl sl (pc + 1) (a0 :: a1 :: some (aR (some i)) :: r) st M) : V x Q G cc own sh n cl sl pc (a0 :: a1 :: a2 :: r) (aR (some i) :: st) M :=
  v_astore_n (j := 2) rfl hd (by simp) (by exact hn) k
theorem v_ast3 {a0 a1 a2 a3 : Option AV} {r : List (Option AV)} {i : Nat} (hd : decode cc pc = .ok (.astore_n 3, 1)) (hn : vnl1 a2 = true) (k : V x Q G cc own sh n cl sl (pc + 1) (a0 :: a1 :: a2 :: some (aR (some i)) :: r) st M) : V x Q G cc own sh n cl sl pc (a0 :: a1 :: a2 :: a3 :: r) (aR (some i) :: st) M :=
  v_astore_n (j := 3) rfl hd (by simp) (by exact hn) k
theorem v_ast4 {a0 a1 a2 a3 a4 : Option AV} {r : List (Option AV)} {i : Nat} (hd : decode cc pc = .ok (.astore 4, 2)) (hn : vnl1 a3 = true) (k : V x Q G cc own sh n cl sl (pc + 2) (a0 :: a1 :: a2 :: a3 :: some (aR (some i)) :: r) st M) : V x Q G cc own sh n cl sl pc (a0 :: a1 :: a2 :: a3 :: a4 :: r) (aR (some i) :: st) M :=
  v_astore (j := 4) hd (by simp) (by exact hn) k
theorem v_ast5 {a0 a1 a2 a3 a4 a5 : Option AV} {r : List (Option AV)} {i : Nat} (hd : decode cc pc = .ok (.astore 5, 2)) (hn : vnl1 a4 = true) (k : V x Q G cc own sh n cl sl (pc + 2) (a0 :: a1 :: a2 :: a3 :: a4 :: some (aR (some i)) :: r) st M) : V x Q G cc own sh n cl sl pc (a0 :: a1 :: a2 :: a3 :: a4 :: a5 :: r) (aR (some i) :: st) M :=
  v_astore (j := 5) hd (by simp) (by exact hn) k
theorem v_ast6 {a0 a1 a2 a3 a4 a5 a6 : Option AV} {r : List (Option AV)} {i : Nat} (hd : decode cc pc = .ok (.astore 6, 2)) (hn : vnl1 a5 = true) (k : V x Q G cc own sh n cl sl (pc + 2) (a0 :: a1 :: a2 :: a3 :: a4 :: a5 :: some (aR (some i)) :: r) st M) : V x Q G cc own sh n cl sl pc (a0 :: a1 :: a2 :: a3 :: a4 :: a5 :: a6 :: r) (aR (some i) :: st) M :=
  v_astore (j := 6) hd (by simp) (by exact hn) k
theorem v_ast7 {a0 a1 a2 a3 a4 a5 a6 a7 : Option AV} {r : List (Option AV)} {i : Nat} (hd : decode cc pc = .ok (.astore 7, 2)) (hn : vnl1 a6 = true) (k : V x Q G cc own sh n cl sl (pc + 2) (a0 :: a1 :: a2 :: a3 :: a4 :: a5 :: a6 :: some (aR (some i)) :: r) st M) : V x Q G cc own sh n cl sl pc (a0 :: a1 :: a2 :: a3 :: a4 :: a5 :: a6 :: a7 :: r) (aR (some i) :: st) M :=
  v_astore (j := 7) hd (by simp) (by exact hn) k
theorem v_ast8 {a0 a1 a2 a3 a4 a5 a6 a7 a8 : Option AV} {r : List (Option AV)} {i : Nat} (hd : decode cc pc = .ok (.astore 8, 2)) (hn : vnl1 a7 = true) (k : V x Q G cc own sh n cl sl (pc + 2) (a0 :: a1 :: a2 :: a3 :: a4 :: a5 :: a6 :: a7 :: some (aR (some i)) :: r) st M) : V x Q G cc own sh n cl sl pc (a0 :: a1 :: a2 :: a3 :: a4 :: a5 :: a6 :: a7 :: a8 :: r) (aR (some i) :: st) M :=
  v_astore (j := 8) hd (by simp) (by exact hn) k
theorem v_ast9 {a0 a1 a2 a3 a4 a5 a6 a7 a8 a9 : Option AV} {r : List (Option AV)} {i : Nat} (hd : decode cc pc = .ok (.astore 9, 2)) (hn : vnl1 a8 = true) (k : V x Q G cc own sh n cl sl (pc + 2) (a0 :: a1 :: a2 :: a3 :: a4 :: a5 :: a6 :: a7 :: a8 :: some (aR (some i)) :: r) st M) : V x Q G cc own sh n cl sl pc (a0 :: a1 :: a2 :: a3 :: a4 :: a5 :: a6 :: a7 :: a8 :: a9 :: r) (aR (some i) :: st) M :=
  v_astore (j := 9) hd (by simp) (by exact hn) k
theorem v_ast10 {a0 a1 a2 a3 a4 a5 a6 a7 a8 a9 a10 : Option AV} {r : List (Option AV)} {i : Nat} (hd : decode cc pc = .ok (.astore 10, 2)) (hn : vnl1 a9 = true) (k : V x Q G cc own sh n cl sl (pc + 2) (a0 :: a1 :: a2 :: a3 :: a4 :: a5 :: a6 :: a7 :: a8 :: a9 :: some (aR (some i)) :: r) st M) : V x Q G cc own sh n cl sl pc (a0 :: a1 :: a2 :: a3 :: a4 :: a5 :: a6 :: a7 :: a8 :: a9 :: a10 :: r) (aR (some i) :: st) M :=
  v_astore (j := 10) hd (by simp) (by exact hn) k
theorem v_ast11 {a0 a1 a2 a3 a4 a5 a6 a7 a8 a9 a10 a11 : Option AV} {r : List (Option AV)} {i : Nat} (hd : decode cc pc = .ok (.astore 11, 2)) (hn : vnl1 a10 = true) (k : V x Q G cc own sh n cl sl (pc + 2) (a0 :: a1 :: a2 :: a3 :: a4 :: a5 :: a6 :: a7 :: a8 :: a9 :: a10 :: some (aR (some i)) :: r) st M) : V x Q G cc own sh n cl sl pc (a0 :: a1 :: a2 :: a3 :: a4 :: a5 :: a6 :: a7 :: a8 :: a9 :: a10 :: a11 :: r) (aR (some i) :: st) M :=
  v_astore (j := 11) hd (by simp) (by exact hn) k
theorem v_ast12 {a0 a1 a2 a3 a4 a5 a6 a7 a8 a9 a10 a11 a12 : Option AV} {r : List (Option AV)} {i : Nat} (hd : decode cc pc = .ok (.astore 12, 2)) (hn : vnl1 a11 = true) (k : V x Q G cc own sh n cl sl (pc + 2) (a0 :: a1 :: a2 :: a3 :: a4 :: a5 :: a6 :: a7 :: a8 :: a9 :: a10 :: a11 :: some (aR (some i)) :: r) st M) : V x Q G cc own sh n cl sl pc (a0 :: a1 :: a2 :: a3 :: a4 :: a5 :: a6 :: a7 :: a8 :: a9 :: a10 :: a11 :: a12 :: r) (aR (some i) :: st) M :=
  v_astore (j := 12) hd (by simp) (by exact hn) k
theorem v_ast13 {a0 a1 a2 a3 a4 a5 a6 a7 a8 a9 a10 a11 a12 a13 : Option AV} {r : List (Option AV)} {i : Nat} (hd : decode cc pc = .ok (.astore 13, 2)) (hn : vnl1 a12 = true) (k : V x Q G cc own sh n cl sl (pc + 2) (a0 :: a1 :: a2 :: a3 :: a4 :: a5 :: a6 :: a7 :: a8 :: a9 :: a10 :: a11 :: a12 :: some (aR (some i)) :: r) st M) : V x Q G cc own sh n cl sl pc (a0 :: a1 :: a2 :: a3 :: a4 :: a5 :: a6 :: a7 :: a8 :: a9 :: a10 :: a11 :: a12 :: a13 :: r) (aR (some i) :: st) M :=
  v_astore (j := 13) hd (by simp) (by exact hn) k
theorem v_iinc0 {r : List (Option AV)} {z d : Int} (hd : decode cc pc = .ok (.iinc 0 d, 3)) (k : V x Q G cc own sh n cl sl (pc + 3) (some (aI (z + d)) :: r) st M) : V x Q G cc own sh n cl sl pc (some (aI z) :: r) st M :=
  v_iinc (j := 0) hd rfl rfl k
theorem v_iinc1 {a0 : Option AV} {r : List (Option AV)} {z d : Int} (hd : decode cc pc = .ok (.iinc 1 d, 3)) (hn : vnl1 a0 = true) (k : V x Q G cc own sh n cl sl (pc + 3) (a0 :: some (aI (z + d)) :: r) st M) : V x Q G cc own sh n cl sl pc (a0 :: some (aI z) :: r) st M :=
  v_iinc (j := 1) hd rfl (by exact hn) k
theorem v_iinc2 {a0 a1 : Option AV} {r : List (Option AV)} {z d : Int} (hd : decode cc pc = .ok (.iinc 2 d, 3)) (hn : vnl1 a1 = true) (k : V x Q G cc own sh n cl sl (pc + 3) (a0 :: a1 :: some (aI (z + d)) :: r) st M) : V x Q G cc own sh n cl sl pc (a0 :: a1 :: some (aI z) :: r) st M :=
  v_iinc (j := 2) hd rfl (by exact hn) k
theorem v_iinc3 {a0 a1 a2 : Option AV} {r : List (Option AV)} {z d : Int} (hd : decode cc pc = .ok (.iinc 3 d, 3)) (hn : vnl1 a2 = true) (k : V x Q G cc own sh n cl sl (pc + 3) (a0 :: a1 :: a2 :: some (aI (z + d)) :: r) st M) : V x Q G cc own sh n cl sl pc (a0 :: a1 :: a2 :: some (aI z) :: r) st M :=
  v_iinc (j := 3) hd rfl (by exact hn) k
theorem v_iinc4 {a0 a1 a2 a3 : Option AV} {r : List (Option AV)} {z d : Int} (hd : decode cc pc = .ok (.iinc 4 d, 3)) (hn : vnl1 a3 = true) (k : V x Q G cc own sh n cl sl (pc + 3) (a0 :: a1 :: a2 :: a3 :: some (aI (z + d)) :: r) st M) : V x Q G cc own sh n cl sl pc (a0 :: a1 :: a2 :: a3 :: some (aI z) :: r) st M :=
  v_iinc (j := 4) hd rfl (by exact hn) k
theorem v_iinc5 {a0 a1 a2 a3 a4 : Option AV} {r : List (Option AV)} {z d : Int} (hd : decode cc pc = .ok (.iinc 5 d, 3)) (hn : vnl1 a4 = true) (k : V x Q G cc own sh n cl sl (pc + 3) (a0 :: a1 :: a2 :: a3 :: a4 :: some (aI (z + d)) :: r) st M) : V x Q G cc own sh n cl sl pc (a0 :: a1 :: a2 :: a3 :: a4 :: some (aI z) :: r) st M :=
  v_iinc (j := 5) hd rfl (by exact hn) k
theorem v_iinc6 {a0 a1 a2 a3 a4 a5 : Option AV} {r : List (Option AV)} {z d : Int} (hd : decode cc pc = .ok (.iinc 6 d, 3)) (hn : vnl1 a5 = true) (k : V x Q G cc own sh n cl sl (pc + 3) (a0 :: a1 :: a2 :: a3 :: a4 :: a5 :: some (aI (z + d)) :: r) st M) : V x Q G cc own sh n cl sl pc (a0 :: a1 :: a2 :: a3 :: a4 :: a5 :: some (aI z) :: r) st M :=
  v_iinc (j := 6) hd rfl (by exact hn) k
theorem v_iinc7 {a0 a1 a2 a3 a4 a5 a6 : Option AV} {r : List (Option AV)} {z d : Int} (hd : decode cc pc = .ok (.iinc 7 d, 3)) (hn : vnl1 a6 = true) (k : V x Q G cc own sh n cl sl (pc + 3) (a0 :: a1 :: a2 :: a3 :: a4 :: a5 :: a6 :: some (aI (z + d)) :: r) st M) : V x Q G cc own sh n cl sl pc (a0 :: a1 :: a2 :: a3 :: a4 :: a5 :: a6 :: some (aI z) :: r) st M :=
  v_iinc (j := 7) hd rfl (by exact hn) k
theorem v_iinc8 {a0 a1 a2 a3 a4 a5 a6 a7 : Option AV} {r : List (Option AV)} {z d : Int} (hd : decode cc pc = .ok (.iinc 8 d, 3)) (hn : vnl1 a7 = true) (k : V x Q G cc own sh n cl sl (pc + 3) (a0 :: a1 :: a2 :: a3 :: a4 :: a5 :: a6 :: a7 :: some (aI (z + d)) :: r) st M) : V x Q G cc own sh n cl sl pc (a0 :: a1 :: a2 :: a3 :: a4 :: a5 :: a6 :: a7 :: some (aI z) :: r) st M :=
  v_iinc (j := 8) hd rfl (by exact hn) k
theorem v_iinc9 {a0 a1 a2 a3 a4 a5 a6 a7 a8 : Option AV} {r : List (Option AV)} {z d : Int} (hd : decode cc pc = .ok (.iinc 9 d, 3)) (hn : vnl1 a8 = true) (k : V x Q G cc own sh n cl sl (pc + 3) (a0 :: a1 :: a2 :: a3 :: a4 :: a5 :: a6 :: a7 :: a8 :: some (aI (z + d)) :: r) st M) : V x Q G cc own sh n cl sl pc (a0 :: a1 :: a2 :: a3 :: a4 :: a5 :: a6 :: a7 :: a8 :: some (aI z) :: r) st M :=
  v_iinc (j := 9) hd rfl (by exact hn) k
theorem v_iinc10 {a0 a1 a2 a3 a4 a5 a6 a7 a8 a9 : Option AV} {r : List (Option AV)} {z d : Int} (hd : decode cc pc = .ok (.iinc 10 d, 3)) (hn : vnl1 a9 = true) (k : V x Q G cc own sh n cl sl (pc + 3) (a0 :: a1 :: a2 :: a3 :: a4 :: a5 :: a6 :: a7 :: a8 :: a9 :: some (aI (z + d)) :: r) st M) : V x Q G cc own sh n cl sl pc (a0 :: a1 :: a2 :: a3 :: a4 :: a5 :: a6 :: a7 :: a8 :: a9 :: some (aI z) :: r) st M :=
  v_iinc (j := 10) hd rfl (by exact hn) k
theorem v_iinc11 {a0 a1 a2 a3 a4 a5 a6 a7 a8 a9 a10 : Option AV} {r : List (Option AV)} {z d : Int} (hd : decode cc pc = .ok (.iinc 11 d, 3)) (hn : vnl1 a10 = true) (k : V x Q G cc own sh n cl sl (pc + 3) (a0 :: a1 :: a2 :: a3 :: a4 :: a5 :: a6 :: a7 :: a8 :: a9 :: a10 :: some (aI (z + d)) :: r) st M) : V x Q G cc own sh n cl sl pc (a0 :: a1 :: a2 :: a3 :: a4 :: a5 :: a6 :: a7 :: a8 :: a9 :: a10 :: some (aI z) :: r) st M :=
  v_iinc (j := 11) hd rfl (by exact hn) k
theorem v_iinc12 {a0 a1 a2 a3 a4 a5 a6 a7 a8 a9 a10 a11 : Option AV} {r : List (Option AV)} {z d : Int} (hd : decode cc pc = .ok (.iinc 12 d, 3)) (hn : vnl1 a11 = true) (k : V x Q G cc own sh n cl sl (pc + 3) (a0 :: a1 :: a2 :: a3 :: a4 :: a5 :: a6 :: a7 :: a8 :: a9 :: a10 :: a11 :: some (aI (z + d)) :: r) st M) : V x Q G cc own sh n cl sl pc (a0 :: a1 :: a2 :: a3 :: a4 :: a5 :: a6 :: a7 :: a8 :: a9 :: a10 :: a11 :: some (aI z) :: r) st M :=
  v_iinc (j := 12) hd rfl (by exact hn) k
theorem v_iinc13 {a0 a1 a2 a3 a4 a5 a6 a7 a8 a9 a10 a11 a12 : Option AV} {r : List (Option AV)} {z d : Int} (hd : decode cc pc = .ok (.iinc 13 d, 3)) (hn : vnl1 a12 = true) (k : V x Q G cc own sh n cl sl (pc + 3) (a0 :: a1 :: a2 :: a3 :: a4 :: a5 :: a6 :: a7 :: a8 :: a9 :: a10 :: a11 :: a12 :: some (aI (z + d)) :: r) st M) : V x Q G cc own sh n cl sl pc (a0 :: a1 :: a2 :: a3 :: a4 :: a5 :: a6 :: a7 :: a8 :: a9 :: a10 :: a11 :: a12 :: some (aI z) :: r) st M :=
  v_iinc (j := 13) hd rfl (by exact hn) k
end VR
end
section
/-! ===== rules that read or write the memory ===== -/
def vup {α : Type} (f : Nat → Nat → α) (i k : Nat) (v : α) : Nat → Nat → α := fun a b => if a = i ∧ b = k then v else f a b
theorem vup_self {α : Type} (f : Nat → Nat → α) (i k : Nat) (v : α) : vup f i k v i k = v := if_pos ⟨rfl, rfl⟩
theorem vup_ne {α : Type} (f : Nat → Nat → α) {i k a b : Nat} (v : α) (h : a = i → b ≠ k) : vup f i k v a b = f a b := if_neg fun q => h q.1 q.2
theorem vup_nid {α : Type} (f : Nat → Nat → α) {i k a : Nat} (v : α) (b : Nat) (h : a ≠ i) : vup f i k v a b = f a b := if_neg fun q => h q.1
theorem vcls0 : ∀ w ∈ u_ws RX0 TX0 20, w ∈ vGT := by decide +kernel
theorem vcls1 : ∀ w ∈ u_ws RX1 TX1 7, w ∈ vGT := by decide +kernel
theorem vcls2 : ∀ w ∈ u_ws RX2 TX2 6, w ∈ vGT := by decide +kernel
theorem vcls3 : ∀ w ∈ u_ws RX3 TX3 9, w ∈ vGT := by decide +kernel
theorem vcls4 : ∀ w ∈ u_ws RX4 TX4 22, w ∈ vGT := by decide +kernel
theorem vcls {ci : Nat} {r : vw_C} (h : vwCl[ci]? = some r) : (∀ w ∈ u_ws r.1 r.2.1 r.2.2, w ∈ vGT) ∧ (∀ k, k < r.2.2 → parseFieldDescriptor (r.2.1 k).2.2.1 = some (vtyF ci k)) ∧ ∀ a, a < r.2.2 → ∀ b, b < r.2.2 → a ≠ b → (r.2.1 a).2.1 ≠ (r.2.1 b).2.1 := by
  match ci, h with
  | 0, h => cases h; exact ⟨vcls0, tyX0_ok, nmX0⟩
  | 1, h => cases h; exact ⟨vcls1, tyX1_ok, nmX1⟩
  | 2, h => cases h; exact ⟨vcls2, tyX2_ok, nmX2⟩
  | 3, h => cases h; exact ⟨vcls3, tyX3_ok, nmX3⟩
  | 4, h => cases h; exact ⟨vcls4, tyX4_ok, nmX4⟩
  | n + 5, h => simp at h
def vLk (own : String) (idx ci k : Nat) : Prop := ∃ r : vw_C, vwCl[ci]? = some r ∧ k < r.2.2 ∧ (Cond.fieldLink own idx (r.2.1 k).1 (r.2.1 k).2.1 (r.2.1 k).2.2.1 ∈ vGT ∨ ∃ host, Cond.fieldLinkNest own idx (r.2.1 k).1 (r.2.1 k).2.1 (r.2.1 k).2.2.1 host ∈ vNW)
def vLp (own : String) (idx ci k : Nat) : Prop := ∃ r : vw_C, vwCl[ci]? = some r ∧ k < r.2.2 ∧ (r.2.1 k).2.2.2 = false ∧ (Cond.fieldLink own idx (r.2.1 k).1 (r.2.1 k).2.1 (r.2.1 k).2.2.1 ∈ vGT ∨ ∃ host, Cond.fieldLinkNest own idx (r.2.1 k).1 (r.2.1 k).2.1 (r.2.1 k).2.2.1 host ∈ vNW)
def vLf (own : String) (idx ci k : Nat) : Prop := ∃ r : vw_C, vwCl[ci]? = some r ∧ k < r.2.2 ∧ (r.2.1 k).2.2.2 = true ∧ (r.2.1 k).1 = own ∧ Cond.fieldLink own idx (r.2.1 k).1 (r.2.1 k).2.1 (r.2.1 k).2.2.1 ∈ vGT
theorem vidx {j : Int} {len : Nat} (h : 0 ≤ j ∧ j < (len : Int) ∧ len ≤ 2147483647) : (Int32.ofInt j).toNatClampNeg = j.toNat ∧ ¬ (Int32.ofInt j < 0 ∨ len ≤ (Int32.ofInt j).toNatClampNeg) := by
  have e := Int32.toNatClampNeg_ofInt_of_le (n := j) (by omega) (by omega)
  refine ⟨e, fun q => ?_⟩
  rcases q with q | q
  · rw [i32_0, i32_lt (by omega) i32_r0] at q
    omega
  · rw [e] at q
    omega
theorem vArr {G : vGG} {U : State} {sh : Nat → Option Shp} {n : Nat} {M : Mem} {H : Heap} (hR : vRel G U sh n M H) (hK : vKF G U) {i kd len : Nat} (hkd : kd ≤ 2) (hs : sh i = some (.inr (kd, len))) :
    ∃ cell : Cell, H[vad G i]? = some cell ∧ U.isArrayOf cell (vkt kd) ∧ cell.vm ≠ .unknown ∧ cell.slots.size = len ∧ ∀ j, j < len → cell.slots[j]? = some (vav G kd M i j) := by
  have h := hR.2.2.2.2 i _ hs
  by_cases hi : i < 1000
  · refine ⟨_, h.1 hi, ?_, (fun q => by cases q), arrV_size _ _ _, fun j hj => arrV_read _ _ hj⟩
    have hA : ArrOfT U (G.2.1 kd) (vkt kd) := by
      match kd, hkd with
      | 0, _ => exact (hK.1.2 0 _ rfl).1
      | 1, _ => exact (hK.1.2 1 _ rfl).1
      | 2, _ => exact (hK.1.2 2 _ rfl).1
    exact hA len _
  · obtain ⟨h0, cell, c1, c2, c3, c4, c5⟩ := h.2 (by omega)
    simp only at h0
    subst h0
    exact ⟨cell, c1, c2, c3, c4, fun j hj => by rw [c5 j hj]; simp [vav]⟩
section VM
variable {x : vXX} {Q : State → Prop} {G : vGG} {cc : ByteArray} {own : String} {sh : Nat → Option Shp} {n cl sl pc : Nat} {ls : List (Option AV)} {st : List AV} {M : Mem}
theorem v_get0 {idx ci k i : Nat} {v : AV} (hf : vLk own idx ci k) (hs : sh i = some (.inl ci)) (hv : vfv G ci M i k = vrv G v) (hd : decode cc pc = .ok (.getfield idx, 3))
    (kk : V x Q G cc own sh n cl sl (pc + 3) ls (v :: st) M) : V x Q G cc own sh n cl sl pc ls (aR (some i) :: st) M := fun C H locs la hR hS hL => by
  obtain ⟨r, hr, hk, hlink⟩ := hf
  obtain ⟨hi, r', hr', cell, q1, q2, q3, q4⟩ := hR.2.2.2.2 i _ hs
  obtain rfl : r = r' := Option.some.inj (hr.symm.trans hr')
  obtain ⟨hcw, -, -⟩ := vcls hr
  have hts := C.2.2.2.2.1
  obtain ⟨hS1, hfc, kC, hkC, hkind⟩ := C.2.2.2.2.2.1.1.1 ci _ hr
  obtain ⟨cf, kf, fi, f, hif, hsl⟩ := hS1 k hk
  have hst := (u_facts hfc hkC (u_lays hts hcw hk) hif).1
  have hslot : cell.slots[f.slot]? = some (vrv G v) := by rw [hsl, q4 k hk, hv]
  have K := kk C H locs la hR hS hL
  rcases hlink with hl | ⟨host, hl⟩
  · exact W.getf C.1 C.2.1 C.2.2.2.1 (hts _ hl) hif hst q1 (by rw [q3]; exact fun h => by cases h) hslot rfl rfl hd K
  · exact va_Wgetf C.1 C.2.1 C.2.2.2.1 (va_Nw.use rfl (C.2.2.2.2.2.1.2.1 _ hl)) hif hst q1 (by rw [q3]; exact fun h => by cases h) hslot rfl rfl hd K
theorem v_getI {idx ci k i : Nat} (hf : vLk own idx ci k) (hr : vrefF ci k = false) (hs : sh i = some (.inl ci)) (hd : decode cc pc = .ok (.getfield idx, 3))
    (kk : V x Q G cc own sh n cl sl (pc + 3) ls (aI (M.1 i k) :: st) M) : V x Q G cc own sh n cl sl pc ls (aR (some i) :: st) M := v_get0 (v := aI (M.1 i k)) hf hs (by simp [vfv, hr, vrv]) hd kk
theorem v_getR {idx ci k i j : Nat} (hf : vLk own idx ci k) (hr : vrefF ci k = true) (hs : sh i = some (.inl ci)) (hj : M.2 i k = some j) (hd : decode cc pc = .ok (.getfield idx, 3))
    (kk : V x Q G cc own sh n cl sl (pc + 3) ls (aR (some j) :: st) M) : V x Q G cc own sh n cl sl pc ls (aR (some i) :: st) M := v_get0 (v := aR (some j)) hf hs (by simp [vfv, hr, vrv, hj]) hd kk
theorem v_put0 {idx ci k i : Nat} {v : AV} {M' : Mem} (hf : vLp own idx ci k) (hs : sh i = some (.inl ci)) (hn : narrow (vtyF ci k) (vrv G v) = vrv G v) (hfit : fits (vtyF ci k) (vrv G v) = true)
    (h1 : ∀ j, j ≠ i → ∀ k, M'.1 j k = M.1 j k) (h2 : ∀ j, j ≠ i → ∀ k, M'.2 j k = M.2 j k) (hM : ∀ j, vfv G ci M' i j = updV (vfv G ci M i) k (vrv G v) j) (hd : decode cc pc = .ok (.putfield idx, 3))
    (kk : V x Q G cc own sh n cl sl (pc + 3) ls st M') : V x Q G cc own sh n cl sl pc ls (v :: aR (some i) :: st) M := fun C H locs la hR hS hL => by
  obtain ⟨r, hr, hk, hfin, hlink⟩ := hf
  obtain ⟨hi, r', hr', cell, q1, q2, q3, q4⟩ := hR.2.2.2.2 i _ hs
  obtain rfl : r = r' := Option.some.inj (hr.symm.trans hr')
  obtain ⟨hcw, hty, hnm⟩ := vcls hr
  have hts := C.2.2.2.2.1
  have hK := C.2.2.2.2.2.1.1
  have hap := va_apart (own := own) hts hcw (vtyF ci) hty hnm hK hr
  obtain ⟨hS1, hfc, kC, hkC, hkind⟩ := hK.1 ci _ hr
  obtain ⟨cf, kf, fi, f, hif, hsl⟩ := hS1 k hk
  have hlay := hts _ (hcw _ (u_in_lay hk))
  unfold u_lay at hlay
  rw [if_neg (by rw [hfin]; decide)] at hlay
  have hst := (u_facts hfc hkC (u_lays hts hcw hk) hif).1
  have h6 := u_store hfc hkC hkind hlay hif (hty k hk) hn hfit
  have hA : vnew G (vad G i) := by show G.2.2.1 ≤ vad G i; rw [vad_lo hi]; omega
  have fin : ∀ H' : Heap, H'[vad G i]? = some (cell.setSlot f.slot (vrv G v)) → H'.size = H.size → (∀ q, q ≠ vad G i → H'[q]? = H[q]?) → vRel G (xs x) sh n M' H' := by
    intro H' e1 e2 e3
    rw [hsl] at e1
    refine hR.put hi e2 e3 h1 h2 (fun y hy => ?_)
    rw [hs] at hy
    cases hy
    exact ⟨hi, r, hr, t_OB.to (V := updV (vfv G ci M i) k (vrv G v)) ⟨_, e1, q2, q3, t_set q4 hap hk (vrv G v)⟩ (fun j _ => (hM j).symm)⟩
  rcases hlink with hl | ⟨host, hl⟩
  · exact W.putK C.1 C.2.1 (f := f) ⟨C.2.2.2.1, hts _ hl, ⟨_, _, _, hif⟩, hst⟩ (by rw [q2]; exact h6) q1 q3 (by rw [hsl]; exact k2_hasslot (q4 k hk)) rfl rfl hd fun H' e1 e2 e3 => kk C H' _ la (fin H' e1 e2 e3) (hS.put e2 e3 hA) hL
  · exact va_WputK C.1 C.2.1 (f := f) C.2.2.2.1 (va_Nw.use rfl (C.2.2.2.2.2.1.2.1 _ hl)) hif hst (by rw [q2]; exact h6) q1 q3 (by rw [hsl]; exact k2_hasslot (q4 k hk)) rfl rfl hd fun H' e1 e2 e3 => kk C H' _ la (fin H' e1 e2 e3) (hS.put e2 e3 hA) hL
theorem v_putF0 {idx ci k i : Nat} {v : AV} {M' : Mem} (hin : (xM x).name = "<init>") (hf : vLf own idx ci k) (hs : sh i = some (.inl ci)) (hn : narrow (vtyF ci k) (vrv G v) = vrv G v) (hfit : fits (vtyF ci k) (vrv G v) = true)
    (h1 : ∀ j, j ≠ i → ∀ k, M'.1 j k = M.1 j k) (h2 : ∀ j, j ≠ i → ∀ k, M'.2 j k = M.2 j k) (hM : ∀ j, vfv G ci M' i j = updV (vfv G ci M i) k (vrv G v) j) (hd : decode cc pc = .ok (.putfield idx, 3))
    (kk : V x Q G cc own sh n cl sl (pc + 3) ls st M') : V x Q G cc own sh n cl sl pc ls (v :: aR (some i) :: st) M := fun C H locs la hR hS hL => by
  obtain ⟨r, hr, hk, hfin, hdecl, hl⟩ := hf
  obtain ⟨hi, r', hr', cell, q1, q2, q3, q4⟩ := hR.2.2.2.2 i _ hs
  obtain rfl : r = r' := Option.some.inj (hr.symm.trans hr')
  obtain ⟨hcw, hty, hnm⟩ := vcls hr
  have hts := C.2.2.2.2.1
  have hK := C.2.2.2.2.2.1.1
  have hown := C.2.2.2.1
  have hap := va_apart (own := own) hts hcw (vtyF ci) hty hnm hK hr
  obtain ⟨hS1, hfc, kC, hkC, hkind⟩ := hK.1 ci _ hr
  obtain ⟨cf, kf, fi, f, hif, hsl⟩ := hS1 k hk
  have hlay := hts _ (hcw _ (u_in_lay hk))
  unfold u_lay at hlay
  rw [if_pos hfin] at hlay
  have hst := (u_facts hfc hkC (u_lays hts hcw hk) hif).1
  have hcf : (xm x).cls = cf := by
    obtain ⟨_, _, c', _, _, _, -, -, hf', -, -, -, hown2, -⟩ := Cond.laysFinal_spec hlay
    have e1 : c' = cf := by have := hif.symm.trans hf'; simp at this; exact this.1.symm
    rw [hdecl] at hown2
    rw [← e1]; exact Option.some.inj (hown.symm.trans hown2)
  have h6 := u_fits hfc hkC hkind (Or.inr hlay) hif (hty k hk) hn hfit
  have hA : vnew G (vad G i) := by show G.2.2.1 ≤ vad G i; rw [vad_lo hi]; omega
  refine W.putFinK C.1 C.2.1 hown (hts _ hl) hif hst hcf hin (by rw [q2]; exact h6) q1 q3 (by rw [hsl]; exact k2_hasslot (q4 k hk)) rfl rfl hd fun H' e1 e2 e3 => kk C H' _ la ?_ (hS.put e2 e3 hA) hL
  rw [hsl] at e1
  refine hR.put hi e2 e3 h1 h2 (fun y hy => ?_)
  rw [hs] at hy
  cases hy
  exact ⟨hi, r, hr, t_OB.to (V := updV (vfv G ci M i) k (vrv G v)) ⟨_, e1, q2, q3, t_set q4 hap hk (vrv G v)⟩ (fun j _ => (hM j).symm)⟩
theorem vfv_upI {ci i k : Nat} {z : Int} (hr : vrefF ci k = false) (j : Nat) : vfv G ci (vup M.1 i k z, M.2) i j = updV (vfv G ci M i) k (vrv G (aI z)) j := by
  by_cases hj : j = k
  · subst hj; simp [vfv, hr, updV, vup, vrv]
  · simp [vfv, updV, vup, hj]
theorem vfv_upR {ci i k v : Nat} (hr : vrefF ci k = true) (j : Nat) : vfv G ci (M.1, vup M.2 i k (some v)) i j = updV (vfv G ci M i) k (vrv G (aR (some v))) j := by
  by_cases hj : j = k
  · subst hj; simp [vfv, hr, updV, vup, vrv]
  · simp [vfv, updV, vup, hj]
theorem v_putI {idx ci k i : Nat} {z : Int} (hf : vLp own idx ci k) (hr : vrefF ci k = false) (ht : vtyF ci k = .int) (hs : sh i = some (.inl ci)) (hd : decode cc pc = .ok (.putfield idx, 3))
    (kk : V x Q G cc own sh n cl sl (pc + 3) ls st (vup M.1 i k z, M.2)) : V x Q G cc own sh n cl sl pc ls (aI z :: aR (some i) :: st) M :=
  v_put0 (M' := (vup M.1 i k z, M.2)) hf hs (by rw [ht]; rfl) (by rw [ht]; rfl) (fun j hj b => vup_nid _ _ _ hj) (fun _ _ _ => rfl) (vfv_upI hr) hd kk
theorem vbool {z : Int} (hz : z = 0 ∨ z = 1) : narrow .boolean (.int (Int32.ofInt z)) = .int (Int32.ofInt z) ∧ fits .boolean (.int (Int32.ofInt z)) = true := by
  rcases hz with rfl | rfl <;> decide +kernel
theorem v_putZ {idx ci k i : Nat} {z : Int} (hf : vLp own idx ci k) (hr : vrefF ci k = false) (ht : vtyF ci k = .boolean) (hz : z = 0 ∨ z = 1) (hs : sh i = some (.inl ci)) (hd : decode cc pc = .ok (.putfield idx, 3))
    (kk : V x Q G cc own sh n cl sl (pc + 3) ls st (vup M.1 i k z, M.2)) : V x Q G cc own sh n cl sl pc ls (aI z :: aR (some i) :: st) M :=
  v_put0 (M' := (vup M.1 i k z, M.2)) hf hs (by rw [ht]; exact (vbool hz).1) (by rw [ht]; exact (vbool hz).2) (fun j hj b => vup_nid _ _ _ hj) (fun _ _ _ => rfl) (vfv_upI hr) hd kk
theorem v_putFR {idx ci k i v : Nat} (hin : (xM x).name = "<init>") (hf : vLf own idx ci k) (hr : vrefF ci k = true) (hn : ∀ a, narrow (vtyF ci k) (.ref a) = .ref a) (hfit : ∀ a, fits (vtyF ci k) (.ref a) = true) (hs : sh i = some (.inl ci)) (hd : decode cc pc = .ok (.putfield idx, 3))
    (kk : V x Q G cc own sh n cl sl (pc + 3) ls st (M.1, vup M.2 i k (some v))) : V x Q G cc own sh n cl sl pc ls (aR (some v) :: aR (some i) :: st) M :=
  v_putF0 (M' := (M.1, vup M.2 i k (some v))) hin hf hs (hn _) (hfit _) (fun _ _ _ => rfl) (fun j hj b => vup_nid _ _ _ hj) (vfv_upR hr) hd kk
theorem v_iald {i len : Nat} {j : Int} (hs : sh i = some (.inr (0, len))) (hj : 0 ≤ j ∧ j < (len : Int) ∧ len ≤ 2147483647) (hd : decode cc pc = .ok (.iaload, 1))
    (kk : V x Q G cc own sh n cl sl (pc + 1) ls (aI (M.1 i j.toNat) :: st) M) : V x Q G cc own sh n cl sl pc ls (aI j :: aR (some i) :: st) M := fun C H locs la hR hS hL => by
  obtain ⟨cell, c1, c2, c3, c4, c5⟩ := vArr hR C.2.2.2.2.2.1 (by omega) hs
  obtain ⟨e1, e2⟩ := vidx hj
  exact W.iald (v := .int (Int32.ofInt (M.1 i j.toNat))) C.1 C.2.1 c1 c2 c3 (by rw [c4]; exact e2) (by rw [e1, c5 _ (by omega)]; simp [vav]) rfl rfl hd (kk C H locs la hR hS hL)
theorem v_zald {i len : Nat} {j : Int} (hs : sh i = some (.inr (1, len))) (hj : 0 ≤ j ∧ j < (len : Int) ∧ len ≤ 2147483647) (hd : decode cc pc = .ok (.baload, 1))
    (kk : V x Q G cc own sh n cl sl (pc + 1) ls (aI (M.1 i j.toNat) :: st) M) : V x Q G cc own sh n cl sl pc ls (aI j :: aR (some i) :: st) M := fun C H locs la hR hS hL => by
  obtain ⟨cell, c1, c2, c3, c4, c5⟩ := vArr hR C.2.2.2.2.2.1 (by omega) hs
  obtain ⟨e1, e2⟩ := vidx hj
  exact W.zald (v := .int (Int32.ofInt (M.1 i j.toNat))) C.1 C.2.1 c1 c2 c3 (by rw [c4]; exact e2) (by rw [e1, c5 _ (by omega)]; simp [vav]) rfl rfl hd (kk C H locs la hR hS hL)
theorem v_aald {i len v : Nat} {j : Int} (hs : sh i = some (.inr (2, len))) (hj : 0 ≤ j ∧ j < (len : Int) ∧ len ≤ 2147483647) (hv : M.2 i j.toNat = some v) (hd : decode cc pc = .ok (.aaload, 1))
    (kk : V x Q G cc own sh n cl sl (pc + 1) ls (aR (some v) :: st) M) : V x Q G cc own sh n cl sl pc ls (aI j :: aR (some i) :: st) M := fun C H locs la hR hS hL => by
  obtain ⟨cell, c1, c2, c3, c4, c5⟩ := vArr hR C.2.2.2.2.2.1 (by omega) hs
  obtain ⟨e1, e2⟩ := vidx hj
  exact W.aald (v := .ref (vad G v)) (ty := .object RX0) C.1 C.2.1 c1 c2 rfl c3 (by rw [c4]; exact e2) (by rw [e1, c5 _ (by omega)]; simp [vav, hv, va_rf]) rfl rfl hd (kk C H locs la hR hS hL)
theorem v_alen {i kd len : Nat} (hkd : kd ≤ 2) (hs : sh i = some (.inr (kd, len))) (hd : decode cc pc = .ok (.arraylength, 1))
    (kk : V x Q G cc own sh n cl sl (pc + 1) ls (aI (len : Int) :: st) M) : V x Q G cc own sh n cl sl pc ls (aR (some i) :: st) M := fun C H locs la hR hS hL => by
  obtain ⟨cell, c1, c2, c3, c4, c5⟩ := vArr hR C.2.2.2.2.2.1 hkd hs
  exact W.alen (n := Int32.ofInt (len : Int)) C.1 C.2.1 c1 c2 (by rw [c4, Int32.ofInt_eq_ofNat]) rfl rfl hd (kk C H locs la hR hS hL)
theorem vav_upI {kd i k : Nat} {z : Int} (hk : kd ≠ 2) : vav G kd (vup M.1 i k z, M.2) i = updV (vav G kd M i) k (.int (Int32.ofInt z)) := by
  funext j
  by_cases hj : j = k
  · subst hj; simp [vav, updV, vup, hk]
  · simp [vav, updV, vup, hj]
theorem vav_upR {i k v : Nat} : vav G 2 (M.1, vup M.2 i k (some v)) i = updV (vav G 2 M i) k (.ref (vad G v)) := by
  funext j
  by_cases hj : j = k
  · subst hj; simp [vav, updV, vup, va_rf]
  · simp [vav, updV, vup, hj]
theorem v_iast {i len : Nat} {j z : Int} (hi : i < 1000) (hs : sh i = some (.inr (0, len))) (hj : 0 ≤ j ∧ j < (len : Int) ∧ len ≤ 2147483647) (hd : decode cc pc = .ok (.iastore, 1))
    (kk : V x Q G cc own sh n cl sl (pc + 1) ls st (vup M.1 i j.toNat z, M.2)) : V x Q G cc own sh n cl sl pc ls (aI z :: aI j :: aR (some i) :: st) M := fun C H locs la hR hS hL => by
  have c1 := (hR.2.2.2.2 i _ hs).1 hi
  obtain ⟨e1, e2⟩ := vidx hj
  have hA : vnew G (vad G i) := by show G.2.2.1 ≤ vad G i; rw [vad_lo hi]; omega
  refine W.iast C.1 C.2.1 c1 ((C.2.2.2.2.2.1.1.2 0 _ rfl).1 _ _) (fun q => by cases q) (by rw [arrV_size]; exact e2) rfl rfl hd fun H' g1 g2 g3 => kk C H' _ la (hR.put hi g2 g3 (fun j hj b => vup_nid _ _ _ hj) (fun _ _ _ => rfl) (fun y hy => ?_)) (hS.put g2 g3 hA) hL
  rw [hs] at hy
  cases hy
  refine ⟨fun _ => ?_, fun h => by omega⟩
  show H'[vad G i]? = some (arrV (G.2.1 0) len (vav G 0 _ i))
  rw [g1, e1, arrV_store, vav_upI (kd := 0) (by decide)]
theorem v_zast {i len : Nat} {j z : Int} (hz : z = 0 ∨ z = 1) (hi : i < 1000) (hs : sh i = some (.inr (1, len))) (hj : 0 ≤ j ∧ j < (len : Int) ∧ len ≤ 2147483647) (hd : decode cc pc = .ok (.bastore, 1))
    (kk : V x Q G cc own sh n cl sl (pc + 1) ls st (vup M.1 i j.toNat z, M.2)) : V x Q G cc own sh n cl sl pc ls (aI z :: aI j :: aR (some i) :: st) M := fun C H locs la hR hS hL => by
  have c1 := (hR.2.2.2.2 i _ hs).1 hi
  obtain ⟨e1, e2⟩ := vidx hj
  have hA : vnew G (vad G i) := by show G.2.2.1 ≤ vad G i; rw [vad_lo hi]; omega
  refine W.zast C.1 C.2.1 c1 ((C.2.2.2.2.2.1.1.2 1 _ rfl).1 _ _) (fun q => by cases q) (by rw [arrV_size]; exact e2) rfl rfl hd fun H' g1 g2 g3 => kk C H' _ la (hR.put hi g2 g3 (fun j hj b => vup_nid _ _ _ hj) (fun _ _ _ => rfl) (fun y hy => ?_)) (hS.put g2 g3 hA) hL
  rw [hs] at hy
  cases hy
  refine ⟨fun _ => ?_, fun h => by omega⟩
  show H'[vad G i]? = some (arrV (G.2.1 1) len (vav G 1 _ i))
  rw [g1, e1, (vbool hz).1, arrV_store, vav_upI (kd := 1) (by decide)]
theorem v_aast {i len v : Nat} {j : Int} (hi : i < 1000) (hs : sh i = some (.inr (2, len))) (hv : sh v = some (.inl 0)) (hj : 0 ≤ j ∧ j < (len : Int) ∧ len ≤ 2147483647) (hd : decode cc pc = .ok (.aastore, 1))
    (kk : V x Q G cc own sh n cl sl (pc + 1) ls st (M.1, vup M.2 i j.toNat (some v))) : V x Q G cc own sh n cl sl pc ls (aR (some v) :: aI j :: aR (some i) :: st) M := fun C H locs la hR hS hL => by
  have c1 := (hR.2.2.2.2 i _ hs).1 hi
  obtain ⟨e1, e2⟩ := vidx hj
  have hA : vnew G (vad G i) := by show G.2.2.1 ≤ vad G i; rw [vad_lo hi]; omega
  obtain ⟨hvi, r, hr, cellV, g1, g2, g3, -⟩ := hR.2.2.2.2 v _ hv
  have hr0 : r = (RX0, TX0, 20) := Option.some.inj (hr.symm.trans rfl)
  subst hr0
  have hcls := (C.2.2.2.2.2.1.1.1 0 _ rfl).2
  obtain ⟨kA, comp, k1, k2, k3, -⟩ := (C.2.2.2.2.2.1.1.2 2 _ rfl).2
  have hcomp : comp = G.1.1 0 := Option.some.inj (k3.symm.trans hcls.1)
  subst hcomp
  obtain ⟨kC, hkC, -⟩ := hcls.2
  refine W.aast C.1 C.2.1 c1 (fun q h => by cases h) (fun h => by cases h) k1 k2 rfl hkC ⟨fun q => e2 (Or.inl q), by rw [arrV_size]; exact Nat.not_le.mp fun q => e2 (Or.inr q)⟩ g1 (fun q h => by rw [g3] at h; cases h) (by rw [g2]; exact hkC) (by rw [g2]; exact va_assign hcls) rfl rfl hd fun H' f1 f2 f3 => kk C H' _ la (hR.put hi f2 f3 (fun _ _ _ => rfl) (fun j hj b => vup_nid _ _ _ hj) (fun y hy => ?_)) (hS.put f2 f3 hA) hL
  rw [hs] at hy
  cases hy
  refine ⟨fun _ => ?_, fun h => by omega⟩
  rw [f1, e1, arrV_store, vav_upR]
end VM
def vK0 (y : MethodName) (cy : ByteArray) (mL : Nat) (ret : Option FieldType) (nA : Nat) : Prop :=
  (y.cls ≠ "java/lang/invoke/MethodHandle" ∧ y.cls ≠ "java/lang/invoke/VarHandle" ∧ (parseMethodDescriptor y.desc).map (fun d => d.parameters.length) = some nA) ∧ Cond.code y cy mL ret ∈ vGT ∧ Cond.initialized y.cls ∈ vGT
end
section
/-! ===== links: what the pool's entries name (by program) ===== -/
theorem vGT_at {w : Cond} (k : Nat) (h : lw_tbl[k]? = some w) (hg : goodWord w = true) : w ∈ vGT := List.mem_filter.mpr ⟨List.mem_of_getElem? h, hg⟩
theorem vNW_at {w : Cond} (k : Nat) (h : lw_tbl[k]? = some w) (hg : vnest w = true) : w ∈ vNW := List.mem_filter.mpr ⟨List.mem_of_getElem? h, hg⟩
theorem k0_X3_init : vK0 yX3_init cX3_init 2 none 0 := ⟨by decide +kernel, vGT_at 68 (by decide +kernel) (by decide +kernel), vGT_at 56 (by decide +kernel) (by decide +kernel)⟩
theorem ki_X3_init : Cond.instanceMethod yX3_init ∈ vGT := vGT_at 67 (by decide +kernel) (by decide +kernel)
theorem k0_X3_layOut : vK0 yX3_layOut cX3_layOut 7 (some .int) 4 := ⟨by decide +kernel, vGT_at 262 (by decide +kernel) (by decide +kernel), vGT_at 56 (by decide +kernel) (by decide +kernel)⟩
theorem ki_X3_layOut : Cond.instanceMethod yX3_layOut ∈ vGT ∧ Cond.selects yX3_layOut.cls yX3_layOut yX3_layOut ∈ vGT := ⟨vGT_at 260 (by decide +kernel) (by decide +kernel), vGT_at 261 (by decide +kernel) (by decide +kernel)⟩
theorem k0_X3_stop : vK0 yX3_stop cX3_stop 3 (some .int) 2 := ⟨by decide +kernel, vGT_at 295 (by decide +kernel) (by decide +kernel), vGT_at 56 (by decide +kernel) (by decide +kernel)⟩
theorem ki_X3_stop : Cond.instanceMethod yX3_stop ∈ vGT ∧ Cond.selects yX3_stop.cls yX3_stop yX3_stop ∈ vGT := ⟨vGT_at 293 (by decide +kernel) (by decide +kernel), vGT_at 294 (by decide +kernel) (by decide +kernel)⟩
theorem k0_X3_set : vK0 yX3_set cX3_set 4 (some .int) 2 := ⟨by decide +kernel, vGT_at 302 (by decide +kernel) (by decide +kernel), vGT_at 56 (by decide +kernel) (by decide +kernel)⟩
theorem ki_X3_set : Cond.instanceMethod yX3_set ∈ vGT ∧ Cond.selects yX3_set.cls yX3_set yX3_set ∈ vGT := ⟨vGT_at 300 (by decide +kernel) (by decide +kernel), vGT_at 301 (by decide +kernel) (by decide +kernel)⟩
theorem k0_X3_cipher : vK0 yX3_cipher cX3_cipher 5 (some .int) 3 := ⟨by decide +kernel, vGT_at 310 (by decide +kernel) (by decide +kernel), vGT_at 56 (by decide +kernel) (by decide +kernel)⟩
theorem ki_X3_cipher : Cond.instanceMethod yX3_cipher ∈ vGT ∧ Cond.selects yX3_cipher.cls yX3_cipher yX3_cipher ∈ vGT := ⟨vGT_at 308 (by decide +kernel) (by decide +kernel), vGT_at 309 (by decide +kernel) (by decide +kernel)⟩
theorem k0_X3_draw : vK0 yX3_draw cX3_draw 3 (some .int) 2 := ⟨by decide +kernel, vGT_at 330 (by decide +kernel) (by decide +kernel), vGT_at 56 (by decide +kernel) (by decide +kernel)⟩
theorem ki_X3_draw : Cond.instanceMethod yX3_draw ∈ vGT ∧ Cond.selects yX3_draw.cls yX3_draw yX3_draw ∈ vGT := ⟨vGT_at 328 (by decide +kernel) (by decide +kernel), vGT_at 329 (by decide +kernel) (by decide +kernel)⟩
theorem k0_X3_press : vK0 yX3_press cX3_press 4 (some .int) 3 := ⟨by decide +kernel, vGT_at 334 (by decide +kernel) (by decide +kernel), vGT_at 56 (by decide +kernel) (by decide +kernel)⟩
theorem ki_X3_press : Cond.instanceMethod yX3_press ∈ vGT ∧ Cond.selects yX3_press.cls yX3_press yX3_press ∈ vGT := ⟨vGT_at 332 (by decide +kernel) (by decide +kernel), vGT_at 333 (by decide +kernel) (by decide +kernel)⟩
theorem k0_X3_couple : vK0 yX3_couple cX3_couple 4 (some .int) 2 := ⟨by decide +kernel, vGT_at 338 (by decide +kernel) (by decide +kernel), vGT_at 56 (by decide +kernel) (by decide +kernel)⟩
theorem ki_X3_couple : Cond.instanceMethod yX3_couple ∈ vGT ∧ Cond.selects yX3_couple.cls yX3_couple yX3_couple ∈ vGT := ⟨vGT_at 336 (by decide +kernel) (by decide +kernel), vGT_at 337 (by decide +kernel) (by decide +kernel)⟩
theorem k0_X3_tick : vK0 yX3_tick cX3_tick 2 (some .int) 1 := ⟨by decide +kernel, vGT_at 342 (by decide +kernel) (by decide +kernel), vGT_at 56 (by decide +kernel) (by decide +kernel)⟩
theorem ki_X3_tick : Cond.instanceMethod yX3_tick ∈ vGT ∧ Cond.selects yX3_tick.cls yX3_tick yX3_tick ∈ vGT := ⟨vGT_at 340 (by decide +kernel) (by decide +kernel), vGT_at 341 (by decide +kernel) (by decide +kernel)⟩
theorem k0_X3_append : vK0 yX3_append cX3_append 2 (some .int) 1 := ⟨by decide +kernel, vGT_at 417 (by decide +kernel) (by decide +kernel), vGT_at 56 (by decide +kernel) (by decide +kernel)⟩
theorem ki_X3_append : Cond.instanceMethod yX3_append ∈ vGT ∧ Cond.selects yX3_append.cls yX3_append yX3_append ∈ vGT := ⟨vGT_at 415 (by decide +kernel) (by decide +kernel), vGT_at 416 (by decide +kernel) (by decide +kernel)⟩
theorem k0_X3_clearText : vK0 yX3_clearText cX3_clearText 2 (some .int) 0 := ⟨by decide +kernel, vGT_at 426 (by decide +kernel) (by decide +kernel), vGT_at 56 (by decide +kernel) (by decide +kernel)⟩
theorem ki_X3_clearText : Cond.instanceMethod yX3_clearText ∈ vGT ∧ Cond.selects yX3_clearText.cls yX3_clearText yX3_clearText ∈ vGT := ⟨vGT_at 424 (by decide +kernel) (by decide +kernel), vGT_at 425 (by decide +kernel) (by decide +kernel)⟩
theorem k0_X3_faultPosition : vK0 yX3_faultPosition cX3_faultPosition 1 (some .int) 0 := ⟨by decide +kernel, vGT_at 430 (by decide +kernel) (by decide +kernel), vGT_at 56 (by decide +kernel) (by decide +kernel)⟩
theorem ki_X3_faultPosition : Cond.instanceMethod yX3_faultPosition ∈ vGT ∧ Cond.selects yX3_faultPosition.cls yX3_faultPosition yX3_faultPosition ∈ vGT := ⟨vGT_at 428 (by decide +kernel) (by decide +kernel), vGT_at 429 (by decide +kernel) (by decide +kernel)⟩
theorem k0_X3_play : vK0 yX3_play cX3_play 2 (some .int) 0 := ⟨by decide +kernel, vGT_at 467 (by decide +kernel) (by decide +kernel), vGT_at 56 (by decide +kernel) (by decide +kernel)⟩
theorem ki_X3_play : Cond.instanceMethod yX3_play ∈ vGT ∧ Cond.selects yX3_play.cls yX3_play yX3_play ∈ vGT := ⟨vGT_at 465 (by decide +kernel) (by decide +kernel), vGT_at 466 (by decide +kernel) (by decide +kernel)⟩
theorem k0_X3_carryOutAct : vK0 yX3_carryOutAct cX3_carryOutAct 1 none 0 := ⟨by decide +kernel, vGT_at 475 (by decide +kernel) (by decide +kernel), vGT_at 56 (by decide +kernel) (by decide +kernel)⟩
theorem ki_X3_carryOutAct : Cond.instanceMethod yX3_carryOutAct ∈ vGT ∧ Cond.selects yX3_carryOutAct.cls yX3_carryOutAct yX3_carryOutAct ∈ vGT := ⟨vGT_at 474 (by decide +kernel) (by decide +kernel), vGT_at 8 (by decide +kernel) (by decide +kernel)⟩
theorem k0_X3_tell : vK0 yX3_tell cX3_tell 2 (some .int) 1 := ⟨by decide +kernel, vGT_at 479 (by decide +kernel) (by decide +kernel), vGT_at 56 (by decide +kernel) (by decide +kernel)⟩
theorem ki_X3_tell : Cond.instanceMethod yX3_tell ∈ vGT ∧ Cond.selects yX3_tell.cls yX3_tell yX3_tell ∈ vGT := ⟨vGT_at 477 (by decide +kernel) (by decide +kernel), vGT_at 478 (by decide +kernel) (by decide +kernel)⟩
theorem k0_X3_numberTold : vK0 yX3_numberTold cX3_numberTold 2 (some .int) 1 := ⟨by decide +kernel, vGT_at 495 (by decide +kernel) (by decide +kernel), vGT_at 56 (by decide +kernel) (by decide +kernel)⟩
theorem ki_X3_numberTold : Cond.instanceMethod yX3_numberTold ∈ vGT ∧ Cond.selects yX3_numberTold.cls yX3_numberTold yX3_numberTold ∈ vGT := ⟨vGT_at 494 (by decide +kernel) (by decide +kernel), vGT_at 10 (by decide +kernel) (by decide +kernel)⟩
theorem k0_X3_chest : vK0 yX3_chest cX3_chest 3 (some .int) 2 := ⟨by decide +kernel, vGT_at 502 (by decide +kernel) (by decide +kernel), vGT_at 56 (by decide +kernel) (by decide +kernel)⟩
theorem ki_X3_chest : Cond.instanceMethod yX3_chest ∈ vGT ∧ Cond.selects yX3_chest.cls yX3_chest yX3_chest ∈ vGT := ⟨vGT_at 500 (by decide +kernel) (by decide +kernel), vGT_at 501 (by decide +kernel) (by decide +kernel)⟩
theorem k0_X3_chestTold : vK0 yX3_chestTold cX3_chestTold 3 (some .int) 2 := ⟨by decide +kernel, vGT_at 506 (by decide +kernel) (by decide +kernel), vGT_at 56 (by decide +kernel) (by decide +kernel)⟩
theorem ki_X3_chestTold : Cond.instanceMethod yX3_chestTold ∈ vGT ∧ Cond.selects yX3_chestTold.cls yX3_chestTold yX3_chestTold ∈ vGT := ⟨vGT_at 505 (by decide +kernel) (by decide +kernel), vGT_at 11 (by decide +kernel) (by decide +kernel)⟩
theorem k0_X3_strokes : vK0 yX3_strokes cX3_strokes 2 (some .int) 1 := ⟨by decide +kernel, vGT_at 511 (by decide +kernel) (by decide +kernel), vGT_at 56 (by decide +kernel) (by decide +kernel)⟩
theorem ki_X3_strokes : Cond.instanceMethod yX3_strokes ∈ vGT ∧ Cond.selects yX3_strokes.cls yX3_strokes yX3_strokes ∈ vGT := ⟨vGT_at 509 (by decide +kernel) (by decide +kernel), vGT_at 510 (by decide +kernel) (by decide +kernel)⟩
theorem k0_X3_pipe : vK0 yX3_pipe cX3_pipe 4 (some .int) 3 := ⟨by decide +kernel, vGT_at 515 (by decide +kernel) (by decide +kernel), vGT_at 56 (by decide +kernel) (by decide +kernel)⟩
theorem ki_X3_pipe : Cond.instanceMethod yX3_pipe ∈ vGT ∧ Cond.selects yX3_pipe.cls yX3_pipe yX3_pipe ∈ vGT := ⟨vGT_at 513 (by decide +kernel) (by decide +kernel), vGT_at 514 (by decide +kernel) (by decide +kernel)⟩
theorem k0_X3_pipeTold : vK0 yX3_pipeTold cX3_pipeTold 4 (some .int) 3 := ⟨by decide +kernel, vGT_at 519 (by decide +kernel) (by decide +kernel), vGT_at 56 (by decide +kernel) (by decide +kernel)⟩
theorem ki_X3_pipeTold : Cond.instanceMethod yX3_pipeTold ∈ vGT ∧ Cond.selects yX3_pipeTold.cls yX3_pipeTold yX3_pipeTold ∈ vGT := ⟨vGT_at 518 (by decide +kernel) (by decide +kernel), vGT_at 12 (by decide +kernel) (by decide +kernel)⟩
theorem k0_X3_reason : vK0 yX3_reason cX3_reason 3 (some .int) 2 := ⟨by decide +kernel, vGT_at 535 (by decide +kernel) (by decide +kernel), vGT_at 56 (by decide +kernel) (by decide +kernel)⟩
theorem ki_X3_reason : Cond.instanceMethod yX3_reason ∈ vGT ∧ Cond.selects yX3_reason.cls yX3_reason yX3_reason ∈ vGT := ⟨vGT_at 533 (by decide +kernel) (by decide +kernel), vGT_at 534 (by decide +kernel) (by decide +kernel)⟩
theorem k0_X3_reasonTold : vK0 yX3_reasonTold cX3_reasonTold 4 (some .int) 2 := ⟨by decide +kernel, vGT_at 539 (by decide +kernel) (by decide +kernel), vGT_at 56 (by decide +kernel) (by decide +kernel)⟩
theorem ki_X3_reasonTold : Cond.instanceMethod yX3_reasonTold ∈ vGT ∧ Cond.selects yX3_reasonTold.cls yX3_reasonTold yX3_reasonTold ∈ vGT := ⟨vGT_at 538 (by decide +kernel) (by decide +kernel), vGT_at 15 (by decide +kernel) (by decide +kernel)⟩
theorem k0_X3_tune : vK0 yX3_tune cX3_tune 5 (some .int) 2 := ⟨by decide +kernel, vGT_at 543 (by decide +kernel) (by decide +kernel), vGT_at 56 (by decide +kernel) (by decide +kernel)⟩
theorem ki_X3_tune : Cond.instanceMethod yX3_tune ∈ vGT ∧ Cond.selects yX3_tune.cls yX3_tune yX3_tune ∈ vGT := ⟨vGT_at 541 (by decide +kernel) (by decide +kernel), vGT_at 542 (by decide +kernel) (by decide +kernel)⟩
theorem k0_X3_mistuned : vK0 yX3_mistuned cX3_mistuned 1 (some .int) 0 := ⟨by decide +kernel, vGT_at 547 (by decide +kernel) (by decide +kernel), vGT_at 56 (by decide +kernel) (by decide +kernel)⟩
theorem ki_X3_mistuned : Cond.instanceMethod yX3_mistuned ∈ vGT ∧ Cond.selects yX3_mistuned.cls yX3_mistuned yX3_mistuned ∈ vGT := ⟨vGT_at 545 (by decide +kernel) (by decide +kernel), vGT_at 546 (by decide +kernel) (by decide +kernel)⟩
theorem k0_X3_greatestDifference : vK0 yX3_greatestDifference cX3_greatestDifference 6 (some .int) 0 := ⟨by decide +kernel, vGT_at 551 (by decide +kernel) (by decide +kernel), vGT_at 56 (by decide +kernel) (by decide +kernel)⟩
theorem ki_X3_greatestDifference : Cond.instanceMethod yX3_greatestDifference ∈ vGT ∧ Cond.selects yX3_greatestDifference.cls yX3_greatestDifference yX3_greatestDifference ∈ vGT := ⟨vGT_at 550 (by decide +kernel) (by decide +kernel), vGT_at 16 (by decide +kernel) (by decide +kernel)⟩
theorem k0_X3_search : vK0 yX3_search cX3_search 2 (some .int) 1 := ⟨by decide +kernel, vGT_at 557 (by decide +kernel) (by decide +kernel), vGT_at 56 (by decide +kernel) (by decide +kernel)⟩
theorem ki_X3_search : Cond.instanceMethod yX3_search ∈ vGT ∧ Cond.selects yX3_search.cls yX3_search yX3_search ∈ vGT := ⟨vGT_at 555 (by decide +kernel) (by decide +kernel), vGT_at 556 (by decide +kernel) (by decide +kernel)⟩
theorem k0_X3_cipheringStop : vK0 yX3_cipheringStop cX3_cipheringStop 3 (some .int) 0 := ⟨by decide +kernel, vGT_at 561 (by decide +kernel) (by decide +kernel), vGT_at 56 (by decide +kernel) (by decide +kernel)⟩
theorem ki_X3_cipheringStop : Cond.instanceMethod yX3_cipheringStop ∈ vGT ∧ Cond.selects yX3_cipheringStop.cls yX3_cipheringStop yX3_cipheringStop ∈ vGT := ⟨vGT_at 560 (by decide +kernel) (by decide +kernel), vGT_at 17 (by decide +kernel) (by decide +kernel)⟩
theorem k0_X3_testsOfSearch : vK0 yX3_testsOfSearch cX3_testsOfSearch 3 (some .int) 0 := ⟨by decide +kernel, vGT_at 572 (by decide +kernel) (by decide +kernel), vGT_at 56 (by decide +kernel) (by decide +kernel)⟩
theorem ki_X3_testsOfSearch : Cond.instanceMethod yX3_testsOfSearch ∈ vGT ∧ Cond.selects yX3_testsOfSearch.cls yX3_testsOfSearch yX3_testsOfSearch ∈ vGT := ⟨vGT_at 571 (by decide +kernel) (by decide +kernel), vGT_at 19 (by decide +kernel) (by decide +kernel)⟩
theorem k0_X3_lowestCipher : vK0 yX3_lowestCipher cX3_lowestCipher 3 (some .int) 1 := ⟨by decide +kernel, vGT_at 576 (by decide +kernel) (by decide +kernel), vGT_at 56 (by decide +kernel) (by decide +kernel)⟩
theorem ki_X3_lowestCipher : Cond.instanceMethod yX3_lowestCipher ∈ vGT ∧ Cond.selects yX3_lowestCipher.cls yX3_lowestCipher yX3_lowestCipher ∈ vGT := ⟨vGT_at 575 (by decide +kernel) (by decide +kernel), vGT_at 20 (by decide +kernel) (by decide +kernel)⟩
theorem k0_X3_isHeard : vK0 yX3_isHeard cX3_isHeard 2 (some .boolean) 1 := ⟨by decide +kernel, vGT_at 565 (by decide +kernel) (by decide +kernel), vGT_at 56 (by decide +kernel) (by decide +kernel)⟩
theorem ki_X3_isHeard : Cond.instanceMethod yX3_isHeard ∈ vGT ∧ Cond.selects yX3_isHeard.cls yX3_isHeard yX3_isHeard ∈ vGT := ⟨vGT_at 564 (by decide +kernel) (by decide +kernel), vGT_at 18 (by decide +kernel) (by decide +kernel)⟩
theorem k0_X3_robbed : vK0 yX3_robbed cX3_robbed 4 (some .int) 1 := ⟨by decide +kernel, vGT_at 580 (by decide +kernel) (by decide +kernel), vGT_at 56 (by decide +kernel) (by decide +kernel)⟩
theorem ki_X3_robbed : Cond.instanceMethod yX3_robbed ∈ vGT ∧ Cond.selects yX3_robbed.cls yX3_robbed yX3_robbed ∈ vGT := ⟨vGT_at 578 (by decide +kernel) (by decide +kernel), vGT_at 579 (by decide +kernel) (by decide +kernel)⟩
theorem k0_X3_lowest : vK0 yX3_lowest cX3_lowest 2 (some .int) 1 := ⟨by decide +kernel, vGT_at 584 (by decide +kernel) (by decide +kernel), vGT_at 56 (by decide +kernel) (by decide +kernel)⟩
theorem ki_X3_lowest : Cond.instanceMethod yX3_lowest ∈ vGT ∧ Cond.selects yX3_lowest.cls yX3_lowest yX3_lowest ∈ vGT := ⟨vGT_at 582 (by decide +kernel) (by decide +kernel), vGT_at 583 (by decide +kernel) (by decide +kernel)⟩
theorem k0_X3_undo : vK0 yX3_undo cX3_undo 1 (some .int) 0 := ⟨by decide +kernel, vGT_at 588 (by decide +kernel) (by decide +kernel), vGT_at 56 (by decide +kernel) (by decide +kernel)⟩
theorem ki_X3_undo : Cond.instanceMethod yX3_undo ∈ vGT ∧ Cond.selects yX3_undo.cls yX3_undo yX3_undo ∈ vGT := ⟨vGT_at 586 (by decide +kernel) (by decide +kernel), vGT_at 587 (by decide +kernel) (by decide +kernel)⟩
theorem k0_X3_save : vK0 yX3_save cX3_save 2 (some .int) 1 := ⟨by decide +kernel, vGT_at 592 (by decide +kernel) (by decide +kernel), vGT_at 56 (by decide +kernel) (by decide +kernel)⟩
theorem ki_X3_save : Cond.instanceMethod yX3_save ∈ vGT ∧ Cond.selects yX3_save.cls yX3_save yX3_save ∈ vGT := ⟨vGT_at 590 (by decide +kernel) (by decide +kernel), vGT_at 591 (by decide +kernel) (by decide +kernel)⟩
theorem k0_X3_restore : vK0 yX3_restore cX3_restore 2 (some .int) 1 := ⟨by decide +kernel, vGT_at 599 (by decide +kernel) (by decide +kernel), vGT_at 56 (by decide +kernel) (by decide +kernel)⟩
theorem ki_X3_restore : Cond.instanceMethod yX3_restore ∈ vGT ∧ Cond.selects yX3_restore.cls yX3_restore yX3_restore ∈ vGT := ⟨vGT_at 597 (by decide +kernel) (by decide +kernel), vGT_at 598 (by decide +kernel) (by decide +kernel)⟩
theorem k0_X3_checksum : vK0 yX3_checksum cX3_checksum 5 (some .long) 0 := ⟨by decide +kernel, vGT_at 603 (by decide +kernel) (by decide +kernel), vGT_at 56 (by decide +kernel) (by decide +kernel)⟩
theorem ki_X3_checksum : Cond.instanceMethod yX3_checksum ∈ vGT ∧ Cond.selects yX3_checksum.cls yX3_checksum yX3_checksum ∈ vGT := ⟨vGT_at 601 (by decide +kernel) (by decide +kernel), vGT_at 602 (by decide +kernel) (by decide +kernel)⟩
theorem k0_X3_mixOpenPipes : vK0 yX3_mixOpenPipes cX3_mixOpenPipes 8 (some .long) 1 := ⟨by decide +kernel, vGT_at 613 (by decide +kernel) (by decide +kernel), vGT_at 56 (by decide +kernel) (by decide +kernel)⟩
theorem ki_X3_mixOpenPipes : Cond.instanceMethod yX3_mixOpenPipes ∈ vGT ∧ Cond.selects yX3_mixOpenPipes.cls yX3_mixOpenPipes yX3_mixOpenPipes ∈ vGT := ⟨vGT_at 612 (by decide +kernel) (by decide +kernel), vGT_at 21 (by decide +kernel) (by decide +kernel)⟩
theorem k0_X3_mix : vK0 yX3_mix cX3_mix 3 (some .long) 2 := ⟨by decide +kernel, vGT_at 608 (by decide +kernel) (by decide +kernel), vGT_at 56 (by decide +kernel) (by decide +kernel)⟩
theorem ki_X3_mix : Cond.static yX3_mix ∈ vGT := vGT_at 607 (by decide +kernel) (by decide +kernel)
theorem k0_X3_readWind : vK0 yX3_readWind cX3_readWind 1 none 0 := ⟨by decide +kernel, vGT_at 483 (by decide +kernel) (by decide +kernel), vGT_at 56 (by decide +kernel) (by decide +kernel)⟩
theorem ki_X3_readWind : Cond.instanceMethod yX3_readWind ∈ vGT ∧ Cond.selects yX3_readWind.cls yX3_readWind yX3_readWind ∈ vGT := ⟨vGT_at 482 (by decide +kernel) (by decide +kernel), vGT_at 9 (by decide +kernel) (by decide +kernel)⟩
theorem k0_X3_letPass : vK0 yX3_letPass cX3_letPass 7 (some .int) 2 := ⟨by decide +kernel, vGT_at 346 (by decide +kernel) (by decide +kernel), vGT_at 56 (by decide +kernel) (by decide +kernel)⟩
theorem ki_X3_letPass : Cond.instanceMethod yX3_letPass ∈ vGT ∧ Cond.selects yX3_letPass.cls yX3_letPass yX3_letPass ∈ vGT := ⟨vGT_at 345 (by decide +kernel) (by decide +kernel), vGT_at 1 (by decide +kernel) (by decide +kernel)⟩
theorem k0_X3_detuning : vK0 yX3_detuning cX3_detuning 3 (some .int) 1 := ⟨by decide +kernel, vGT_at 529 (by decide +kernel) (by decide +kernel), vGT_at 56 (by decide +kernel) (by decide +kernel)⟩
theorem ki_X3_detuning : Cond.instanceMethod yX3_detuning ∈ vGT ∧ Cond.selects yX3_detuning.cls yX3_detuning yX3_detuning ∈ vGT := ⟨vGT_at 528 (by decide +kernel) (by decide +kernel), vGT_at 14 (by decide +kernel) (by decide +kernel)⟩
theorem k0_X3_pitch : vK0 yX3_pitch cX3_pitch 3 (some .int) 2 := ⟨by decide +kernel, vGT_at 525 (by decide +kernel) (by decide +kernel), vGT_at 56 (by decide +kernel) (by decide +kernel)⟩
theorem ki_X3_pitch : Cond.instanceMethod yX3_pitch ∈ vGT ∧ Cond.selects yX3_pitch.cls yX3_pitch yX3_pitch ∈ vGT := ⟨vGT_at 524 (by decide +kernel) (by decide +kernel), vGT_at 13 (by decide +kernel) (by decide +kernel)⟩
theorem k0_X3_remember : vK0 yX3_remember cX3_remember 3 none 0 := ⟨by decide +kernel, vGT_at 277 (by decide +kernel) (by decide +kernel), vGT_at 56 (by decide +kernel) (by decide +kernel)⟩
theorem ki_X3_remember : Cond.instanceMethod yX3_remember ∈ vGT ∧ Cond.selects yX3_remember.cls yX3_remember yX3_remember ∈ vGT := ⟨vGT_at 276 (by decide +kernel) (by decide +kernel), vGT_at 0 (by decide +kernel) (by decide +kernel)⟩
theorem k0_X3_copyState : vK0 yX3_copyState cX3_copyState 2 none 2 := ⟨by decide +kernel, vGT_at 280 (by decide +kernel) (by decide +kernel), vGT_at 56 (by decide +kernel) (by decide +kernel)⟩
theorem ki_X3_copyState : Cond.static yX3_copyState ∈ vGT := vGT_at 279 (by decide +kernel) (by decide +kernel)
theorem k0_X3_isStop : vK0 yX3_isStop cX3_isStop 1 (some .boolean) 1 := ⟨by decide +kernel, vGT_at 265 (by decide +kernel) (by decide +kernel), vGT_at 56 (by decide +kernel) (by decide +kernel)⟩
theorem ki_X3_isStop : Cond.static yX3_isStop ∈ vGT := vGT_at 264 (by decide +kernel) (by decide +kernel)
theorem k0_X3_isManual : vK0 yX3_isManual cX3_isManual 1 (some .boolean) 1 := ⟨by decide +kernel, vGT_at 272 (by decide +kernel) (by decide +kernel), vGT_at 56 (by decide +kernel) (by decide +kernel)⟩
theorem ki_X3_isManual : Cond.static yX3_isManual ∈ vGT := vGT_at 271 (by decide +kernel) (by decide +kernel)
theorem k0_X3_isKey : vK0 yX3_isKey cX3_isKey 1 (some .boolean) 1 := ⟨by decide +kernel, vGT_at 313 (by decide +kernel) (by decide +kernel), vGT_at 56 (by decide +kernel) (by decide +kernel)⟩
theorem ki_X3_isKey : Cond.static yX3_isKey ∈ vGT := vGT_at 312 (by decide +kernel) (by decide +kernel)
theorem k0_X3_isSlot : vK0 yX3_isSlot cX3_isSlot 1 (some .boolean) 1 := ⟨by decide +kernel, vGT_at 595 (by decide +kernel) (by decide +kernel), vGT_at 56 (by decide +kernel) (by decide +kernel)⟩
theorem ki_X3_isSlot : Cond.static yX3_isSlot ∈ vGT := vGT_at 594 (by decide +kernel) (by decide +kernel)
theorem k0_X3_isWithin : vK0 yX3_isWithin cX3_isWithin 3 (some .boolean) 3 := ⟨by decide +kernel, vGT_at 268 (by decide +kernel) (by decide +kernel), vGT_at 56 (by decide +kernel) (by decide +kernel)⟩
theorem ki_X3_isWithin : Cond.static yX3_isWithin ∈ vGT := vGT_at 267 (by decide +kernel) (by decide +kernel)
theorem k0_X3_pipeIndex : vK0 yX3_pipeIndex cX3_pipeIndex 2 (some .int) 2 := ⟨by decide +kernel, vGT_at 291 (by decide +kernel) (by decide +kernel), vGT_at 56 (by decide +kernel) (by decide +kernel)⟩
theorem ki_X3_pipeIndex : Cond.static yX3_pipeIndex ∈ vGT := vGT_at 290 (by decide +kernel) (by decide +kernel)
theorem k0_X3_divide : vK0 yX3_divide cX3_divide 2 (some .int) 2 := ⟨by decide +kernel, vGT_at 377 (by decide +kernel) (by decide +kernel), vGT_at 56 (by decide +kernel) (by decide +kernel)⟩
theorem ki_X3_divide : Cond.static yX3_divide ∈ vGT := vGT_at 376 (by decide +kernel) (by decide +kernel)
theorem k0_X3_isIn : vK0 yX3_isIn cX3_isIn 2 (some .boolean) 2 := ⟨by decide +kernel, vGT_at 298 (by decide +kernel) (by decide +kernel), vGT_at 56 (by decide +kernel) (by decide +kernel)⟩
theorem ki_X3_isIn : Cond.static yX3_isIn ∈ vGT := vGT_at 297 (by decide +kernel) (by decide +kernel)
theorem k0_X3_with : vK0 yX3_with cX3_with 3 (some .int) 3 := ⟨by decide +kernel, vGT_at 326 (by decide +kernel) (by decide +kernel), vGT_at 56 (by decide +kernel) (by decide +kernel)⟩
theorem ki_X3_with : Cond.static yX3_with ∈ vGT := vGT_at 325 (by decide +kernel) (by decide +kernel)
theorem k0_X3_rowOfStops : vK0 yX3_rowOfStops cX3_rowOfStops 2 (some .int) 2 := ⟨by decide +kernel, vGT_at 568 (by decide +kernel) (by decide +kernel), vGT_at 56 (by decide +kernel) (by decide +kernel)⟩
theorem ki_X3_rowOfStops : Cond.static yX3_rowOfStops ∈ vGT := vGT_at 567 (by decide +kernel) (by decide +kernel)
theorem k0_X3_countOfAll : vK0 yX3_countOfAll cX3_countOfAll 6 (some .int) 1 := ⟨by decide +kernel, vGT_at 316 (by decide +kernel) (by decide +kernel), vGT_at 56 (by decide +kernel) (by decide +kernel)⟩
theorem ki_X3_countOfAll : Cond.static yX3_countOfAll ∈ vGT := vGT_at 315 (by decide +kernel) (by decide +kernel)
theorem k0_X3_sumOf : vK0 yX3_sumOf cX3_sumOf 6 (some .int) 1 := ⟨by decide +kernel, vGT_at 498 (by decide +kernel) (by decide +kernel), vGT_at 56 (by decide +kernel) (by decide +kernel)⟩
theorem ki_X3_sumOf : Cond.static yX3_sumOf ∈ vGT := vGT_at 497 (by decide +kernel) (by decide +kernel)
theorem k0_X4_init : vK0 yX4_init cX4_init 2 none 0 := ⟨by decide +kernel, vGT_at 618 (by decide +kernel) (by decide +kernel), vGT_at 61 (by decide +kernel) (by decide +kernel)⟩
theorem ki_X4_init : Cond.instanceMethod yX4_init ∈ vGT := vGT_at 617 (by decide +kernel) (by decide +kernel)
theorem k0_X4_in : vK0 yX4_in cX4_in 3 (some .boolean) 3 := ⟨by decide +kernel, vGT_at 696 (by decide +kernel) (by decide +kernel), vGT_at 61 (by decide +kernel) (by decide +kernel)⟩
theorem ki_X4_in : Cond.static yX4_in ∈ vGT := vGT_at 695 (by decide +kernel) (by decide +kernel)
theorem k0_X4_isStop : vK0 yX4_isStop cX4_isStop 1 (some .boolean) 1 := ⟨by decide +kernel, vGT_at 693 (by decide +kernel) (by decide +kernel), vGT_at 61 (by decide +kernel) (by decide +kernel)⟩
theorem ki_X4_isStop : Cond.static yX4_isStop ∈ vGT := vGT_at 692 (by decide +kernel) (by decide +kernel)
theorem k0_X4_isKey : vK0 yX4_isKey cX4_isKey 1 (some .boolean) 1 := ⟨by decide +kernel, vGT_at 721 (by decide +kernel) (by decide +kernel), vGT_at 61 (by decide +kernel) (by decide +kernel)⟩
theorem ki_X4_isKey : Cond.static yX4_isKey ∈ vGT := vGT_at 720 (by decide +kernel) (by decide +kernel)
theorem k0_X4_down : vK0 yX4_down cX4_down 3 (some .int) 2 := ⟨by decide +kernel, vGT_at 890 (by decide +kernel) (by decide +kernel), vGT_at 61 (by decide +kernel) (by decide +kernel)⟩
theorem ki_X4_down : Cond.static yX4_down ∈ vGT := vGT_at 889 (by decide +kernel) (by decide +kernel)
theorem k0_X4_puts : vK0 yX4_puts cX4_puts 4 (some .int) 2 := ⟨by decide +kernel, vGT_at 706 (by decide +kernel) (by decide +kernel), vGT_at 61 (by decide +kernel) (by decide +kernel)⟩
theorem ki_X4_puts : Cond.instanceMethod yX4_puts ∈ vGT ∧ Cond.selects yX4_puts.cls yX4_puts yX4_puts ∈ vGT := ⟨vGT_at 705 (by decide +kernel) (by decide +kernel), vGT_at 23 (by decide +kernel) (by decide +kernel)⟩
theorem k0_X4_records : vK0 yX4_records cX4_records 2 none 0 := ⟨by decide +kernel, vGT_at 702 (by decide +kernel) (by decide +kernel), vGT_at 61 (by decide +kernel) (by decide +kernel)⟩
theorem ki_X4_records : Cond.instanceMethod yX4_records ∈ vGT ∧ Cond.selects yX4_records.cls yX4_records yX4_records ∈ vGT := ⟨vGT_at 701 (by decide +kernel) (by decide +kernel), vGT_at 22 (by decide +kernel) (by decide +kernel)⟩
theorem k0_X4_size : vK0 yX4_size cX4_size 3 (some .int) 1 := ⟨by decide +kernel, vGT_at 728 (by decide +kernel) (by decide +kernel), vGT_at 61 (by decide +kernel) (by decide +kernel)⟩
theorem ki_X4_size : Cond.static yX4_size ∈ vGT := vGT_at 727 (by decide +kernel) (by decide +kernel)
theorem k0_X4_layOut : vK0 yX4_layOut cX4_layOut 6 (some .int) 4 := ⟨by decide +kernel, vGT_at 690 (by decide +kernel) (by decide +kernel), vGT_at 61 (by decide +kernel) (by decide +kernel)⟩
theorem ki_X4_layOut : Cond.instanceMethod yX4_layOut ∈ vGT ∧ Cond.selects yX4_layOut.cls yX4_layOut yX4_layOut ∈ vGT := ⟨vGT_at 688 (by decide +kernel) (by decide +kernel), vGT_at 689 (by decide +kernel) (by decide +kernel)⟩
theorem k0_X4_stop : vK0 yX4_stop cX4_stop 3 (some .int) 2 := ⟨by decide +kernel, vGT_at 710 (by decide +kernel) (by decide +kernel), vGT_at 61 (by decide +kernel) (by decide +kernel)⟩
theorem ki_X4_stop : Cond.instanceMethod yX4_stop ∈ vGT ∧ Cond.selects yX4_stop.cls yX4_stop yX4_stop ∈ vGT := ⟨vGT_at 708 (by decide +kernel) (by decide +kernel), vGT_at 709 (by decide +kernel) (by decide +kernel)⟩
theorem k0_X4_set : vK0 yX4_set cX4_set 3 (some .int) 2 := ⟨by decide +kernel, vGT_at 714 (by decide +kernel) (by decide +kernel), vGT_at 61 (by decide +kernel) (by decide +kernel)⟩
theorem ki_X4_set : Cond.instanceMethod yX4_set ∈ vGT ∧ Cond.selects yX4_set.cls yX4_set yX4_set ∈ vGT := ⟨vGT_at 712 (by decide +kernel) (by decide +kernel), vGT_at 713 (by decide +kernel) (by decide +kernel)⟩
theorem k0_X4_ciphersAll : vK0 yX4_ciphersAll cX4_ciphersAll 3 (some .int) 0 := ⟨by decide +kernel, vGT_at 725 (by decide +kernel) (by decide +kernel), vGT_at 61 (by decide +kernel) (by decide +kernel)⟩
theorem ki_X4_ciphersAll : Cond.instanceMethod yX4_ciphersAll ∈ vGT ∧ Cond.selects yX4_ciphersAll.cls yX4_ciphersAll yX4_ciphersAll ∈ vGT := ⟨vGT_at 724 (by decide +kernel) (by decide +kernel), vGT_at 24 (by decide +kernel) (by decide +kernel)⟩
theorem k0_X4_with : vK0 yX4_with cX4_with 3 (some .int) 3 := ⟨by decide +kernel, vGT_at 732 (by decide +kernel) (by decide +kernel), vGT_at 61 (by decide +kernel) (by decide +kernel)⟩
theorem ki_X4_with : Cond.static yX4_with ∈ vGT := vGT_at 731 (by decide +kernel) (by decide +kernel)
theorem k0_X4_cipher : vK0 yX4_cipher cX4_cipher 5 (some .int) 3 := ⟨by decide +kernel, vGT_at 718 (by decide +kernel) (by decide +kernel), vGT_at 61 (by decide +kernel) (by decide +kernel)⟩
theorem ki_X4_cipher : Cond.instanceMethod yX4_cipher ∈ vGT ∧ Cond.selects yX4_cipher.cls yX4_cipher yX4_cipher ∈ vGT := ⟨vGT_at 716 (by decide +kernel) (by decide +kernel), vGT_at 717 (by decide +kernel) (by decide +kernel)⟩
theorem k0_X4_drawn : vK0 yX4_drawn cX4_drawn 3 (some .int) 0 := ⟨by decide +kernel, vGT_at 744 (by decide +kernel) (by decide +kernel), vGT_at 61 (by decide +kernel) (by decide +kernel)⟩
theorem ki_X4_drawn : Cond.instanceMethod yX4_drawn ∈ vGT ∧ Cond.selects yX4_drawn.cls yX4_drawn yX4_drawn ∈ vGT := ⟨vGT_at 743 (by decide +kernel) (by decide +kernel), vGT_at 26 (by decide +kernel) (by decide +kernel)⟩
theorem k0_X4_draws : vK0 yX4_draws cX4_draws 3 (some .int) 2 := ⟨by decide +kernel, vGT_at 740 (by decide +kernel) (by decide +kernel), vGT_at 61 (by decide +kernel) (by decide +kernel)⟩
theorem ki_X4_draws : Cond.instanceMethod yX4_draws ∈ vGT ∧ Cond.selects yX4_draws.cls yX4_draws yX4_draws ∈ vGT := ⟨vGT_at 739 (by decide +kernel) (by decide +kernel), vGT_at 25 (by decide +kernel) (by decide +kernel)⟩
theorem k0_X4_draw : vK0 yX4_draw cX4_draw 3 (some .int) 2 := ⟨by decide +kernel, vGT_at 736 (by decide +kernel) (by decide +kernel), vGT_at 61 (by decide +kernel) (by decide +kernel)⟩
theorem ki_X4_draw : Cond.instanceMethod yX4_draw ∈ vGT ∧ Cond.selects yX4_draw.cls yX4_draw yX4_draw ∈ vGT := ⟨vGT_at 734 (by decide +kernel) (by decide +kernel), vGT_at 735 (by decide +kernel) (by decide +kernel)⟩
theorem k0_X4_presses : vK0 yX4_presses cX4_presses 4 (some .int) 3 := ⟨by decide +kernel, vGT_at 752 (by decide +kernel) (by decide +kernel), vGT_at 61 (by decide +kernel) (by decide +kernel)⟩
theorem ki_X4_presses : Cond.instanceMethod yX4_presses ∈ vGT ∧ Cond.selects yX4_presses.cls yX4_presses yX4_presses ∈ vGT := ⟨vGT_at 751 (by decide +kernel) (by decide +kernel), vGT_at 27 (by decide +kernel) (by decide +kernel)⟩
theorem k0_X4_press : vK0 yX4_press cX4_press 4 (some .int) 3 := ⟨by decide +kernel, vGT_at 748 (by decide +kernel) (by decide +kernel), vGT_at 61 (by decide +kernel) (by decide +kernel)⟩
theorem ki_X4_press : Cond.instanceMethod yX4_press ∈ vGT ∧ Cond.selects yX4_press.cls yX4_press yX4_press ∈ vGT := ⟨vGT_at 746 (by decide +kernel) (by decide +kernel), vGT_at 747 (by decide +kernel) (by decide +kernel)⟩
theorem k0_X4_couple : vK0 yX4_couple cX4_couple 3 (some .int) 2 := ⟨by decide +kernel, vGT_at 756 (by decide +kernel) (by decide +kernel), vGT_at 61 (by decide +kernel) (by decide +kernel)⟩
theorem ki_X4_couple : Cond.instanceMethod yX4_couple ∈ vGT ∧ Cond.selects yX4_couple.cls yX4_couple yX4_couple ∈ vGT := ⟨vGT_at 754 (by decide +kernel) (by decide +kernel), vGT_at 755 (by decide +kernel) (by decide +kernel)⟩
theorem k0_X4_acts : vK0 yX4_acts cX4_acts 4 none 1 := ⟨by decide +kernel, vGT_at 780 (by decide +kernel) (by decide +kernel), vGT_at 61 (by decide +kernel) (by decide +kernel)⟩
theorem ki_X4_acts : Cond.instanceMethod yX4_acts ∈ vGT ∧ Cond.selects yX4_acts.cls yX4_acts yX4_acts ∈ vGT := ⟨vGT_at 779 (by decide +kernel) (by decide +kernel), vGT_at 32 (by decide +kernel) (by decide +kernel)⟩
theorem k0_X4_need : vK0 yX4_need cX4_need 3 (some .int) 2 := ⟨by decide +kernel, vGT_at 785 (by decide +kernel) (by decide +kernel), vGT_at 61 (by decide +kernel) (by decide +kernel)⟩
theorem ki_X4_need : Cond.instanceMethod yX4_need ∈ vGT ∧ Cond.selects yX4_need.cls yX4_need yX4_need ∈ vGT := ⟨vGT_at 784 (by decide +kernel) (by decide +kernel), vGT_at 33 (by decide +kernel) (by decide +kernel)⟩
theorem k0_X4_reservoir : vK0 yX4_reservoir cX4_reservoir 1 (some .int) 0 := ⟨by decide +kernel, vGT_at 789 (by decide +kernel) (by decide +kernel), vGT_at 61 (by decide +kernel) (by decide +kernel)⟩
theorem ki_X4_reservoir : Cond.instanceMethod yX4_reservoir ∈ vGT ∧ Cond.selects yX4_reservoir.cls yX4_reservoir yX4_reservoir ∈ vGT := ⟨vGT_at 788 (by decide +kernel) (by decide +kernel), vGT_at 34 (by decide +kernel) (by decide +kernel)⟩
theorem k0_X4_lays : vK0 yX4_lays cX4_lays 8 none 2 := ⟨by decide +kernel, vGT_at 776 (by decide +kernel) (by decide +kernel), vGT_at 61 (by decide +kernel) (by decide +kernel)⟩
theorem ki_X4_lays : Cond.instanceMethod yX4_lays ∈ vGT ∧ Cond.selects yX4_lays.cls yX4_lays yX4_lays ∈ vGT := ⟨vGT_at 775 (by decide +kernel) (by decide +kernel), vGT_at 31 (by decide +kernel) (by decide +kernel)⟩
theorem k0_X4_laysNow : vK0 yX4_laysNow cX4_laysNow 1 none 0 := ⟨by decide +kernel, vGT_at 772 (by decide +kernel) (by decide +kernel), vGT_at 61 (by decide +kernel) (by decide +kernel)⟩
theorem ki_X4_laysNow : Cond.instanceMethod yX4_laysNow ∈ vGT ∧ Cond.selects yX4_laysNow.cls yX4_laysNow yX4_laysNow ∈ vGT := ⟨vGT_at 771 (by decide +kernel) (by decide +kernel), vGT_at 30 (by decide +kernel) (by decide +kernel)⟩
theorem k0_X4_isOpen : vK0 yX4_isOpen cX4_isOpen 3 (some .boolean) 2 := ⟨by decide +kernel, vGT_at 859 (by decide +kernel) (by decide +kernel), vGT_at 61 (by decide +kernel) (by decide +kernel)⟩
theorem ki_X4_isOpen : Cond.instanceMethod yX4_isOpen ∈ vGT ∧ Cond.selects yX4_isOpen.cls yX4_isOpen yX4_isOpen ∈ vGT := ⟨vGT_at 858 (by decide +kernel) (by decide +kernel), vGT_at 46 (by decide +kernel) (by decide +kernel)⟩
theorem k0_X4_reasonOf : vK0 yX4_reasonOf cX4_reasonOf 5 (some .int) 3 := ⟨by decide +kernel, vGT_at 855 (by decide +kernel) (by decide +kernel), vGT_at 61 (by decide +kernel) (by decide +kernel)⟩
theorem ki_X4_reasonOf : Cond.instanceMethod yX4_reasonOf ∈ vGT ∧ Cond.selects yX4_reasonOf.cls yX4_reasonOf yX4_reasonOf ∈ vGT := ⟨vGT_at 854 (by decide +kernel) (by decide +kernel), vGT_at 45 (by decide +kernel) (by decide +kernel)⟩
theorem k0_X4_pitch : vK0 yX4_pitch cX4_pitch 3 (some .int) 2 := ⟨by decide +kernel, vGT_at 883 (by decide +kernel) (by decide +kernel), vGT_at 61 (by decide +kernel) (by decide +kernel)⟩
theorem ki_X4_pitch : Cond.instanceMethod yX4_pitch ∈ vGT ∧ Cond.selects yX4_pitch.cls yX4_pitch yX4_pitch ∈ vGT := ⟨vGT_at 882 (by decide +kernel) (by decide +kernel), vGT_at 49 (by decide +kernel) (by decide +kernel)⟩
theorem k0_X4_bend : vK0 yX4_bend cX4_bend 2 (some .int) 1 := ⟨by decide +kernel, vGT_at 887 (by decide +kernel) (by decide +kernel), vGT_at 61 (by decide +kernel) (by decide +kernel)⟩
theorem ki_X4_bend : Cond.instanceMethod yX4_bend ∈ vGT ∧ Cond.selects yX4_bend.cls yX4_bend yX4_bend ∈ vGT := ⟨vGT_at 886 (by decide +kernel) (by decide +kernel), vGT_at 50 (by decide +kernel) (by decide +kernel)⟩
theorem k0_X4_ticks : vK0 yX4_ticks cX4_ticks 3 none 0 := ⟨by decide +kernel, vGT_at 768 (by decide +kernel) (by decide +kernel), vGT_at 61 (by decide +kernel) (by decide +kernel)⟩
theorem ki_X4_ticks : Cond.instanceMethod yX4_ticks ∈ vGT ∧ Cond.selects yX4_ticks.cls yX4_ticks yX4_ticks ∈ vGT := ⟨vGT_at 767 (by decide +kernel) (by decide +kernel), vGT_at 29 (by decide +kernel) (by decide +kernel)⟩
theorem k0_X4_passes : vK0 yX4_passes cX4_passes 3 (some .int) 1 := ⟨by decide +kernel, vGT_at 764 (by decide +kernel) (by decide +kernel), vGT_at 61 (by decide +kernel) (by decide +kernel)⟩
theorem ki_X4_passes : Cond.instanceMethod yX4_passes ∈ vGT ∧ Cond.selects yX4_passes.cls yX4_passes yX4_passes ∈ vGT := ⟨vGT_at 763 (by decide +kernel) (by decide +kernel), vGT_at 28 (by decide +kernel) (by decide +kernel)⟩
theorem k0_X4_tick : vK0 yX4_tick cX4_tick 2 (some .int) 1 := ⟨by decide +kernel, vGT_at 760 (by decide +kernel) (by decide +kernel), vGT_at 61 (by decide +kernel) (by decide +kernel)⟩
theorem ki_X4_tick : Cond.instanceMethod yX4_tick ∈ vGT ∧ Cond.selects yX4_tick.cls yX4_tick yX4_tick ∈ vGT := ⟨vGT_at 758 (by decide +kernel) (by decide +kernel), vGT_at 759 (by decide +kernel) (by decide +kernel)⟩
theorem k0_X4_append : vK0 yX4_append cX4_append 2 (some .int) 1 := ⟨by decide +kernel, vGT_at 793 (by decide +kernel) (by decide +kernel), vGT_at 61 (by decide +kernel) (by decide +kernel)⟩
theorem ki_X4_append : Cond.instanceMethod yX4_append ∈ vGT ∧ Cond.selects yX4_append.cls yX4_append yX4_append ∈ vGT := ⟨vGT_at 791 (by decide +kernel) (by decide +kernel), vGT_at 792 (by decide +kernel) (by decide +kernel)⟩
theorem k0_X4_clearText : vK0 yX4_clearText cX4_clearText 2 (some .int) 0 := ⟨by decide +kernel, vGT_at 797 (by decide +kernel) (by decide +kernel), vGT_at 61 (by decide +kernel) (by decide +kernel)⟩
theorem ki_X4_clearText : Cond.instanceMethod yX4_clearText ∈ vGT ∧ Cond.selects yX4_clearText.cls yX4_clearText yX4_clearText ∈ vGT := ⟨vGT_at 795 (by decide +kernel) (by decide +kernel), vGT_at 796 (by decide +kernel) (by decide +kernel)⟩
theorem k0_X4_here : vK0 yX4_here cX4_here 1 (some .int) 0 := ⟨by decide +kernel, vGT_at 813 (by decide +kernel) (by decide +kernel), vGT_at 61 (by decide +kernel) (by decide +kernel)⟩
theorem ki_X4_here : Cond.instanceMethod yX4_here ∈ vGT ∧ Cond.selects yX4_here.cls yX4_here yX4_here ∈ vGT := ⟨vGT_at 812 (by decide +kernel) (by decide +kernel), vGT_at 37 (by decide +kernel) (by decide +kernel)⟩
theorem k0_X4_takes : vK0 yX4_takes cX4_takes 3 (some .boolean) 1 := ⟨by decide +kernel, vGT_at 817 (by decide +kernel) (by decide +kernel), vGT_at 61 (by decide +kernel) (by decide +kernel)⟩
theorem ki_X4_takes : Cond.instanceMethod yX4_takes ∈ vGT ∧ Cond.selects yX4_takes.cls yX4_takes yX4_takes ∈ vGT := ⟨vGT_at 816 (by decide +kernel) (by decide +kernel), vGT_at 38 (by decide +kernel) (by decide +kernel)⟩
theorem k0_X4_isDigit : vK0 yX4_isDigit cX4_isDigit 1 (some .boolean) 0 := ⟨by decide +kernel, vGT_at 829 (by decide +kernel) (by decide +kernel), vGT_at 61 (by decide +kernel) (by decide +kernel)⟩
theorem ki_X4_isDigit : Cond.instanceMethod yX4_isDigit ∈ vGT ∧ Cond.selects yX4_isDigit.cls yX4_isDigit yX4_isDigit ∈ vGT := ⟨vGT_at 828 (by decide +kernel) (by decide +kernel), vGT_at 41 (by decide +kernel) (by decide +kernel)⟩
theorem k0_X4_isFirst : vK0 yX4_isFirst cX4_isFirst 3 (some .boolean) 1 := ⟨by decide +kernel, vGT_at 821 (by decide +kernel) (by decide +kernel), vGT_at 61 (by decide +kernel) (by decide +kernel)⟩
theorem ki_X4_isFirst : Cond.instanceMethod yX4_isFirst ∈ vGT ∧ Cond.selects yX4_isFirst.cls yX4_isFirst yX4_isFirst ∈ vGT := ⟨vGT_at 820 (by decide +kernel) (by decide +kernel), vGT_at 39 (by decide +kernel) (by decide +kernel)⟩
theorem k0_X4_isNumber : vK0 yX4_isNumber cX4_isNumber 6 (some .boolean) 2 := ⟨by decide +kernel, vGT_at 825 (by decide +kernel) (by decide +kernel), vGT_at 61 (by decide +kernel) (by decide +kernel)⟩
theorem ki_X4_isNumber : Cond.instanceMethod yX4_isNumber ∈ vGT ∧ Cond.selects yX4_isNumber.cls yX4_isNumber yX4_isNumber ∈ vGT := ⟨vGT_at 824 (by decide +kernel) (by decide +kernel), vGT_at 40 (by decide +kernel) (by decide +kernel)⟩
theorem k0_X4_isAct : vK0 yX4_isAct cX4_isAct 1 (some .boolean) 0 := ⟨by decide +kernel, vGT_at 809 (by decide +kernel) (by decide +kernel), vGT_at 61 (by decide +kernel) (by decide +kernel)⟩
theorem ki_X4_isAct : Cond.instanceMethod yX4_isAct ∈ vGT ∧ Cond.selects yX4_isAct.cls yX4_isAct yX4_isAct ∈ vGT := ⟨vGT_at 808 (by decide +kernel) (by decide +kernel), vGT_at 36 (by decide +kernel) (by decide +kernel)⟩
theorem k0_X4_isText : vK0 yX4_isText cX4_isText 2 (some .boolean) 0 := ⟨by decide +kernel, vGT_at 805 (by decide +kernel) (by decide +kernel), vGT_at 61 (by decide +kernel) (by decide +kernel)⟩
theorem ki_X4_isText : Cond.instanceMethod yX4_isText ∈ vGT ∧ Cond.selects yX4_isText.cls yX4_isText yX4_isText ∈ vGT := ⟨vGT_at 804 (by decide +kernel) (by decide +kernel), vGT_at 35 (by decide +kernel) (by decide +kernel)⟩
theorem k0_X4_faultPosition : vK0 yX4_faultPosition cX4_faultPosition 1 (some .int) 0 := ⟨by decide +kernel, vGT_at 801 (by decide +kernel) (by decide +kernel), vGT_at 61 (by decide +kernel) (by decide +kernel)⟩
theorem ki_X4_faultPosition : Cond.instanceMethod yX4_faultPosition ∈ vGT ∧ Cond.selects yX4_faultPosition.cls yX4_faultPosition yX4_faultPosition ∈ vGT := ⟨vGT_at 799 (by decide +kernel) (by decide +kernel), vGT_at 800 (by decide +kernel) (by decide +kernel)⟩
theorem k0_X4_play : vK0 yX4_play cX4_play 4 (some .int) 0 := ⟨by decide +kernel, vGT_at 834 (by decide +kernel) (by decide +kernel), vGT_at 61 (by decide +kernel) (by decide +kernel)⟩
theorem ki_X4_play : Cond.instanceMethod yX4_play ∈ vGT ∧ Cond.selects yX4_play.cls yX4_play yX4_play ∈ vGT := ⟨vGT_at 832 (by decide +kernel) (by decide +kernel), vGT_at 833 (by decide +kernel) (by decide +kernel)⟩
theorem k0_X4_speaking : vK0 yX4_speaking cX4_speaking 4 (some .int) 1 := ⟨by decide +kernel, vGT_at 851 (by decide +kernel) (by decide +kernel), vGT_at 61 (by decide +kernel) (by decide +kernel)⟩
theorem ki_X4_speaking : Cond.instanceMethod yX4_speaking ∈ vGT ∧ Cond.selects yX4_speaking.cls yX4_speaking yX4_speaking ∈ vGT := ⟨vGT_at 850 (by decide +kernel) (by decide +kernel), vGT_at 44 (by decide +kernel) (by decide +kernel)⟩
theorem k0_X4_openMany : vK0 yX4_openMany cX4_openMany 3 (some .int) 0 := ⟨by decide +kernel, vGT_at 847 (by decide +kernel) (by decide +kernel), vGT_at 61 (by decide +kernel) (by decide +kernel)⟩
theorem ki_X4_openMany : Cond.instanceMethod yX4_openMany ∈ vGT ∧ Cond.selects yX4_openMany.cls yX4_openMany yX4_openMany ∈ vGT := ⟨vGT_at 846 (by decide +kernel) (by decide +kernel), vGT_at 43 (by decide +kernel) (by decide +kernel)⟩
theorem k0_X4_tells : vK0 yX4_tells cX4_tells 2 (some .int) 1 := ⟨by decide +kernel, vGT_at 843 (by decide +kernel) (by decide +kernel), vGT_at 61 (by decide +kernel) (by decide +kernel)⟩
theorem ki_X4_tells : Cond.instanceMethod yX4_tells ∈ vGT ∧ Cond.selects yX4_tells.cls yX4_tells yX4_tells ∈ vGT := ⟨vGT_at 842 (by decide +kernel) (by decide +kernel), vGT_at 42 (by decide +kernel) (by decide +kernel)⟩
theorem k0_X4_tell : vK0 yX4_tell cX4_tell 2 (some .int) 1 := ⟨by decide +kernel, vGT_at 839 (by decide +kernel) (by decide +kernel), vGT_at 61 (by decide +kernel) (by decide +kernel)⟩
theorem ki_X4_tell : Cond.instanceMethod yX4_tell ∈ vGT ∧ Cond.selects yX4_tell.cls yX4_tell yX4_tell ∈ vGT := ⟨vGT_at 837 (by decide +kernel) (by decide +kernel), vGT_at 838 (by decide +kernel) (by decide +kernel)⟩
theorem k0_X4_chestTells : vK0 yX4_chestTells cX4_chestTells 3 (some .int) 2 := ⟨by decide +kernel, vGT_at 867 (by decide +kernel) (by decide +kernel), vGT_at 61 (by decide +kernel) (by decide +kernel)⟩
theorem ki_X4_chestTells : Cond.instanceMethod yX4_chestTells ∈ vGT ∧ Cond.selects yX4_chestTells.cls yX4_chestTells yX4_chestTells ∈ vGT := ⟨vGT_at 866 (by decide +kernel) (by decide +kernel), vGT_at 47 (by decide +kernel) (by decide +kernel)⟩
theorem k0_X4_chest : vK0 yX4_chest cX4_chest 3 (some .int) 2 := ⟨by decide +kernel, vGT_at 863 (by decide +kernel) (by decide +kernel), vGT_at 61 (by decide +kernel) (by decide +kernel)⟩
theorem ki_X4_chest : Cond.instanceMethod yX4_chest ∈ vGT ∧ Cond.selects yX4_chest.cls yX4_chest yX4_chest ∈ vGT := ⟨vGT_at 861 (by decide +kernel) (by decide +kernel), vGT_at 862 (by decide +kernel) (by decide +kernel)⟩
theorem k0_X4_strokes : vK0 yX4_strokes cX4_strokes 2 (some .int) 1 := ⟨by decide +kernel, vGT_at 871 (by decide +kernel) (by decide +kernel), vGT_at 61 (by decide +kernel) (by decide +kernel)⟩
theorem ki_X4_strokes : Cond.instanceMethod yX4_strokes ∈ vGT ∧ Cond.selects yX4_strokes.cls yX4_strokes yX4_strokes ∈ vGT := ⟨vGT_at 869 (by decide +kernel) (by decide +kernel), vGT_at 870 (by decide +kernel) (by decide +kernel)⟩
theorem k0_X4_pipeTells : vK0 yX4_pipeTells cX4_pipeTells 5 (some .int) 3 := ⟨by decide +kernel, vGT_at 879 (by decide +kernel) (by decide +kernel), vGT_at 61 (by decide +kernel) (by decide +kernel)⟩
theorem ki_X4_pipeTells : Cond.instanceMethod yX4_pipeTells ∈ vGT ∧ Cond.selects yX4_pipeTells.cls yX4_pipeTells yX4_pipeTells ∈ vGT := ⟨vGT_at 878 (by decide +kernel) (by decide +kernel), vGT_at 48 (by decide +kernel) (by decide +kernel)⟩
theorem k0_X4_pipe : vK0 yX4_pipe cX4_pipe 4 (some .int) 3 := ⟨by decide +kernel, vGT_at 875 (by decide +kernel) (by decide +kernel), vGT_at 61 (by decide +kernel) (by decide +kernel)⟩
theorem ki_X4_pipe : Cond.instanceMethod yX4_pipe ∈ vGT ∧ Cond.selects yX4_pipe.cls yX4_pipe yX4_pipe ∈ vGT := ⟨vGT_at 873 (by decide +kernel) (by decide +kernel), vGT_at 874 (by decide +kernel) (by decide +kernel)⟩
theorem k0_X4_reasonNow : vK0 yX4_reasonNow cX4_reasonNow 3 (some .int) 2 := ⟨by decide +kernel, vGT_at 898 (by decide +kernel) (by decide +kernel), vGT_at 61 (by decide +kernel) (by decide +kernel)⟩
theorem ki_X4_reasonNow : Cond.instanceMethod yX4_reasonNow ∈ vGT ∧ Cond.selects yX4_reasonNow.cls yX4_reasonNow yX4_reasonNow ∈ vGT := ⟨vGT_at 897 (by decide +kernel) (by decide +kernel), vGT_at 51 (by decide +kernel) (by decide +kernel)⟩
theorem k0_X4_reason : vK0 yX4_reason cX4_reason 3 (some .int) 2 := ⟨by decide +kernel, vGT_at 894 (by decide +kernel) (by decide +kernel), vGT_at 61 (by decide +kernel) (by decide +kernel)⟩
theorem ki_X4_reason : Cond.instanceMethod yX4_reason ∈ vGT ∧ Cond.selects yX4_reason.cls yX4_reason yX4_reason ∈ vGT := ⟨vGT_at 892 (by decide +kernel) (by decide +kernel), vGT_at 893 (by decide +kernel) (by decide +kernel)⟩
theorem k0_X4_tune : vK0 yX4_tune cX4_tune 3 (some .int) 2 := ⟨by decide +kernel, vGT_at 902 (by decide +kernel) (by decide +kernel), vGT_at 61 (by decide +kernel) (by decide +kernel)⟩
theorem ki_X4_tune : Cond.instanceMethod yX4_tune ∈ vGT ∧ Cond.selects yX4_tune.cls yX4_tune yX4_tune ∈ vGT := ⟨vGT_at 900 (by decide +kernel) (by decide +kernel), vGT_at 901 (by decide +kernel) (by decide +kernel)⟩
theorem k0_X4_mistunedNow : vK0 yX4_mistunedNow cX4_mistunedNow 7 (some .int) 0 := ⟨by decide +kernel, vGT_at 910 (by decide +kernel) (by decide +kernel), vGT_at 61 (by decide +kernel) (by decide +kernel)⟩
theorem ki_X4_mistunedNow : Cond.instanceMethod yX4_mistunedNow ∈ vGT ∧ Cond.selects yX4_mistunedNow.cls yX4_mistunedNow yX4_mistunedNow ∈ vGT := ⟨vGT_at 909 (by decide +kernel) (by decide +kernel), vGT_at 52 (by decide +kernel) (by decide +kernel)⟩
theorem k0_X4_mistuned : vK0 yX4_mistuned cX4_mistuned 1 (some .int) 0 := ⟨by decide +kernel, vGT_at 906 (by decide +kernel) (by decide +kernel), vGT_at 61 (by decide +kernel) (by decide +kernel)⟩
theorem ki_X4_mistuned : Cond.instanceMethod yX4_mistuned ∈ vGT ∧ Cond.selects yX4_mistuned.cls yX4_mistuned yX4_mistuned ∈ vGT := ⟨vGT_at 904 (by decide +kernel) (by decide +kernel), vGT_at 905 (by decide +kernel) (by decide +kernel)⟩
theorem k0_X4_isHeard : vK0 yX4_isHeard cX4_isHeard 5 (some .boolean) 2 := ⟨by decide +kernel, vGT_at 922 (by decide +kernel) (by decide +kernel), vGT_at 61 (by decide +kernel) (by decide +kernel)⟩
theorem ki_X4_isHeard : Cond.instanceMethod yX4_isHeard ∈ vGT ∧ Cond.selects yX4_isHeard.cls yX4_isHeard yX4_isHeard ∈ vGT := ⟨vGT_at 921 (by decide +kernel) (by decide +kernel), vGT_at 54 (by decide +kernel) (by decide +kernel)⟩
theorem k0_X4_searches : vK0 yX4_searches cX4_searches 6 (some .int) 1 := ⟨by decide +kernel, vGT_at 918 (by decide +kernel) (by decide +kernel), vGT_at 61 (by decide +kernel) (by decide +kernel)⟩
theorem ki_X4_searches : Cond.instanceMethod yX4_searches ∈ vGT ∧ Cond.selects yX4_searches.cls yX4_searches yX4_searches ∈ vGT := ⟨vGT_at 917 (by decide +kernel) (by decide +kernel), vGT_at 53 (by decide +kernel) (by decide +kernel)⟩
theorem k0_X4_lowestOf : vK0 yX4_lowestOf cX4_lowestOf 2 (some .int) 1 := ⟨by decide +kernel, vGT_at 925 (by decide +kernel) (by decide +kernel), vGT_at 61 (by decide +kernel) (by decide +kernel)⟩
theorem ki_X4_lowestOf : Cond.static yX4_lowestOf ∈ vGT := vGT_at 924 (by decide +kernel) (by decide +kernel)
theorem k0_X4_search : vK0 yX4_search cX4_search 2 (some .int) 1 := ⟨by decide +kernel, vGT_at 914 (by decide +kernel) (by decide +kernel), vGT_at 61 (by decide +kernel) (by decide +kernel)⟩
theorem ki_X4_search : Cond.instanceMethod yX4_search ∈ vGT ∧ Cond.selects yX4_search.cls yX4_search yX4_search ∈ vGT := ⟨vGT_at 912 (by decide +kernel) (by decide +kernel), vGT_at 913 (by decide +kernel) (by decide +kernel)⟩
theorem k0_X4_robbed : vK0 yX4_robbed cX4_robbed 5 (some .int) 1 := ⟨by decide +kernel, vGT_at 929 (by decide +kernel) (by decide +kernel), vGT_at 61 (by decide +kernel) (by decide +kernel)⟩
theorem ki_X4_robbed : Cond.instanceMethod yX4_robbed ∈ vGT ∧ Cond.selects yX4_robbed.cls yX4_robbed yX4_robbed ∈ vGT := ⟨vGT_at 927 (by decide +kernel) (by decide +kernel), vGT_at 928 (by decide +kernel) (by decide +kernel)⟩
theorem k0_X4_lowest : vK0 yX4_lowest cX4_lowest 5 (some .int) 1 := ⟨by decide +kernel, vGT_at 933 (by decide +kernel) (by decide +kernel), vGT_at 61 (by decide +kernel) (by decide +kernel)⟩
theorem ki_X4_lowest : Cond.instanceMethod yX4_lowest ∈ vGT ∧ Cond.selects yX4_lowest.cls yX4_lowest yX4_lowest ∈ vGT := ⟨vGT_at 931 (by decide +kernel) (by decide +kernel), vGT_at 932 (by decide +kernel) (by decide +kernel)⟩
theorem k0_X4_undo : vK0 yX4_undo cX4_undo 2 (some .int) 0 := ⟨by decide +kernel, vGT_at 937 (by decide +kernel) (by decide +kernel), vGT_at 61 (by decide +kernel) (by decide +kernel)⟩
theorem ki_X4_undo : Cond.instanceMethod yX4_undo ∈ vGT ∧ Cond.selects yX4_undo.cls yX4_undo yX4_undo ∈ vGT := ⟨vGT_at 935 (by decide +kernel) (by decide +kernel), vGT_at 936 (by decide +kernel) (by decide +kernel)⟩
theorem k0_X4_save : vK0 yX4_save cX4_save 3 (some .int) 1 := ⟨by decide +kernel, vGT_at 941 (by decide +kernel) (by decide +kernel), vGT_at 61 (by decide +kernel) (by decide +kernel)⟩
theorem ki_X4_save : Cond.instanceMethod yX4_save ∈ vGT ∧ Cond.selects yX4_save.cls yX4_save yX4_save ∈ vGT := ⟨vGT_at 939 (by decide +kernel) (by decide +kernel), vGT_at 940 (by decide +kernel) (by decide +kernel)⟩
theorem k0_X4_restore : vK0 yX4_restore cX4_restore 3 (some .int) 1 := ⟨by decide +kernel, vGT_at 945 (by decide +kernel) (by decide +kernel), vGT_at 61 (by decide +kernel) (by decide +kernel)⟩
theorem ki_X4_restore : Cond.instanceMethod yX4_restore ∈ vGT ∧ Cond.selects yX4_restore.cls yX4_restore yX4_restore ∈ vGT := ⟨vGT_at 943 (by decide +kernel) (by decide +kernel), vGT_at 944 (by decide +kernel) (by decide +kernel)⟩
theorem k0_X4_more : vK0 yX4_more cX4_more 3 (some .long) 2 := ⟨by decide +kernel, vGT_at 953 (by decide +kernel) (by decide +kernel), vGT_at 61 (by decide +kernel) (by decide +kernel)⟩
theorem ki_X4_more : Cond.static yX4_more ∈ vGT := vGT_at 952 (by decide +kernel) (by decide +kernel)
theorem k0_X4_checksum : vK0 yX4_checksum cX4_checksum 7 (some .long) 0 := ⟨by decide +kernel, vGT_at 949 (by decide +kernel) (by decide +kernel), vGT_at 61 (by decide +kernel) (by decide +kernel)⟩
theorem ki_X4_checksum : Cond.instanceMethod yX4_checksum ∈ vGT ∧ Cond.selects yX4_checksum.cls yX4_checksum yX4_checksum ∈ vGT := ⟨vGT_at 947 (by decide +kernel) (by decide +kernel), vGT_at 948 (by decide +kernel) (by decide +kernel)⟩
theorem k0_X0_init : vK0 yX0_init cX0_init 2 none 0 := ⟨by decide +kernel, vGT_at 76 (by decide +kernel) (by decide +kernel), vGT_at 57 (by decide +kernel) (by decide +kernel)⟩
theorem ki_X0_init : Cond.instanceMethod yX0_init ∈ vGT := vGT_at 75 (by decide +kernel) (by decide +kernel)
theorem k0_X0_takeStops : vK0 yX0_takeStops cX0_takeStops 2 none 1 := ⟨by decide +kernel, vGT_at 284 (by decide +kernel) (by decide +kernel), vGT_at 57 (by decide +kernel) (by decide +kernel)⟩
theorem ki_X0_takeStops : Cond.instanceMethod yX0_takeStops ∈ vGT ∧ Cond.selects yX0_takeStops.cls yX0_takeStops yX0_takeStops ∈ vGT := ⟨vGT_at 282 (by decide +kernel) (by decide +kernel), vGT_at 283 (by decide +kernel) (by decide +kernel)⟩
theorem k0_X0_takeBellows : vK0 yX0_takeBellows cX0_takeBellows 2 none 1 := ⟨by decide +kernel, vGT_at 288 (by decide +kernel) (by decide +kernel), vGT_at 57 (by decide +kernel) (by decide +kernel)⟩
theorem ki_X0_takeBellows : Cond.instanceMethod yX0_takeBellows ∈ vGT ∧ Cond.selects yX0_takeBellows.cls yX0_takeBellows yX0_takeBellows ∈ vGT := ⟨vGT_at 286 (by decide +kernel) (by decide +kernel), vGT_at 287 (by decide +kernel) (by decide +kernel)⟩
theorem k0_X0_manualOf : vK0 yX0_manualOf cX0_manualOf 2 (some .int) 1 := ⟨by decide +kernel, vGT_at 354 (by decide +kernel) (by decide +kernel), vGT_at 57 (by decide +kernel) (by decide +kernel)⟩
theorem ki_X0_manualOf : Cond.instanceMethod yX0_manualOf ∈ vGT ∧ Cond.selects yX0_manualOf.cls yX0_manualOf yX0_manualOf ∈ vGT := ⟨vGT_at 352 (by decide +kernel) (by decide +kernel), vGT_at 353 (by decide +kernel) (by decide +kernel)⟩
theorem k0_X0_need : vK0 yX0_need cX0_need 3 (some .int) 2 := ⟨by decide +kernel, vGT_at 364 (by decide +kernel) (by decide +kernel), vGT_at 57 (by decide +kernel) (by decide +kernel)⟩
theorem ki_X0_need : Cond.instanceMethod yX0_need ∈ vGT ∧ Cond.selects yX0_need.cls yX0_need yX0_need ∈ vGT := ⟨vGT_at 362 (by decide +kernel) (by decide +kernel), vGT_at 363 (by decide +kernel) (by decide +kernel)⟩
theorem k0_X0_actingKeys : vK0 yX0_actingKeys cX0_actingKeys 3 (some .int) 1 := ⟨by decide +kernel, vGT_at 358 (by decide +kernel) (by decide +kernel), vGT_at 57 (by decide +kernel) (by decide +kernel)⟩
theorem ki_X0_actingKeys : Cond.instanceMethod yX0_actingKeys ∈ vGT ∧ Cond.selects yX0_actingKeys.cls yX0_actingKeys yX0_actingKeys ∈ vGT := ⟨vGT_at 356 (by decide +kernel) (by decide +kernel), vGT_at 357 (by decide +kernel) (by decide +kernel)⟩
theorem k0_X0_reservoirPressure : vK0 yX0_reservoirPressure cX0_reservoirPressure 1 (some .int) 0 := ⟨by decide +kernel, vGT_at 388 (by decide +kernel) (by decide +kernel), vGT_at 57 (by decide +kernel) (by decide +kernel)⟩
theorem ki_X0_reservoirPressure : Cond.instanceMethod yX0_reservoirPressure ∈ vGT ∧ Cond.selects yX0_reservoirPressure.cls yX0_reservoirPressure yX0_reservoirPressure ∈ vGT := ⟨vGT_at 386 (by decide +kernel) (by decide +kernel), vGT_at 387 (by decide +kernel) (by decide +kernel)⟩
theorem k0_X0_pump : vK0 yX0_pump cX0_pump 1 none 0 := ⟨by decide +kernel, vGT_at 370 (by decide +kernel) (by decide +kernel), vGT_at 57 (by decide +kernel) (by decide +kernel)⟩
theorem ki_X0_pump : Cond.instanceMethod yX0_pump ∈ vGT ∧ Cond.selects yX0_pump.cls yX0_pump yX0_pump ∈ vGT := ⟨vGT_at 368 (by decide +kernel) (by decide +kernel), vGT_at 369 (by decide +kernel) (by decide +kernel)⟩
theorem k0_X0_beginStroke : vK0 yX0_beginStroke cX0_beginStroke 1 none 0 := ⟨by decide +kernel, vGT_at 374 (by decide +kernel) (by decide +kernel), vGT_at 57 (by decide +kernel) (by decide +kernel)⟩
theorem ki_X0_beginStroke : Cond.instanceMethod yX0_beginStroke ∈ vGT ∧ Cond.selects yX0_beginStroke.cls yX0_beginStroke yX0_beginStroke ∈ vGT := ⟨vGT_at 373 (by decide +kernel) (by decide +kernel), vGT_at 2 (by decide +kernel) (by decide +kernel)⟩
theorem k0_X0_makePart : vK0 yX0_makePart cX0_makePart 2 none 0 := ⟨by decide +kernel, vGT_at 384 (by decide +kernel) (by decide +kernel), vGT_at 57 (by decide +kernel) (by decide +kernel)⟩
theorem ki_X0_makePart : Cond.instanceMethod yX0_makePart ∈ vGT ∧ Cond.selects yX0_makePart.cls yX0_makePart yX0_makePart ∈ vGT := ⟨vGT_at 383 (by decide +kernel) (by decide +kernel), vGT_at 3 (by decide +kernel) (by decide +kernel)⟩
theorem k0_X1_init : vK0 yX1_init cX1_init 1 none 0 := ⟨by decide +kernel, vGT_at 172 (by decide +kernel) (by decide +kernel), vGT_at 59 (by decide +kernel) (by decide +kernel)⟩
theorem ki_X1_init : Cond.instanceMethod yX1_init ∈ vGT := vGT_at 171 (by decide +kernel) (by decide +kernel)
theorem k0_X1_add : vK0 yX1_add cX1_add 2 (some .boolean) 1 := ⟨by decide +kernel, vGT_at 421 (by decide +kernel) (by decide +kernel), vGT_at 59 (by decide +kernel) (by decide +kernel)⟩
theorem ki_X1_add : Cond.instanceMethod yX1_add ∈ vGT ∧ Cond.selects yX1_add.cls yX1_add yX1_add ∈ vGT := ⟨vGT_at 419 (by decide +kernel) (by decide +kernel), vGT_at 420 (by decide +kernel) (by decide +kernel)⟩
theorem k0_X1_begin : vK0 yX1_begin cX1_begin 1 none 0 := ⟨by decide +kernel, vGT_at 438 (by decide +kernel) (by decide +kernel), vGT_at 59 (by decide +kernel) (by decide +kernel)⟩
theorem ki_X1_begin : Cond.instanceMethod yX1_begin ∈ vGT ∧ Cond.selects yX1_begin.cls yX1_begin yX1_begin ∈ vGT := ⟨vGT_at 436 (by decide +kernel) (by decide +kernel), vGT_at 437 (by decide +kernel) (by decide +kernel)⟩
theorem k0_X1_hasMore : vK0 yX1_hasMore cX1_hasMore 1 (some .boolean) 0 := ⟨by decide +kernel, vGT_at 443 (by decide +kernel) (by decide +kernel), vGT_at 59 (by decide +kernel) (by decide +kernel)⟩
theorem ki_X1_hasMore : Cond.instanceMethod yX1_hasMore ∈ vGT ∧ Cond.selects yX1_hasMore.cls yX1_hasMore yX1_hasMore ∈ vGT := ⟨vGT_at 441 (by decide +kernel) (by decide +kernel), vGT_at 442 (by decide +kernel) (by decide +kernel)⟩
theorem k0_X1_findFault : vK0 yX1_findFault cX1_findFault 2 (some .int) 0 := ⟨by decide +kernel, vGT_at 434 (by decide +kernel) (by decide +kernel), vGT_at 59 (by decide +kernel) (by decide +kernel)⟩
theorem ki_X1_findFault : Cond.instanceMethod yX1_findFault ∈ vGT ∧ Cond.selects yX1_findFault.cls yX1_findFault yX1_findFault ∈ vGT := ⟨vGT_at 432 (by decide +kernel) (by decide +kernel), vGT_at 433 (by decide +kernel) (by decide +kernel)⟩
theorem k0_X1_readAct : vK0 yX1_readAct cX1_readAct 1 none 0 := ⟨by decide +kernel, vGT_at 447 (by decide +kernel) (by decide +kernel), vGT_at 59 (by decide +kernel) (by decide +kernel)⟩
theorem ki_X1_readAct : Cond.instanceMethod yX1_readAct ∈ vGT ∧ Cond.selects yX1_readAct.cls yX1_readAct yX1_readAct ∈ vGT := ⟨vGT_at 445 (by decide +kernel) (by decide +kernel), vGT_at 446 (by decide +kernel) (by decide +kernel)⟩
theorem k0_X1_readDigit : vK0 yX1_readDigit cX1_readDigit 3 (some .int) 1 := ⟨by decide +kernel, vGT_at 455 (by decide +kernel) (by decide +kernel), vGT_at 59 (by decide +kernel) (by decide +kernel)⟩
theorem ki_X1_readDigit : Cond.instanceMethod yX1_readDigit ∈ vGT ∧ Cond.selects yX1_readDigit.cls yX1_readDigit yX1_readDigit ∈ vGT := ⟨vGT_at 454 (by decide +kernel) (by decide +kernel), vGT_at 5 (by decide +kernel) (by decide +kernel)⟩
theorem k0_X1_readNumber : vK0 yX1_readNumber cX1_readNumber 6 (some .int) 2 := ⟨by decide +kernel, vGT_at 459 (by decide +kernel) (by decide +kernel), vGT_at 59 (by decide +kernel) (by decide +kernel)⟩
theorem ki_X1_readNumber : Cond.instanceMethod yX1_readNumber ∈ vGT ∧ Cond.selects yX1_readNumber.cls yX1_readNumber yX1_readNumber ∈ vGT := ⟨vGT_at 458 (by decide +kernel) (by decide +kernel), vGT_at 6 (by decide +kernel) (by decide +kernel)⟩
theorem k0_X1_isDigitHere : vK0 yX1_isDigitHere cX1_isDigitHere 1 (some .boolean) 0 := ⟨by decide +kernel, vGT_at 463 (by decide +kernel) (by decide +kernel), vGT_at 59 (by decide +kernel) (by decide +kernel)⟩
theorem ki_X1_isDigitHere : Cond.instanceMethod yX1_isDigitHere ∈ vGT ∧ Cond.selects yX1_isDigitHere.cls yX1_isDigitHere yX1_isDigitHere ∈ vGT := ⟨vGT_at 462 (by decide +kernel) (by decide +kernel), vGT_at 7 (by decide +kernel) (by decide +kernel)⟩
theorem k0_X1_letterHere : vK0 yX1_letterHere cX1_letterHere 1 (some .int) 0 := ⟨by decide +kernel, vGT_at 451 (by decide +kernel) (by decide +kernel), vGT_at 59 (by decide +kernel) (by decide +kernel)⟩
theorem ki_X1_letterHere : Cond.instanceMethod yX1_letterHere ∈ vGT ∧ Cond.selects yX1_letterHere.cls yX1_letterHere yX1_letterHere ∈ vGT := ⟨vGT_at 450 (by decide +kernel) (by decide +kernel), vGT_at 4 (by decide +kernel) (by decide +kernel)⟩
theorem k0_X2_init : vK0 yX2_init cX2_init 1 none 0 := ⟨by decide +kernel, vGT_at 205 (by decide +kernel) (by decide +kernel), vGT_at 60 (by decide +kernel) (by decide +kernel)⟩
theorem ki_X2_init : Cond.instanceMethod yX2_init ∈ vGT := vGT_at 204 (by decide +kernel) (by decide +kernel)
theorem k0_X2_listen : vK0 yX2_listen cX2_listen 11 none 3 := ⟨by decide +kernel, vGT_at 487 (by decide +kernel) (by decide +kernel), vGT_at 60 (by decide +kernel) (by decide +kernel)⟩
theorem ki_X2_listen : Cond.instanceMethod yX2_listen ∈ vGT ∧ Cond.selects yX2_listen.cls yX2_listen yX2_listen ∈ vGT := ⟨vGT_at 485 (by decide +kernel) (by decide +kernel), vGT_at 486 (by decide +kernel) (by decide +kernel)⟩
theorem k0_X2_openPipes : vK0 yX2_openPipes cX2_openPipes 8 none 3 := ⟨by decide +kernel, vGT_at 350 (by decide +kernel) (by decide +kernel), vGT_at 60 (by decide +kernel) (by decide +kernel)⟩
theorem ki_X2_openPipes : Cond.instanceMethod yX2_openPipes ∈ vGT ∧ Cond.selects yX2_openPipes.cls yX2_openPipes yX2_openPipes ∈ vGT := ⟨vGT_at 348 (by decide +kernel) (by decide +kernel), vGT_at 349 (by decide +kernel) (by decide +kernel)⟩
theorem k0_X2_setPressures : vK0 yX2_setPressures cX2_setPressures 5 none 1 := ⟨by decide +kernel, vGT_at 392 (by decide +kernel) (by decide +kernel), vGT_at 60 (by decide +kernel) (by decide +kernel)⟩
theorem ki_X2_setPressures : Cond.instanceMethod yX2_setPressures ∈ vGT ∧ Cond.selects yX2_setPressures.cls yX2_setPressures yX2_setPressures ∈ vGT := ⟨vGT_at 390 (by decide +kernel) (by decide +kernel), vGT_at 391 (by decide +kernel) (by decide +kernel)⟩
theorem k0_X2_asks : vK0 yX2_asks cX2_asks 5 (some .int) 3 := ⟨by decide +kernel, vGT_at 405 (by decide +kernel) (by decide +kernel), vGT_at 60 (by decide +kernel) (by decide +kernel)⟩
theorem ki_X2_asks : Cond.instanceMethod yX2_asks ∈ vGT ∧ Cond.selects yX2_asks.cls yX2_asks yX2_asks ∈ vGT := ⟨vGT_at 403 (by decide +kernel) (by decide +kernel), vGT_at 404 (by decide +kernel) (by decide +kernel)⟩
theorem k0_X2_addUpAsked : vK0 yX2_addUpAsked cX2_addUpAsked 4 none 1 := ⟨by decide +kernel, vGT_at 401 (by decide +kernel) (by decide +kernel), vGT_at 60 (by decide +kernel) (by decide +kernel)⟩
theorem ki_X2_addUpAsked : Cond.instanceMethod yX2_addUpAsked ∈ vGT ∧ Cond.selects yX2_addUpAsked.cls yX2_addUpAsked yX2_addUpAsked ∈ vGT := ⟨vGT_at 399 (by decide +kernel) (by decide +kernel), vGT_at 400 (by decide +kernel) (by decide +kernel)⟩
theorem k0_X2_feedPipes : vK0 yX2_feedPipes cX2_feedPipes 4 none 1 := ⟨by decide +kernel, vGT_at 409 (by decide +kernel) (by decide +kernel), vGT_at 60 (by decide +kernel) (by decide +kernel)⟩
theorem ki_X2_feedPipes : Cond.instanceMethod yX2_feedPipes ∈ vGT ∧ Cond.selects yX2_feedPipes.cls yX2_feedPipes yX2_feedPipes ∈ vGT := ⟨vGT_at 407 (by decide +kernel) (by decide +kernel), vGT_at 408 (by decide +kernel) (by decide +kernel)⟩
theorem k0_J6_bitCount : vK0 yJ6_bitCount_0f7a4 cJ6_bitCount_0f7a4 1 (some .int) 1 := ⟨by decide +kernel, vGT_at 319 (by decide +kernel) (by decide +kernel), vGT_at 62 (by decide +kernel) (by decide +kernel)⟩
theorem ki_J6_bitCount : Cond.static yJ6_bitCount_0f7a4 ∈ vGT := vGT_at 318 (by decide +kernel) (by decide +kernel)
theorem k0_J9_floorDiv : vK0 yJ9_floorDiv_7cf53 cJ9_floorDiv_7cf53 3 (some .int) 2 := ⟨by decide +kernel, vGT_at 380 (by decide +kernel) (by decide +kernel), vGT_at 63 (by decide +kernel) (by decide +kernel)⟩
theorem ki_J9_floorDiv : Cond.static yJ9_floorDiv_7cf53 ∈ vGT := vGT_at 379 (by decide +kernel) (by decide +kernel)
theorem k0_J9_max : vK0 yJ9_max_7cf53 cJ9_max_7cf53 2 (some .int) 2 := ⟨by decide +kernel, vGT_at 397 (by decide +kernel) (by decide +kernel), vGT_at 63 (by decide +kernel) (by decide +kernel)⟩
theorem ki_J9_max : Cond.static yJ9_max_7cf53 ∈ vGT := vGT_at 396 (by decide +kernel) (by decide +kernel)
theorem k0_J9_min : vK0 yJ9_min_7cf53 cJ9_min_7cf53 2 (some .int) 2 := ⟨by decide +kernel, vGT_at 412 (by decide +kernel) (by decide +kernel), vGT_at 63 (by decide +kernel) (by decide +kernel)⟩
theorem ki_J9_min : Cond.static yJ9_min_7cf53 ∈ vGT := vGT_at 411 (by decide +kernel) (by decide +kernel)
theorem ml_X3_1 : Cond.methodLink RX3 1 objectInit ∈ vGT := vGT_at 69 (by decide +kernel) (by decide +kernel)
theorem lc_X3_7 : Cond.classLink RX3 7 RX0 ∈ vGT := vGT_at 72 (by decide +kernel) (by decide +kernel)
theorem ml_X3_9 : Cond.methodLink RX3 9 yX0_init ∈ vGT := vGT_at 74 (by decide +kernel) (by decide +kernel)
theorem lf_X3_10 : vLf RX3 10 3 0 := ⟨(RX3, TX3, 9), rfl, by decide, rfl, rfl, vGT_at 231 (by decide +kernel) (by decide +kernel)⟩
theorem lf_X3_16 : vLf RX3 16 3 1 := ⟨(RX3, TX3, 9), rfl, by decide, rfl, rfl, vGT_at 232 (by decide +kernel) (by decide +kernel)⟩
theorem lf_X3_19 : vLf RX3 19 3 2 := ⟨(RX3, TX3, 9), rfl, by decide, rfl, rfl, vGT_at 233 (by decide +kernel) (by decide +kernel)⟩
theorem lf_X3_23 : vLf RX3 23 3 3 := ⟨(RX3, TX3, 9), rfl, by decide, rfl, rfl, vGT_at 234 (by decide +kernel) (by decide +kernel)⟩
theorem lf_X3_26 : vLf RX3 26 3 4 := ⟨(RX3, TX3, 9), rfl, by decide, rfl, rfl, vGT_at 235 (by decide +kernel) (by decide +kernel)⟩
theorem lc_X3_30 : Cond.classLink RX3 30 RX1 ∈ vGT := vGT_at 168 (by decide +kernel) (by decide +kernel)
theorem ml_X3_32 : Cond.methodLinkNest RX3 32 yX1_init "OrganWind" ∈ vNW := vNW_at 170 (by decide +kernel) rfl
theorem lf_X3_33 : vLf RX3 33 3 5 := ⟨(RX3, TX3, 9), rfl, by decide, rfl, rfl, vGT_at 236 (by decide +kernel) (by decide +kernel)⟩
theorem lc_X3_37 : Cond.classLink RX3 37 RX2 ∈ vGT := vGT_at 201 (by decide +kernel) (by decide +kernel)
theorem ml_X3_39 : Cond.methodLinkNest RX3 39 yX2_init "OrganWind" ∈ vNW := vNW_at 203 (by decide +kernel) rfl
theorem lf_X3_40 : vLf RX3 40 3 6 := ⟨(RX3, TX3, 9), rfl, by decide, rfl, rfl, vGT_at 237 (by decide +kernel) (by decide +kernel)⟩
theorem lf_X3_44 : vLf RX3 44 3 7 := ⟨(RX3, TX3, 9), rfl, by decide, rfl, rfl, vGT_at 238 (by decide +kernel) (by decide +kernel)⟩
theorem lk_X3_19 : vLk RX3 19 3 2 := ⟨(RX3, TX3, 9), rfl, by decide, Or.inl (vGT_at 233 (by decide +kernel) (by decide +kernel))⟩
theorem lk_X3_23 : vLk RX3 23 3 3 := ⟨(RX3, TX3, 9), rfl, by decide, Or.inl (vGT_at 234 (by decide +kernel) (by decide +kernel))⟩
theorem ml_X3_47 : Cond.methodLink RX3 47 yX3_isStop ∈ vGT := vGT_at 263 (by decide +kernel) (by decide +kernel)
theorem kc_X3_51 : Cond.constant RX3 51 (-1000001) ∈ vGT := vGT_at 269 (by decide +kernel) (by decide +kernel)
theorem ml_X3_52 : Cond.methodLink RX3 52 yX3_isManual ∈ vGT := vGT_at 270 (by decide +kernel) (by decide +kernel)
theorem ml_X3_55 : Cond.methodLink RX3 55 yX3_isWithin ∈ vGT := vGT_at 266 (by decide +kernel) (by decide +kernel)
theorem kc_X3_59 : Cond.constant RX3 59 (-1000002) ∈ vGT := vGT_at 273 (by decide +kernel) (by decide +kernel)
theorem ml_X3_60 : Cond.methodLink RX3 60 yX3_remember ∈ vGT := vGT_at 274 (by decide +kernel) (by decide +kernel)
theorem lk_X3_10 : vLk RX3 10 3 0 := ⟨(RX3, TX3, 9), rfl, by decide, Or.inl (vGT_at 231 (by decide +kernel) (by decide +kernel))⟩
theorem lk_X3_63 : vLk RX3 63 0 1 := ⟨(RX0, TX0, 20), rfl, by decide, Or.inr ⟨"OrganWind", vNW_at 86 (by decide +kernel) rfl⟩⟩
theorem lk_X3_67 : vLk RX3 67 0 0 := ⟨(RX0, TX0, 20), rfl, by decide, Or.inr ⟨"OrganWind", vNW_at 84 (by decide +kernel) rfl⟩⟩
theorem lk_X3_70 : vLk RX3 70 0 2 := ⟨(RX0, TX0, 20), rfl, by decide, Or.inr ⟨"OrganWind", vNW_at 89 (by decide +kernel) rfl⟩⟩
theorem lk_X3_73 : vLk RX3 73 0 5 := ⟨(RX0, TX0, 20), rfl, by decide, Or.inr ⟨"OrganWind", vNW_at 97 (by decide +kernel) rfl⟩⟩
theorem ml_X3_76 : Cond.methodLink RX3 76 yX3_pipeIndex ∈ vGT := vGT_at 289 (by decide +kernel) (by decide +kernel)
theorem lk_X3_80 : vLk RX3 80 0 9 := ⟨(RX0, TX0, 20), rfl, by decide, Or.inr ⟨"OrganWind", vNW_at 106 (by decide +kernel) rfl⟩⟩
theorem ml_X3_84 : Cond.methodLink RX3 84 yX3_isIn ∈ vGT := vGT_at 296 (by decide +kernel) (by decide +kernel)
theorem lk_X3_88 : vLk RX3 88 0 3 := ⟨(RX0, TX0, 20), rfl, by decide, Or.inr ⟨"OrganWind", vNW_at 91 (by decide +kernel) rfl⟩⟩
theorem ls_X3_91 : Cond.fieldLink RX3 91 "OrganWind" "LEAST_SETTING" "[I" ∈ vGT := vGT_at 303 (by decide +kernel) (by decide +kernel)
theorem ls_X3_94 : Cond.fieldLink RX3 94 "OrganWind" "MOST_SETTING" "[I" ∈ vGT := vGT_at 305 (by decide +kernel) (by decide +kernel)
theorem lk_X3_97 : vLk RX3 97 0 6 := ⟨(RX0, TX0, 20), rfl, by decide, Or.inr ⟨"OrganWind", vNW_at 100 (by decide +kernel) rfl⟩⟩
theorem ml_X3_100 : Cond.methodLink RX3 100 yX3_isKey ∈ vGT := vGT_at 311 (by decide +kernel) (by decide +kernel)
theorem lk_X3_103 : vLk RX3 103 0 4 := ⟨(RX0, TX0, 20), rfl, by decide, Or.inr ⟨"OrganWind", vNW_at 95 (by decide +kernel) rfl⟩⟩
theorem ml_X3_106 : Cond.methodLink RX3 106 yX3_countOfAll ∈ vGT := vGT_at 314 (by decide +kernel) (by decide +kernel)
theorem kc_X3_110 : Cond.constant RX3 110 (-1000004) ∈ vGT := vGT_at 323 (by decide +kernel) (by decide +kernel)
theorem ml_X3_111 : Cond.methodLink RX3 111 yX3_with ∈ vGT := vGT_at 324 (by decide +kernel) (by decide +kernel)
theorem lp_X3_80 : vLp RX3 80 0 9 := ⟨(RX0, TX0, 20), rfl, by decide, rfl, Or.inr ⟨"OrganWind", vNW_at 106 (by decide +kernel) rfl⟩⟩
theorem ml_X3_115 : Cond.methodLink RX3 115 yJ6_bitCount_0f7a4 ∈ vGT := vGT_at 317 (by decide +kernel) (by decide +kernel)
theorem lk_X3_121 : vLk RX3 121 0 7 := ⟨(RX0, TX0, 20), rfl, by decide, Or.inr ⟨"OrganWind", vNW_at 102 (by decide +kernel) rfl⟩⟩
theorem lk_X3_124 : vLk RX3 124 0 10 := ⟨(RX0, TX0, 20), rfl, by decide, Or.inr ⟨"OrganWind", vNW_at 108 (by decide +kernel) rfl⟩⟩
theorem lk_X3_128 : vLk RX3 128 0 11 := ⟨(RX0, TX0, 20), rfl, by decide, Or.inr ⟨"OrganWind", vNW_at 110 (by decide +kernel) rfl⟩⟩
theorem lp_X3_124 : vLp RX3 124 0 10 := ⟨(RX0, TX0, 20), rfl, by decide, rfl, Or.inr ⟨"OrganWind", vNW_at 108 (by decide +kernel) rfl⟩⟩
theorem lp_X3_128 : vLp RX3 128 0 11 := ⟨(RX0, TX0, 20), rfl, by decide, rfl, Or.inr ⟨"OrganWind", vNW_at 110 (by decide +kernel) rfl⟩⟩
theorem ml_X3_131 : Cond.methodLink RX3 131 yX3_letPass ∈ vGT := vGT_at 343 (by decide +kernel) (by decide +kernel)
theorem lk_X3_135 : vLk RX3 135 0 12 := ⟨(RX0, TX0, 20), rfl, by decide, Or.inr ⟨"OrganWind", vNW_at 113 (by decide +kernel) rfl⟩⟩
theorem lk_X3_33 : vLk RX3 33 3 5 := ⟨(RX3, TX3, 9), rfl, by decide, Or.inl (vGT_at 236 (by decide +kernel) (by decide +kernel))⟩
theorem ml_X3_138 : Cond.methodLink RX3 138 yX1_add ∈ vGT := vGT_at 418 (by decide +kernel) (by decide +kernel)
theorem lk_X3_141 : vLk RX3 141 1 1 := ⟨(RX1, TX1, 7), rfl, by decide, Or.inr ⟨"OrganWind", vNW_at 176 (by decide +kernel) rfl⟩⟩
theorem lp_X3_141 : vLp RX3 141 1 1 := ⟨(RX1, TX1, 7), rfl, by decide, rfl, Or.inr ⟨"OrganWind", vNW_at 176 (by decide +kernel) rfl⟩⟩
theorem ml_X3_144 : Cond.methodLink RX3 144 yX1_findFault ∈ vGT := vGT_at 431 (by decide +kernel) (by decide +kernel)
theorem kc_X3_148 : Cond.constant RX3 148 (-1000005) ∈ vGT := vGT_at 365 (by decide +kernel) (by decide +kernel)
theorem kc_X3_149 : Cond.constant RX3 149 (-1000003) ∈ vGT := vGT_at 468 (by decide +kernel) (by decide +kernel)
theorem ml_X3_150 : Cond.methodLink RX3 150 yX1_begin ∈ vGT := vGT_at 469 (by decide +kernel) (by decide +kernel)
theorem ml_X3_153 : Cond.methodLink RX3 153 yX1_hasMore ∈ vGT := vGT_at 470 (by decide +kernel) (by decide +kernel)
theorem ml_X3_157 : Cond.methodLink RX3 157 yX1_readAct ∈ vGT := vGT_at 471 (by decide +kernel) (by decide +kernel)
theorem ml_X3_160 : Cond.methodLink RX3 160 yX3_carryOutAct ∈ vGT := vGT_at 472 (by decide +kernel) (by decide +kernel)
theorem lk_X3_163 : vLk RX3 163 1 4 := ⟨(RX1, TX1, 7), rfl, by decide, Or.inr ⟨"OrganWind", vNW_at 180 (by decide +kernel) rfl⟩⟩
theorem lk_X3_166 : vLk RX3 166 1 5 := ⟨(RX1, TX1, 7), rfl, by decide, Or.inr ⟨"OrganWind", vNW_at 182 (by decide +kernel) rfl⟩⟩
theorem lk_X3_169 : vLk RX3 169 1 6 := ⟨(RX1, TX1, 7), rfl, by decide, Or.inr ⟨"OrganWind", vNW_at 184 (by decide +kernel) rfl⟩⟩
theorem ml_X3_172 : Cond.methodLink RX3 172 yX3_readWind ∈ vGT := vGT_at 480 (by decide +kernel) (by decide +kernel)
theorem ml_X3_175 : Cond.methodLink RX3 175 yX3_numberTold ∈ vGT := vGT_at 492 (by decide +kernel) (by decide +kernel)
theorem ml_X3_178 : Cond.methodLink RX3 178 yX0_reservoirPressure ∈ vGT := vGT_at 385 (by decide +kernel) (by decide +kernel)
theorem lk_X3_181 : vLk RX3 181 0 13 := ⟨(RX0, TX0, 20), rfl, by decide, Or.inr ⟨"OrganWind", vNW_at 115 (by decide +kernel) rfl⟩⟩
theorem lk_X3_184 : vLk RX3 184 0 14 := ⟨(RX0, TX0, 20), rfl, by decide, Or.inr ⟨"OrganWind", vNW_at 117 (by decide +kernel) rfl⟩⟩
theorem ml_X3_187 : Cond.methodLink RX3 187 yX3_sumOf ∈ vGT := vGT_at 496 (by decide +kernel) (by decide +kernel)
theorem lk_X3_190 : vLk RX3 190 0 15 := ⟨(RX0, TX0, 20), rfl, by decide, Or.inr ⟨"OrganWind", vNW_at 119 (by decide +kernel) rfl⟩⟩
theorem lk_X3_40 : vLk RX3 40 3 6 := ⟨(RX3, TX3, 9), rfl, by decide, Or.inl (vGT_at 237 (by decide +kernel) (by decide +kernel))⟩
theorem lk_X3_193 : vLk RX3 193 2 0 := ⟨(RX2, TX2, 6), rfl, by decide, Or.inr ⟨"OrganWind", vNW_at 208 (by decide +kernel) rfl⟩⟩
theorem lk_X3_196 : vLk RX3 196 2 5 := ⟨(RX2, TX2, 6), rfl, by decide, Or.inr ⟨"OrganWind", vNW_at 217 (by decide +kernel) rfl⟩⟩
theorem lk_X3_199 : vLk RX3 199 0 17 := ⟨(RX0, TX0, 20), rfl, by decide, Or.inr ⟨"OrganWind", vNW_at 122 (by decide +kernel) rfl⟩⟩
theorem ml_X3_202 : Cond.methodLink RX3 202 yX3_chestTold ∈ vGT := vGT_at 503 (by decide +kernel) (by decide +kernel)
theorem lk_X3_205 : vLk RX3 205 2 2 := ⟨(RX2, TX2, 6), rfl, by decide, Or.inr ⟨"OrganWind", vNW_at 212 (by decide +kernel) rfl⟩⟩
theorem lk_X3_208 : vLk RX3 208 2 1 := ⟨(RX2, TX2, 6), rfl, by decide, Or.inr ⟨"OrganWind", vNW_at 210 (by decide +kernel) rfl⟩⟩
theorem ml_X3_211 : Cond.methodLink RX3 211 yX0_actingKeys ∈ vGT := vGT_at 507 (by decide +kernel) (by decide +kernel)
theorem lk_X3_214 : vLk RX3 214 0 8 := ⟨(RX0, TX0, 20), rfl, by decide, Or.inr ⟨"OrganWind", vNW_at 104 (by decide +kernel) rfl⟩⟩
theorem ml_X3_217 : Cond.methodLink RX3 217 yX3_pipeTold ∈ vGT := vGT_at 516 (by decide +kernel) (by decide +kernel)
theorem ml_X3_221 : Cond.methodLink RX3 221 yX0_need ∈ vGT := vGT_at 520 (by decide +kernel) (by decide +kernel)
theorem ml_X3_224 : Cond.methodLink RX3 224 yX2_asks ∈ vGT := vGT_at 521 (by decide +kernel) (by decide +kernel)
theorem lk_X3_228 : vLk RX3 228 2 4 := ⟨(RX2, TX2, 6), rfl, by decide, Or.inr ⟨"OrganWind", vNW_at 215 (by decide +kernel) rfl⟩⟩
theorem ml_X3_231 : Cond.methodLink RX3 231 yX3_pitch ∈ vGT := vGT_at 522 (by decide +kernel) (by decide +kernel)
theorem ml_X3_234 : Cond.methodLink RX3 234 yX3_reasonTold ∈ vGT := vGT_at 536 (by decide +kernel) (by decide +kernel)
theorem ml_X3_237 : Cond.methodLink RX3 237 yX0_manualOf ∈ vGT := vGT_at 530 (by decide +kernel) (by decide +kernel)
theorem ml_X3_240 : Cond.methodLink RX3 240 yX3_detuning ∈ vGT := vGT_at 526 (by decide +kernel) (by decide +kernel)
theorem ml_X3_243 : Cond.methodLink RX3 243 yX3_greatestDifference ∈ vGT := vGT_at 548 (by decide +kernel) (by decide +kernel)
theorem kc_X3_246 : Cond.constant RX3 246 (2147483647) ∈ vGT := vGT_at 366 (by decide +kernel) (by decide +kernel)
theorem kc_X3_247 : Cond.constant RX3 247 (-2147483648) ∈ vGT := vGT_at 552 (by decide +kernel) (by decide +kernel)
theorem ml_X3_248 : Cond.methodLink RX3 248 yJ9_min_7cf53 ∈ vGT := vGT_at 413 (by decide +kernel) (by decide +kernel)
theorem ml_X3_253 : Cond.methodLink RX3 253 yJ9_max_7cf53 ∈ vGT := vGT_at 553 (by decide +kernel) (by decide +kernel)
theorem ml_X3_256 : Cond.methodLink RX3 256 yX3_cipheringStop ∈ vGT := vGT_at 558 (by decide +kernel) (by decide +kernel)
theorem ml_X3_259 : Cond.methodLink RX3 259 yX3_testsOfSearch ∈ vGT := vGT_at 569 (by decide +kernel) (by decide +kernel)
theorem ml_X3_262 : Cond.methodLink RX3 262 yX3_lowestCipher ∈ vGT := vGT_at 573 (by decide +kernel) (by decide +kernel)
theorem ml_X3_265 : Cond.methodLink RX3 265 yX3_isHeard ∈ vGT := vGT_at 562 (by decide +kernel) (by decide +kernel)
theorem ml_X3_268 : Cond.methodLink RX3 268 yX3_rowOfStops ∈ vGT := vGT_at 566 (by decide +kernel) (by decide +kernel)
theorem lk_X3_44 : vLk RX3 44 3 7 := ⟨(RX3, TX3, 9), rfl, by decide, Or.inl (vGT_at 238 (by decide +kernel) (by decide +kernel))⟩
theorem ml_X3_271 : Cond.methodLink RX3 271 yX2_listen ∈ vGT := vGT_at 484 (by decide +kernel) (by decide +kernel)
theorem lk_X3_16 : vLk RX3 16 3 1 := ⟨(RX3, TX3, 9), rfl, by decide, Or.inl (vGT_at 232 (by decide +kernel) (by decide +kernel))⟩
theorem ml_X3_275 : Cond.methodLink RX3 275 yX3_copyState ∈ vGT := vGT_at 278 (by decide +kernel) (by decide +kernel)
theorem lk_X3_279 : vLk RX3 279 3 8 := ⟨(RX3, TX3, 9), rfl, by decide, Or.inl (vGT_at 239 (by decide +kernel) (by decide +kernel))⟩
theorem lp_X3_279 : vLp RX3 279 3 8 := ⟨(RX3, TX3, 9), rfl, by decide, rfl, Or.inl (vGT_at 239 (by decide +kernel) (by decide +kernel))⟩
theorem ml_X3_282 : Cond.methodLink RX3 282 yX3_isSlot ∈ vGT := vGT_at 593 (by decide +kernel) (by decide +kernel)
theorem lk_X3_26 : vLk RX3 26 3 4 := ⟨(RX3, TX3, 9), rfl, by decide, Or.inl (vGT_at 235 (by decide +kernel) (by decide +kernel))⟩
theorem kc_X3_285 : Cond.constantLong RX3 285 (151) ∈ vGT := vGT_at 604 (by decide +kernel) (by decide +kernel)
theorem ml_X3_287 : Cond.methodLink RX3 287 yX3_stop ∈ vGT := vGT_at 605 (by decide +kernel) (by decide +kernel)
theorem ml_X3_290 : Cond.methodLink RX3 290 yX3_mix ∈ vGT := vGT_at 606 (by decide +kernel) (by decide +kernel)
theorem ml_X3_294 : Cond.methodLink RX3 294 yX3_mixOpenPipes ∈ vGT := vGT_at 610 (by decide +kernel) (by decide +kernel)
theorem kc_X3_298 : Cond.constantLong RX3 298 (31) ∈ vGT := vGT_at 609 (by decide +kernel) (by decide +kernel)
theorem ml_X3_300 : Cond.methodLink RX3 300 yX2_openPipes ∈ vGT := vGT_at 347 (by decide +kernel) (by decide +kernel)
theorem ml_X3_303 : Cond.methodLink RX3 303 yX0_pump ∈ vGT := vGT_at 367 (by decide +kernel) (by decide +kernel)
theorem ml_X3_306 : Cond.methodLink RX3 306 yX2_setPressures ∈ vGT := vGT_at 389 (by decide +kernel) (by decide +kernel)
theorem ml_X3_310 : Cond.methodLink RX3 310 yX2_addUpAsked ∈ vGT := vGT_at 398 (by decide +kernel) (by decide +kernel)
theorem ml_X3_313 : Cond.methodLink RX3 313 yX2_feedPipes ∈ vGT := vGT_at 406 (by decide +kernel) (by decide +kernel)
theorem lp_X3_181 : vLp RX3 181 0 13 := ⟨(RX0, TX0, 20), rfl, by decide, rfl, Or.inr ⟨"OrganWind", vNW_at 115 (by decide +kernel) rfl⟩⟩
theorem ml_X3_316 : Cond.methodLink RX3 316 yX3_divide ∈ vGT := vGT_at 531 (by decide +kernel) (by decide +kernel)
theorem ml_X3_319 : Cond.methodLink RX3 319 yX0_takeStops ∈ vGT := vGT_at 281 (by decide +kernel) (by decide +kernel)
theorem ml_X3_322 : Cond.methodLink RX3 322 yX0_takeBellows ∈ vGT := vGT_at 285 (by decide +kernel) (by decide +kernel)
theorem ml_X3_325 : Cond.methodLink RX3 325 yJ9_floorDiv_7cf53 ∈ vGT := vGT_at 378 (by decide +kernel) (by decide +kernel)
theorem ml_X4_1 : Cond.methodLink RX4 1 objectInit ∈ vGT := vGT_at 619 (by decide +kernel) (by decide +kernel)
theorem lf_X4_7 : vLf RX4 7 4 0 := ⟨(RX4, TX4, 22), rfl, by decide, rfl, rfl, vGT_at 620 (by decide +kernel) (by decide +kernel)⟩
theorem lf_X4_13 : vLf RX4 13 4 1 := ⟨(RX4, TX4, 22), rfl, by decide, rfl, rfl, vGT_at 621 (by decide +kernel) (by decide +kernel)⟩
theorem lf_X4_16 : vLf RX4 16 4 2 := ⟨(RX4, TX4, 22), rfl, by decide, rfl, rfl, vGT_at 622 (by decide +kernel) (by decide +kernel)⟩
theorem lf_X4_19 : vLf RX4 19 4 4 := ⟨(RX4, TX4, 22), rfl, by decide, rfl, rfl, vGT_at 624 (by decide +kernel) (by decide +kernel)⟩
theorem lf_X4_22 : vLf RX4 22 4 5 := ⟨(RX4, TX4, 22), rfl, by decide, rfl, rfl, vGT_at 625 (by decide +kernel) (by decide +kernel)⟩
theorem lf_X4_26 : vLf RX4 26 4 6 := ⟨(RX4, TX4, 22), rfl, by decide, rfl, rfl, vGT_at 626 (by decide +kernel) (by decide +kernel)⟩
theorem lf_X4_29 : vLf RX4 29 4 8 := ⟨(RX4, TX4, 22), rfl, by decide, rfl, rfl, vGT_at 628 (by decide +kernel) (by decide +kernel)⟩
theorem lf_X4_32 : vLf RX4 32 4 9 := ⟨(RX4, TX4, 22), rfl, by decide, rfl, rfl, vGT_at 629 (by decide +kernel) (by decide +kernel)⟩
theorem lf_X4_35 : vLf RX4 35 4 10 := ⟨(RX4, TX4, 22), rfl, by decide, rfl, rfl, vGT_at 630 (by decide +kernel) (by decide +kernel)⟩
theorem lf_X4_38 : vLf RX4 38 4 11 := ⟨(RX4, TX4, 22), rfl, by decide, rfl, rfl, vGT_at 631 (by decide +kernel) (by decide +kernel)⟩
theorem lf_X4_41 : vLf RX4 41 4 12 := ⟨(RX4, TX4, 22), rfl, by decide, rfl, rfl, vGT_at 632 (by decide +kernel) (by decide +kernel)⟩
theorem lf_X4_44 : vLf RX4 44 4 13 := ⟨(RX4, TX4, 22), rfl, by decide, rfl, rfl, vGT_at 633 (by decide +kernel) (by decide +kernel)⟩
theorem lf_X4_47 : vLf RX4 47 4 14 := ⟨(RX4, TX4, 22), rfl, by decide, rfl, rfl, vGT_at 634 (by decide +kernel) (by decide +kernel)⟩
theorem lf_X4_50 : vLf RX4 50 4 15 := ⟨(RX4, TX4, 22), rfl, by decide, rfl, rfl, vGT_at 635 (by decide +kernel) (by decide +kernel)⟩
theorem lf_X4_53 : vLf RX4 53 4 16 := ⟨(RX4, TX4, 22), rfl, by decide, rfl, rfl, vGT_at 636 (by decide +kernel) (by decide +kernel)⟩
theorem lf_X4_56 : vLf RX4 56 4 21 := ⟨(RX4, TX4, 22), rfl, by decide, rfl, rfl, vGT_at 641 (by decide +kernel) (by decide +kernel)⟩
theorem lk_X4_7 : vLk RX4 7 4 0 := ⟨(RX4, TX4, 22), rfl, by decide, Or.inl (vGT_at 620 (by decide +kernel) (by decide +kernel))⟩
theorem lk_X4_35 : vLk RX4 35 4 10 := ⟨(RX4, TX4, 22), rfl, by decide, Or.inl (vGT_at 630 (by decide +kernel) (by decide +kernel))⟩
theorem ml_X4_59 : Cond.methodLink RX4 59 yX4_in ∈ vGT := vGT_at 694 (by decide +kernel) (by decide +kernel)
theorem lk_X4_63 : vLk RX4 63 4 3 := ⟨(RX4, TX4, 22), rfl, by decide, Or.inl (vGT_at 623 (by decide +kernel) (by decide +kernel))⟩
theorem lk_X4_16 : vLk RX4 16 4 2 := ⟨(RX4, TX4, 22), rfl, by decide, Or.inl (vGT_at 622 (by decide +kernel) (by decide +kernel))⟩
theorem lp_X4_63 : vLp RX4 63 4 3 := ⟨(RX4, TX4, 22), rfl, by decide, rfl, Or.inl (vGT_at 623 (by decide +kernel) (by decide +kernel))⟩
theorem ml_X4_67 : Cond.methodLink RX4 67 yX4_isStop ∈ vGT := vGT_at 691 (by decide +kernel) (by decide +kernel)
theorem kc_X4_71 : Cond.constant RX4 71 (-1000001) ∈ vGT := vGT_at 697 (by decide +kernel) (by decide +kernel)
theorem kc_X4_72 : Cond.constant RX4 72 (-1000002) ∈ vGT := vGT_at 698 (by decide +kernel) (by decide +kernel)
theorem ml_X4_73 : Cond.methodLink RX4 73 yX4_records ∈ vGT := vGT_at 699 (by decide +kernel) (by decide +kernel)
theorem ml_X4_76 : Cond.methodLink RX4 76 yX4_puts ∈ vGT := vGT_at 703 (by decide +kernel) (by decide +kernel)
theorem lk_X4_29 : vLk RX4 29 4 8 := ⟨(RX4, TX4, 22), rfl, by decide, Or.inl (vGT_at 628 (by decide +kernel) (by decide +kernel))⟩
theorem lk_X4_32 : vLk RX4 32 4 9 := ⟨(RX4, TX4, 22), rfl, by decide, Or.inl (vGT_at 629 (by decide +kernel) (by decide +kernel))⟩
theorem ml_X4_80 : Cond.methodLink RX4 80 yX4_size ∈ vGT := vGT_at 726 (by decide +kernel) (by decide +kernel)
theorem ml_X4_84 : Cond.methodLink RX4 84 yX4_isKey ∈ vGT := vGT_at 719 (by decide +kernel) (by decide +kernel)
theorem ml_X4_87 : Cond.methodLink RX4 87 yX4_ciphersAll ∈ vGT := vGT_at 722 (by decide +kernel) (by decide +kernel)
theorem kc_X4_91 : Cond.constant RX4 91 (-1000004) ∈ vGT := vGT_at 729 (by decide +kernel) (by decide +kernel)
theorem ml_X4_92 : Cond.methodLink RX4 92 yX4_with ∈ vGT := vGT_at 730 (by decide +kernel) (by decide +kernel)
theorem ml_X4_96 : Cond.methodLink RX4 96 yX4_drawn ∈ vGT := vGT_at 741 (by decide +kernel) (by decide +kernel)
theorem ml_X4_99 : Cond.methodLink RX4 99 yX4_draws ∈ vGT := vGT_at 737 (by decide +kernel) (by decide +kernel)
theorem ml_X4_103 : Cond.methodLink RX4 103 yX4_presses ∈ vGT := vGT_at 749 (by decide +kernel) (by decide +kernel)
theorem lk_X4_38 : vLk RX4 38 4 11 := ⟨(RX4, TX4, 22), rfl, by decide, Or.inl (vGT_at 631 (by decide +kernel) (by decide +kernel))⟩
theorem kc_X4_106 : Cond.constant RX4 106 (16777215) ∈ vGT := vGT_at 781 (by decide +kernel) (by decide +kernel)
theorem ml_X4_107 : Cond.methodLink RX4 107 yX4_acts ∈ vGT := vGT_at 777 (by decide +kernel) (by decide +kernel)
theorem lk_X4_44 : vLk RX4 44 4 13 := ⟨(RX4, TX4, 22), rfl, by decide, Or.inl (vGT_at 633 (by decide +kernel) (by decide +kernel))⟩
theorem lk_X4_41 : vLk RX4 41 4 12 := ⟨(RX4, TX4, 22), rfl, by decide, Or.inl (vGT_at 632 (by decide +kernel) (by decide +kernel))⟩
theorem ml_X4_111 : Cond.methodLink RX4 111 yX4_need ∈ vGT := vGT_at 782 (by decide +kernel) (by decide +kernel)
theorem ml_X4_114 : Cond.methodLink RX4 114 yX4_reservoir ∈ vGT := vGT_at 786 (by decide +kernel) (by decide +kernel)
theorem lk_X4_47 : vLk RX4 47 4 14 := ⟨(RX4, TX4, 22), rfl, by decide, Or.inl (vGT_at 634 (by decide +kernel) (by decide +kernel))⟩
theorem lk_X4_50 : vLk RX4 50 4 15 := ⟨(RX4, TX4, 22), rfl, by decide, Or.inl (vGT_at 635 (by decide +kernel) (by decide +kernel))⟩
theorem lk_X4_53 : vLk RX4 53 4 16 := ⟨(RX4, TX4, 22), rfl, by decide, Or.inl (vGT_at 636 (by decide +kernel) (by decide +kernel))⟩
theorem ml_X4_117 : Cond.methodLink RX4 117 yX4_lays ∈ vGT := vGT_at 773 (by decide +kernel) (by decide +kernel)
theorem ml_X4_121 : Cond.methodLink RX4 121 yX4_isOpen ∈ vGT := vGT_at 856 (by decide +kernel) (by decide +kernel)
theorem ml_X4_125 : Cond.methodLink RX4 125 yX4_bend ∈ vGT := vGT_at 884 (by decide +kernel) (by decide +kernel)
theorem ml_X4_128 : Cond.methodLink RX4 128 yX4_down ∈ vGT := vGT_at 888 (by decide +kernel) (by decide +kernel)
theorem ml_X4_131 : Cond.methodLink RX4 131 yX4_laysNow ∈ vGT := vGT_at 769 (by decide +kernel) (by decide +kernel)
theorem ml_X4_134 : Cond.methodLink RX4 134 yX4_ticks ∈ vGT := vGT_at 765 (by decide +kernel) (by decide +kernel)
theorem ml_X4_137 : Cond.methodLink RX4 137 yX4_passes ∈ vGT := vGT_at 761 (by decide +kernel) (by decide +kernel)
theorem lk_X4_140 : vLk RX4 140 4 7 := ⟨(RX4, TX4, 22), rfl, by decide, Or.inl (vGT_at 627 (by decide +kernel) (by decide +kernel))⟩
theorem lk_X4_26 : vLk RX4 26 4 6 := ⟨(RX4, TX4, 22), rfl, by decide, Or.inl (vGT_at 626 (by decide +kernel) (by decide +kernel))⟩
theorem lp_X4_140 : vLp RX4 140 4 7 := ⟨(RX4, TX4, 22), rfl, by decide, rfl, Or.inl (vGT_at 627 (by decide +kernel) (by decide +kernel))⟩
theorem lk_X4_143 : vLk RX4 143 4 17 := ⟨(RX4, TX4, 22), rfl, by decide, Or.inl (vGT_at 637 (by decide +kernel) (by decide +kernel))⟩
theorem ml_X4_146 : Cond.methodLink RX4 146 yX4_here ∈ vGT := vGT_at 810 (by decide +kernel) (by decide +kernel)
theorem lp_X4_143 : vLp RX4 143 4 17 := ⟨(RX4, TX4, 22), rfl, by decide, rfl, Or.inl (vGT_at 637 (by decide +kernel) (by decide +kernel))⟩
theorem lp_X4_149 : vLp RX4 149 4 19 := ⟨(RX4, TX4, 22), rfl, by decide, rfl, Or.inl (vGT_at 639 (by decide +kernel) (by decide +kernel))⟩
theorem lk_X4_149 : vLk RX4 149 4 19 := ⟨(RX4, TX4, 22), rfl, by decide, Or.inl (vGT_at 639 (by decide +kernel) (by decide +kernel))⟩
theorem ml_X4_152 : Cond.methodLink RX4 152 yX4_isDigit ∈ vGT := vGT_at 826 (by decide +kernel) (by decide +kernel)
theorem lp_X4_156 : vLp RX4 156 4 20 := ⟨(RX4, TX4, 22), rfl, by decide, rfl, Or.inl (vGT_at 640 (by decide +kernel) (by decide +kernel))⟩
theorem lk_X4_156 : vLk RX4 156 4 20 := ⟨(RX4, TX4, 22), rfl, by decide, Or.inl (vGT_at 640 (by decide +kernel) (by decide +kernel))⟩
theorem lp_X4_159 : vLp RX4 159 4 18 := ⟨(RX4, TX4, 22), rfl, by decide, rfl, Or.inl (vGT_at 638 (by decide +kernel) (by decide +kernel))⟩
theorem ml_X4_162 : Cond.methodLink RX4 162 yX4_takes ∈ vGT := vGT_at 814 (by decide +kernel) (by decide +kernel)
theorem ml_X4_165 : Cond.methodLink RX4 165 yX4_isFirst ∈ vGT := vGT_at 818 (by decide +kernel) (by decide +kernel)
theorem ml_X4_168 : Cond.methodLink RX4 168 yX4_isNumber ∈ vGT := vGT_at 822 (by decide +kernel) (by decide +kernel)
theorem ml_X4_171 : Cond.methodLink RX4 171 yX4_isAct ∈ vGT := vGT_at 806 (by decide +kernel) (by decide +kernel)
theorem ml_X4_174 : Cond.methodLink RX4 174 yX4_isText ∈ vGT := vGT_at 802 (by decide +kernel) (by decide +kernel)
theorem kc_X4_177 : Cond.constant RX4 177 (-1000005) ∈ vGT := vGT_at 830 (by decide +kernel) (by decide +kernel)
theorem kc_X4_178 : Cond.constant RX4 178 (-1000003) ∈ vGT := vGT_at 835 (by decide +kernel) (by decide +kernel)
theorem lk_X4_159 : vLk RX4 159 4 18 := ⟨(RX4, TX4, 22), rfl, by decide, Or.inl (vGT_at 638 (by decide +kernel) (by decide +kernel))⟩
theorem ml_X4_179 : Cond.methodLink RX4 179 yX4_reasonOf ∈ vGT := vGT_at 852 (by decide +kernel) (by decide +kernel)
theorem ml_X4_183 : Cond.methodLink RX4 183 yX4_openMany ∈ vGT := vGT_at 844 (by decide +kernel) (by decide +kernel)
theorem ml_X4_186 : Cond.methodLink RX4 186 yX4_speaking ∈ vGT := vGT_at 848 (by decide +kernel) (by decide +kernel)
theorem ml_X4_189 : Cond.methodLink RX4 189 yX4_tells ∈ vGT := vGT_at 840 (by decide +kernel) (by decide +kernel)
theorem ml_X4_192 : Cond.methodLink RX4 192 yX4_chestTells ∈ vGT := vGT_at 864 (by decide +kernel) (by decide +kernel)
theorem ml_X4_195 : Cond.methodLink RX4 195 yX4_pitch ∈ vGT := vGT_at 880 (by decide +kernel) (by decide +kernel)
theorem ml_X4_198 : Cond.methodLink RX4 198 yX4_pipeTells ∈ vGT := vGT_at 876 (by decide +kernel) (by decide +kernel)
theorem ml_X4_201 : Cond.methodLink RX4 201 yX4_reasonNow ∈ vGT := vGT_at 895 (by decide +kernel) (by decide +kernel)
theorem ml_X4_204 : Cond.methodLink RX4 204 yX4_mistunedNow ∈ vGT := vGT_at 907 (by decide +kernel) (by decide +kernel)
theorem ml_X4_207 : Cond.methodLink RX4 207 yX4_isHeard ∈ vGT := vGT_at 919 (by decide +kernel) (by decide +kernel)
theorem ml_X4_210 : Cond.methodLink RX4 210 yX4_lowestOf ∈ vGT := vGT_at 923 (by decide +kernel) (by decide +kernel)
theorem ml_X4_213 : Cond.methodLink RX4 213 yX4_searches ∈ vGT := vGT_at 915 (by decide +kernel) (by decide +kernel)
theorem lk_X4_56 : vLk RX4 56 4 21 := ⟨(RX4, TX4, 22), rfl, by decide, Or.inl (vGT_at 641 (by decide +kernel) (by decide +kernel))⟩
theorem lk_X4_13 : vLk RX4 13 4 1 := ⟨(RX4, TX4, 22), rfl, by decide, Or.inl (vGT_at 621 (by decide +kernel) (by decide +kernel))⟩
theorem lk_X4_19 : vLk RX4 19 4 4 := ⟨(RX4, TX4, 22), rfl, by decide, Or.inl (vGT_at 624 (by decide +kernel) (by decide +kernel))⟩
theorem lk_X4_22 : vLk RX4 22 4 5 := ⟨(RX4, TX4, 22), rfl, by decide, Or.inl (vGT_at 625 (by decide +kernel) (by decide +kernel))⟩
theorem kc_X4_216 : Cond.constantLong RX4 216 (31) ∈ vGT := vGT_at 954 (by decide +kernel) (by decide +kernel)
theorem kc_X4_218 : Cond.constantLong RX4 218 (151) ∈ vGT := vGT_at 950 (by decide +kernel) (by decide +kernel)
theorem ml_X4_220 : Cond.methodLink RX4 220 yX4_more ∈ vGT := vGT_at 951 (by decide +kernel) (by decide +kernel)
theorem ml_X0_3 : Cond.methodLink RX0 3 objectInit ∈ vGT := vGT_at 77 (by decide +kernel) (by decide +kernel)
theorem lf_X0_9 : vLf RX0 9 0 0 := ⟨(RX0, TX0, 20), rfl, by decide, rfl, rfl, vGT_at 83 (by decide +kernel) (by decide +kernel)⟩
theorem lf_X0_15 : vLf RX0 15 0 1 := ⟨(RX0, TX0, 20), rfl, by decide, rfl, rfl, vGT_at 85 (by decide +kernel) (by decide +kernel)⟩
theorem lf_X0_18 : vLf RX0 18 0 2 := ⟨(RX0, TX0, 20), rfl, by decide, rfl, rfl, vGT_at 87 (by decide +kernel) (by decide +kernel)⟩
theorem lf_X0_21 : vLf RX0 21 0 3 := ⟨(RX0, TX0, 20), rfl, by decide, rfl, rfl, vGT_at 90 (by decide +kernel) (by decide +kernel)⟩
theorem lf_X0_24 : vLf RX0 24 0 4 := ⟨(RX0, TX0, 20), rfl, by decide, rfl, rfl, vGT_at 93 (by decide +kernel) (by decide +kernel)⟩
theorem lf_X0_27 : vLf RX0 27 0 5 := ⟨(RX0, TX0, 20), rfl, by decide, rfl, rfl, vGT_at 96 (by decide +kernel) (by decide +kernel)⟩
theorem lf_X0_30 : vLf RX0 30 0 6 := ⟨(RX0, TX0, 20), rfl, by decide, rfl, rfl, vGT_at 98 (by decide +kernel) (by decide +kernel)⟩
theorem lf_X0_33 : vLf RX0 33 0 7 := ⟨(RX0, TX0, 20), rfl, by decide, rfl, rfl, vGT_at 101 (by decide +kernel) (by decide +kernel)⟩
theorem lf_X0_36 : vLf RX0 36 0 8 := ⟨(RX0, TX0, 20), rfl, by decide, rfl, rfl, vGT_at 103 (by decide +kernel) (by decide +kernel)⟩
theorem lp_X0_39 : vLp RX0 39 0 12 := ⟨(RX0, TX0, 20), rfl, by decide, rfl, Or.inl (vGT_at 111 (by decide +kernel) (by decide +kernel))⟩
theorem lp_X0_43 : vLp RX0 43 0 16 := ⟨(RX0, TX0, 20), rfl, by decide, rfl, Or.inl (vGT_at 120 (by decide +kernel) (by decide +kernel))⟩
theorem lk_X0_9 : vLk RX0 9 0 0 := ⟨(RX0, TX0, 20), rfl, by decide, Or.inl (vGT_at 83 (by decide +kernel) (by decide +kernel))⟩
theorem lk_X0_15 : vLk RX0 15 0 1 := ⟨(RX0, TX0, 20), rfl, by decide, Or.inl (vGT_at 85 (by decide +kernel) (by decide +kernel))⟩
theorem lk_X0_18 : vLk RX0 18 0 2 := ⟨(RX0, TX0, 20), rfl, by decide, Or.inl (vGT_at 87 (by decide +kernel) (by decide +kernel))⟩
theorem ls_X0_46 : Cond.fieldLinkNest RX0 46 "OrganWind" "FIRST_SETTING" "[I" "OrganWind" ∈ vNW := vNW_at 78 (by decide +kernel) rfl
theorem lk_X0_30 : vLk RX0 30 0 6 := ⟨(RX0, TX0, 20), rfl, by decide, Or.inl (vGT_at 98 (by decide +kernel) (by decide +kernel))⟩
theorem ml_X0_49 : Cond.methodLink RX0 49 arraycopyName ∈ vGT := vGT_at 80 (by decide +kernel) (by decide +kernel)
theorem lk_X0_21 : vLk RX0 21 0 3 := ⟨(RX0, TX0, 20), rfl, by decide, Or.inl (vGT_at 90 (by decide +kernel) (by decide +kernel))⟩
theorem lk_X0_24 : vLk RX0 24 0 4 := ⟨(RX0, TX0, 20), rfl, by decide, Or.inl (vGT_at 93 (by decide +kernel) (by decide +kernel))⟩
theorem lk_X0_27 : vLk RX0 27 0 5 := ⟨(RX0, TX0, 20), rfl, by decide, Or.inl (vGT_at 96 (by decide +kernel) (by decide +kernel))⟩
theorem lk_X0_33 : vLk RX0 33 0 7 := ⟨(RX0, TX0, 20), rfl, by decide, Or.inl (vGT_at 101 (by decide +kernel) (by decide +kernel))⟩
theorem lk_X0_55 : vLk RX0 55 0 9 := ⟨(RX0, TX0, 20), rfl, by decide, Or.inl (vGT_at 105 (by decide +kernel) (by decide +kernel))⟩
theorem lp_X0_55 : vLp RX0 55 0 9 := ⟨(RX0, TX0, 20), rfl, by decide, rfl, Or.inl (vGT_at 105 (by decide +kernel) (by decide +kernel))⟩
theorem lk_X0_58 : vLk RX0 58 0 10 := ⟨(RX0, TX0, 20), rfl, by decide, Or.inl (vGT_at 107 (by decide +kernel) (by decide +kernel))⟩
theorem lp_X0_58 : vLp RX0 58 0 10 := ⟨(RX0, TX0, 20), rfl, by decide, rfl, Or.inl (vGT_at 107 (by decide +kernel) (by decide +kernel))⟩
theorem lk_X0_62 : vLk RX0 62 0 11 := ⟨(RX0, TX0, 20), rfl, by decide, Or.inl (vGT_at 109 (by decide +kernel) (by decide +kernel))⟩
theorem lp_X0_62 : vLp RX0 62 0 11 := ⟨(RX0, TX0, 20), rfl, by decide, rfl, Or.inl (vGT_at 109 (by decide +kernel) (by decide +kernel))⟩
theorem lk_X0_36 : vLk RX0 36 0 8 := ⟨(RX0, TX0, 20), rfl, by decide, Or.inl (vGT_at 103 (by decide +kernel) (by decide +kernel))⟩
theorem lk_X0_39 : vLk RX0 39 0 12 := ⟨(RX0, TX0, 20), rfl, by decide, Or.inl (vGT_at 111 (by decide +kernel) (by decide +kernel))⟩
theorem lk_X0_65 : vLk RX0 65 0 13 := ⟨(RX0, TX0, 20), rfl, by decide, Or.inl (vGT_at 114 (by decide +kernel) (by decide +kernel))⟩
theorem lp_X0_65 : vLp RX0 65 0 13 := ⟨(RX0, TX0, 20), rfl, by decide, rfl, Or.inl (vGT_at 114 (by decide +kernel) (by decide +kernel))⟩
theorem lk_X0_68 : vLk RX0 68 0 14 := ⟨(RX0, TX0, 20), rfl, by decide, Or.inl (vGT_at 116 (by decide +kernel) (by decide +kernel))⟩
theorem lp_X0_68 : vLp RX0 68 0 14 := ⟨(RX0, TX0, 20), rfl, by decide, rfl, Or.inl (vGT_at 116 (by decide +kernel) (by decide +kernel))⟩
theorem lk_X0_71 : vLk RX0 71 0 15 := ⟨(RX0, TX0, 20), rfl, by decide, Or.inl (vGT_at 118 (by decide +kernel) (by decide +kernel))⟩
theorem lp_X0_71 : vLp RX0 71 0 15 := ⟨(RX0, TX0, 20), rfl, by decide, rfl, Or.inl (vGT_at 118 (by decide +kernel) (by decide +kernel))⟩
theorem lk_X0_43 : vLk RX0 43 0 16 := ⟨(RX0, TX0, 20), rfl, by decide, Or.inl (vGT_at 120 (by decide +kernel) (by decide +kernel))⟩
theorem lk_X0_74 : vLk RX0 74 0 17 := ⟨(RX0, TX0, 20), rfl, by decide, Or.inl (vGT_at 121 (by decide +kernel) (by decide +kernel))⟩
theorem lp_X0_74 : vLp RX0 74 0 17 := ⟨(RX0, TX0, 20), rfl, by decide, rfl, Or.inl (vGT_at 121 (by decide +kernel) (by decide +kernel))⟩
theorem lk_X0_77 : vLk RX0 77 0 18 := ⟨(RX0, TX0, 20), rfl, by decide, Or.inl (vGT_at 123 (by decide +kernel) (by decide +kernel))⟩
theorem lp_X0_77 : vLp RX0 77 0 18 := ⟨(RX0, TX0, 20), rfl, by decide, rfl, Or.inl (vGT_at 123 (by decide +kernel) (by decide +kernel))⟩
theorem lk_X0_80 : vLk RX0 80 0 19 := ⟨(RX0, TX0, 20), rfl, by decide, Or.inl (vGT_at 124 (by decide +kernel) (by decide +kernel))⟩
theorem lp_X0_80 : vLp RX0 80 0 19 := ⟨(RX0, TX0, 20), rfl, by decide, rfl, Or.inl (vGT_at 124 (by decide +kernel) (by decide +kernel))⟩
theorem kc_X0_83 : Cond.constant RX0 83 (16777215) ∈ vGT := vGT_at 359 (by decide +kernel) (by decide +kernel)
theorem ml_X0_84 : Cond.methodLinkNest RX0 84 yX3_divide "OrganWind" ∈ vNW := vNW_at 375 (by decide +kernel) rfl
theorem ml_X0_88 : Cond.methodLink RX0 88 yX0_beginStroke ∈ vGT := vGT_at 371 (by decide +kernel) (by decide +kernel)
theorem ml_X0_91 : Cond.methodLink RX0 91 yX0_makePart ∈ vGT := vGT_at 381 (by decide +kernel) (by decide +kernel)
theorem ml_X1_3 : Cond.methodLink RX1 3 objectInit ∈ vGT := vGT_at 173 (by decide +kernel) (by decide +kernel)
theorem lf_X1_9 : vLf RX1 9 1 0 := ⟨(RX1, TX1, 7), rfl, by decide, rfl, rfl, vGT_at 174 (by decide +kernel) (by decide +kernel)⟩
theorem lk_X1_15 : vLk RX1 15 1 1 := ⟨(RX1, TX1, 7), rfl, by decide, Or.inl (vGT_at 175 (by decide +kernel) (by decide +kernel))⟩
theorem ml_X1_19 : Cond.methodLinkNest RX1 19 yX3_isWithin "OrganWind" ∈ vNW := vNW_at 422 (by decide +kernel) rfl
theorem lk_X1_9 : vLk RX1 9 1 0 := ⟨(RX1, TX1, 7), rfl, by decide, Or.inl (vGT_at 174 (by decide +kernel) (by decide +kernel))⟩
theorem lp_X1_15 : vLp RX1 15 1 1 := ⟨(RX1, TX1, 7), rfl, by decide, rfl, Or.inl (vGT_at 175 (by decide +kernel) (by decide +kernel))⟩
theorem lp_X1_23 : vLp RX1 23 1 2 := ⟨(RX1, TX1, 7), rfl, by decide, rfl, Or.inl (vGT_at 177 (by decide +kernel) (by decide +kernel))⟩
theorem kc_X1_26 : Cond.constant RX1 26 (-1000005) ∈ vGT := vGT_at 439 (by decide +kernel) (by decide +kernel)
theorem lp_X1_27 : vLp RX1 27 1 3 := ⟨(RX1, TX1, 7), rfl, by decide, rfl, Or.inl (vGT_at 178 (by decide +kernel) (by decide +kernel))⟩
theorem lk_X1_23 : vLk RX1 23 1 2 := ⟨(RX1, TX1, 7), rfl, by decide, Or.inl (vGT_at 177 (by decide +kernel) (by decide +kernel))⟩
theorem ml_X1_30 : Cond.methodLink RX1 30 yX1_begin ∈ vGT := vGT_at 435 (by decide +kernel) (by decide +kernel)
theorem ml_X1_33 : Cond.methodLink RX1 33 yX1_hasMore ∈ vGT := vGT_at 440 (by decide +kernel) (by decide +kernel)
theorem lk_X1_27 : vLk RX1 27 1 3 := ⟨(RX1, TX1, 7), rfl, by decide, Or.inl (vGT_at 178 (by decide +kernel) (by decide +kernel))⟩
theorem ml_X1_37 : Cond.methodLink RX1 37 yX1_readAct ∈ vGT := vGT_at 444 (by decide +kernel) (by decide +kernel)
theorem ml_X1_40 : Cond.methodLink RX1 40 yX1_letterHere ∈ vGT := vGT_at 448 (by decide +kernel) (by decide +kernel)
theorem lp_X1_44 : vLp RX1 44 1 4 := ⟨(RX1, TX1, 7), rfl, by decide, rfl, Or.inl (vGT_at 179 (by decide +kernel) (by decide +kernel))⟩
theorem lk_X1_44 : vLk RX1 44 1 4 := ⟨(RX1, TX1, 7), rfl, by decide, Or.inl (vGT_at 179 (by decide +kernel) (by decide +kernel))⟩
theorem ml_X1_47 : Cond.methodLink RX1 47 yX1_readDigit ∈ vGT := vGT_at 452 (by decide +kernel) (by decide +kernel)
theorem lp_X1_51 : vLp RX1 51 1 5 := ⟨(RX1, TX1, 7), rfl, by decide, rfl, Or.inl (vGT_at 181 (by decide +kernel) (by decide +kernel))⟩
theorem ml_X1_54 : Cond.methodLink RX1 54 yX1_readNumber ∈ vGT := vGT_at 456 (by decide +kernel) (by decide +kernel)
theorem lp_X1_58 : vLp RX1 58 1 6 := ⟨(RX1, TX1, 7), rfl, by decide, rfl, Or.inl (vGT_at 183 (by decide +kernel) (by decide +kernel))⟩
theorem ml_X1_61 : Cond.methodLink RX1 61 yX1_isDigitHere ∈ vGT := vGT_at 460 (by decide +kernel) (by decide +kernel)
theorem ml_X2_3 : Cond.methodLink RX2 3 objectInit ∈ vGT := vGT_at 206 (by decide +kernel) (by decide +kernel)
theorem lf_X2_9 : vLf RX2 9 2 0 := ⟨(RX2, TX2, 6), rfl, by decide, rfl, rfl, vGT_at 207 (by decide +kernel) (by decide +kernel)⟩
theorem lf_X2_15 : vLf RX2 15 2 1 := ⟨(RX2, TX2, 6), rfl, by decide, rfl, rfl, vGT_at 209 (by decide +kernel) (by decide +kernel)⟩
theorem lf_X2_18 : vLf RX2 18 2 2 := ⟨(RX2, TX2, 6), rfl, by decide, rfl, rfl, vGT_at 211 (by decide +kernel) (by decide +kernel)⟩
theorem lf_X2_21 : vLf RX2 21 2 3 := ⟨(RX2, TX2, 6), rfl, by decide, rfl, rfl, vGT_at 213 (by decide +kernel) (by decide +kernel)⟩
theorem lf_X2_24 : vLf RX2 24 2 4 := ⟨(RX2, TX2, 6), rfl, by decide, rfl, rfl, vGT_at 214 (by decide +kernel) (by decide +kernel)⟩
theorem lf_X2_27 : vLf RX2 27 2 5 := ⟨(RX2, TX2, 6), rfl, by decide, rfl, rfl, vGT_at 216 (by decide +kernel) (by decide +kernel)⟩
theorem ml_X2_30 : Cond.methodLink RX2 30 yX2_openPipes ∈ vGT := vGT_at 488 (by decide +kernel) (by decide +kernel)
theorem ml_X2_34 : Cond.methodLink RX2 34 yX2_setPressures ∈ vGT := vGT_at 489 (by decide +kernel) (by decide +kernel)
theorem lk_X2_38 : vLk RX2 38 0 12 := ⟨(RX0, TX0, 20), rfl, by decide, Or.inr ⟨"OrganWind", vNW_at 112 (by decide +kernel) rfl⟩⟩
theorem lk_X2_18 : vLk RX2 18 2 2 := ⟨(RX2, TX2, 6), rfl, by decide, Or.inl (vGT_at 211 (by decide +kernel) (by decide +kernel))⟩
theorem ml_X2_44 : Cond.methodLink RX2 44 yX0_manualOf ∈ vGT := vGT_at 351 (by decide +kernel) (by decide +kernel)
theorem lk_X2_48 : vLk RX2 48 0 2 := ⟨(RX0, TX0, 20), rfl, by decide, Or.inr ⟨"OrganWind", vNW_at 88 (by decide +kernel) rfl⟩⟩
theorem lk_X2_27 : vLk RX2 27 2 5 := ⟨(RX2, TX2, 6), rfl, by decide, Or.inl (vGT_at 216 (by decide +kernel) (by decide +kernel))⟩
theorem lk_X2_9 : vLk RX2 9 2 0 := ⟨(RX2, TX2, 6), rfl, by decide, Or.inl (vGT_at 207 (by decide +kernel) (by decide +kernel))⟩
theorem ml_X2_51 : Cond.methodLinkNest RX2 51 yX3_isIn "OrganWind" ∈ vNW := vNW_at 360 (by decide +kernel) rfl
theorem ml_X2_55 : Cond.methodLink RX2 55 yX2_asks ∈ vGT := vGT_at 402 (by decide +kernel) (by decide +kernel)
theorem ml_X2_59 : Cond.methodLink RX2 59 yJ9_min_7cf53 ∈ vGT := vGT_at 410 (by decide +kernel) (by decide +kernel)
theorem lk_X2_24 : vLk RX2 24 2 4 := ⟨(RX2, TX2, 6), rfl, by decide, Or.inl (vGT_at 214 (by decide +kernel) (by decide +kernel))⟩
theorem ml_X2_65 : Cond.methodLinkNest RX2 65 yX3_pipeIndex "OrganWind" ∈ vNW := vNW_at 490 (by decide +kernel) rfl
theorem ml_X2_68 : Cond.methodLinkNest RX2 68 yX3_with "OrganWind" ∈ vNW := vNW_at 491 (by decide +kernel) rfl
theorem lk_X2_15 : vLk RX2 15 2 1 := ⟨(RX2, TX2, 6), rfl, by decide, Or.inl (vGT_at 209 (by decide +kernel) (by decide +kernel))⟩
theorem lk_X2_72 : vLk RX2 72 0 4 := ⟨(RX0, TX0, 20), rfl, by decide, Or.inr ⟨"OrganWind", vNW_at 94 (by decide +kernel) rfl⟩⟩
theorem ml_X2_75 : Cond.methodLink RX2 75 yX0_actingKeys ∈ vGT := vGT_at 355 (by decide +kernel) (by decide +kernel)
theorem ml_X2_78 : Cond.methodLink RX2 78 yX0_need ∈ vGT := vGT_at 361 (by decide +kernel) (by decide +kernel)
theorem ml_X2_81 : Cond.methodLink RX2 81 yX0_reservoirPressure ∈ vGT := vGT_at 393 (by decide +kernel) (by decide +kernel)
theorem lk_X2_85 : vLk RX2 85 0 6 := ⟨(RX0, TX0, 20), rfl, by decide, Or.inr ⟨"OrganWind", vNW_at 99 (by decide +kernel) rfl⟩⟩
theorem ml_X2_88 : Cond.methodLinkNest RX2 88 yX3_divide "OrganWind" ∈ vNW := vNW_at 394 (by decide +kernel) rfl
theorem ml_X2_91 : Cond.methodLink RX2 91 yJ9_max_7cf53 ∈ vGT := vGT_at 395 (by decide +kernel) (by decide +kernel)
theorem lk_X2_21 : vLk RX2 21 2 3 := ⟨(RX2, TX2, 6), rfl, by decide, Or.inl (vGT_at 213 (by decide +kernel) (by decide +kernel))⟩
theorem lk_X2_94 : vLk RX2 94 0 3 := ⟨(RX0, TX0, 20), rfl, by decide, Or.inr ⟨"OrganWind", vNW_at 92 (by decide +kernel) rfl⟩⟩
theorem lp_X2_38 : vLp RX2 38 0 12 := ⟨(RX0, TX0, 20), rfl, by decide, rfl, Or.inr ⟨"OrganWind", vNW_at 112 (by decide +kernel) rfl⟩⟩
theorem lc_L_7 : Cond.classLink RL 7 RX3 ∈ vGT := vGT_at 64 (by decide +kernel) (by decide +kernel)
theorem ml_L_9 : Cond.methodLink RL 9 yX3_init ∈ vGT := vGT_at 66 (by decide +kernel) (by decide +kernel)
theorem lc_L_10 : Cond.classLink RL 10 RX4 ∈ vGT := vGT_at 614 (by decide +kernel) (by decide +kernel)
theorem ml_L_12 : Cond.methodLink RL 12 yX4_init ∈ vGT := vGT_at 616 (by decide +kernel) (by decide +kernel)
theorem ml_L_13 : Cond.methodLink RL 13 yX3_layOut ∈ vGT := vGT_at 259 (by decide +kernel) (by decide +kernel)
theorem ml_L_17 : Cond.methodLink RL 17 yX4_layOut ∈ vGT := vGT_at 687 (by decide +kernel) (by decide +kernel)
theorem ml_L_18 : Cond.methodLink RL 18 yX3_stop ∈ vGT := vGT_at 292 (by decide +kernel) (by decide +kernel)
theorem ml_L_22 : Cond.methodLink RL 22 yX4_stop ∈ vGT := vGT_at 707 (by decide +kernel) (by decide +kernel)
theorem ml_L_23 : Cond.methodLink RL 23 yX3_set ∈ vGT := vGT_at 299 (by decide +kernel) (by decide +kernel)
theorem ml_L_26 : Cond.methodLink RL 26 yX4_set ∈ vGT := vGT_at 711 (by decide +kernel) (by decide +kernel)
theorem ml_L_27 : Cond.methodLink RL 27 yX3_cipher ∈ vGT := vGT_at 307 (by decide +kernel) (by decide +kernel)
theorem ml_L_31 : Cond.methodLink RL 31 yX4_cipher ∈ vGT := vGT_at 715 (by decide +kernel) (by decide +kernel)
theorem ml_L_32 : Cond.methodLink RL 32 yX3_draw ∈ vGT := vGT_at 327 (by decide +kernel) (by decide +kernel)
theorem ml_L_36 : Cond.methodLink RL 36 yX4_draw ∈ vGT := vGT_at 733 (by decide +kernel) (by decide +kernel)
theorem ml_L_37 : Cond.methodLink RL 37 yX3_press ∈ vGT := vGT_at 331 (by decide +kernel) (by decide +kernel)
theorem ml_L_40 : Cond.methodLink RL 40 yX4_press ∈ vGT := vGT_at 745 (by decide +kernel) (by decide +kernel)
theorem ml_L_41 : Cond.methodLink RL 41 yX3_couple ∈ vGT := vGT_at 335 (by decide +kernel) (by decide +kernel)
theorem ml_L_45 : Cond.methodLink RL 45 yX4_couple ∈ vGT := vGT_at 753 (by decide +kernel) (by decide +kernel)
theorem ml_L_46 : Cond.methodLink RL 46 yX3_tick ∈ vGT := vGT_at 339 (by decide +kernel) (by decide +kernel)
theorem ml_L_50 : Cond.methodLink RL 50 yX4_tick ∈ vGT := vGT_at 757 (by decide +kernel) (by decide +kernel)
theorem ml_L_51 : Cond.methodLink RL 51 yX3_append ∈ vGT := vGT_at 414 (by decide +kernel) (by decide +kernel)
theorem ml_L_54 : Cond.methodLink RL 54 yX4_append ∈ vGT := vGT_at 790 (by decide +kernel) (by decide +kernel)
theorem ml_L_55 : Cond.methodLink RL 55 yX3_clearText ∈ vGT := vGT_at 423 (by decide +kernel) (by decide +kernel)
theorem ml_L_59 : Cond.methodLink RL 59 yX4_clearText ∈ vGT := vGT_at 794 (by decide +kernel) (by decide +kernel)
theorem ml_L_60 : Cond.methodLink RL 60 yX3_faultPosition ∈ vGT := vGT_at 427 (by decide +kernel) (by decide +kernel)
theorem ml_L_63 : Cond.methodLink RL 63 yX4_faultPosition ∈ vGT := vGT_at 798 (by decide +kernel) (by decide +kernel)
theorem ml_L_64 : Cond.methodLink RL 64 yX3_play ∈ vGT := vGT_at 464 (by decide +kernel) (by decide +kernel)
theorem ml_L_67 : Cond.methodLink RL 67 yX4_play ∈ vGT := vGT_at 831 (by decide +kernel) (by decide +kernel)
theorem ml_L_68 : Cond.methodLink RL 68 yX3_tell ∈ vGT := vGT_at 476 (by decide +kernel) (by decide +kernel)
theorem ml_L_71 : Cond.methodLink RL 71 yX4_tell ∈ vGT := vGT_at 836 (by decide +kernel) (by decide +kernel)
theorem ml_L_72 : Cond.methodLink RL 72 yX3_chest ∈ vGT := vGT_at 499 (by decide +kernel) (by decide +kernel)
theorem ml_L_75 : Cond.methodLink RL 75 yX4_chest ∈ vGT := vGT_at 860 (by decide +kernel) (by decide +kernel)
theorem ml_L_76 : Cond.methodLink RL 76 yX3_strokes ∈ vGT := vGT_at 508 (by decide +kernel) (by decide +kernel)
theorem ml_L_79 : Cond.methodLink RL 79 yX4_strokes ∈ vGT := vGT_at 868 (by decide +kernel) (by decide +kernel)
theorem ml_L_80 : Cond.methodLink RL 80 yX3_pipe ∈ vGT := vGT_at 512 (by decide +kernel) (by decide +kernel)
theorem ml_L_84 : Cond.methodLink RL 84 yX4_pipe ∈ vGT := vGT_at 872 (by decide +kernel) (by decide +kernel)
theorem ml_L_85 : Cond.methodLink RL 85 yX3_reason ∈ vGT := vGT_at 532 (by decide +kernel) (by decide +kernel)
theorem ml_L_88 : Cond.methodLink RL 88 yX4_reason ∈ vGT := vGT_at 891 (by decide +kernel) (by decide +kernel)
theorem ml_L_89 : Cond.methodLink RL 89 yX3_tune ∈ vGT := vGT_at 540 (by decide +kernel) (by decide +kernel)
theorem ml_L_92 : Cond.methodLink RL 92 yX4_tune ∈ vGT := vGT_at 899 (by decide +kernel) (by decide +kernel)
theorem ml_L_93 : Cond.methodLink RL 93 yX3_mistuned ∈ vGT := vGT_at 544 (by decide +kernel) (by decide +kernel)
theorem ml_L_96 : Cond.methodLink RL 96 yX4_mistuned ∈ vGT := vGT_at 903 (by decide +kernel) (by decide +kernel)
theorem ml_L_97 : Cond.methodLink RL 97 yX3_search ∈ vGT := vGT_at 554 (by decide +kernel) (by decide +kernel)
theorem ml_L_100 : Cond.methodLink RL 100 yX4_search ∈ vGT := vGT_at 911 (by decide +kernel) (by decide +kernel)
theorem ml_L_101 : Cond.methodLink RL 101 yX3_robbed ∈ vGT := vGT_at 577 (by decide +kernel) (by decide +kernel)
theorem ml_L_104 : Cond.methodLink RL 104 yX4_robbed ∈ vGT := vGT_at 926 (by decide +kernel) (by decide +kernel)
theorem ml_L_105 : Cond.methodLink RL 105 yX3_lowest ∈ vGT := vGT_at 581 (by decide +kernel) (by decide +kernel)
theorem ml_L_108 : Cond.methodLink RL 108 yX4_lowest ∈ vGT := vGT_at 930 (by decide +kernel) (by decide +kernel)
theorem ml_L_109 : Cond.methodLink RL 109 yX3_undo ∈ vGT := vGT_at 585 (by decide +kernel) (by decide +kernel)
theorem ml_L_112 : Cond.methodLink RL 112 yX4_undo ∈ vGT := vGT_at 934 (by decide +kernel) (by decide +kernel)
theorem ml_L_113 : Cond.methodLink RL 113 yX3_save ∈ vGT := vGT_at 589 (by decide +kernel) (by decide +kernel)
theorem ml_L_116 : Cond.methodLink RL 116 yX4_save ∈ vGT := vGT_at 938 (by decide +kernel) (by decide +kernel)
theorem ml_L_117 : Cond.methodLink RL 117 yX3_restore ∈ vGT := vGT_at 596 (by decide +kernel) (by decide +kernel)
theorem ml_L_120 : Cond.methodLink RL 120 yX4_restore ∈ vGT := vGT_at 942 (by decide +kernel) (by decide +kernel)
theorem ml_L_121 : Cond.methodLink RL 121 yX3_checksum ∈ vGT := vGT_at 600 (by decide +kernel) (by decide +kernel)
theorem ml_L_125 : Cond.methodLink RL 125 yX4_checksum ∈ vGT := vGT_at 946 (by decide +kernel) (by decide +kernel)
theorem kc_J6_265 : Cond.constant RJ6 265 (1431655765) ∈ vGT := vGT_at 320 (by decide +kernel) (by decide +kernel)
theorem kc_J6_266 : Cond.constant RJ6 266 (858993459) ∈ vGT := vGT_at 321 (by decide +kernel) (by decide +kernel)
theorem kc_J6_267 : Cond.constant RJ6 267 (252645135) ∈ vGT := vGT_at 322 (by decide +kernel) (by decide +kernel)
theorem li_0 : Cond.instantiable RX0 20 ∈ vGT := vGT_at 73 (by decide +kernel) (by decide +kernel)
theorem lI_0 : Cond.initialized RX0 ∈ vGT := vGT_at 57 (by decide +kernel) (by decide +kernel)
theorem li_1 : Cond.instantiable RX1 7 ∈ vGT := vGT_at 169 (by decide +kernel) (by decide +kernel)
theorem lI_1 : Cond.initialized RX1 ∈ vGT := vGT_at 59 (by decide +kernel) (by decide +kernel)
theorem li_2 : Cond.instantiable RX2 6 ∈ vGT := vGT_at 202 (by decide +kernel) (by decide +kernel)
theorem lI_2 : Cond.initialized RX2 ∈ vGT := vGT_at 60 (by decide +kernel) (by decide +kernel)
theorem li_3 : Cond.instantiable RX3 9 ∈ vGT := vGT_at 65 (by decide +kernel) (by decide +kernel)
theorem lI_3 : Cond.initialized RX3 ∈ vGT := vGT_at 56 (by decide +kernel) (by decide +kernel)
theorem li_4 : Cond.instantiable RX4 22 ∈ vGT := vGT_at 615 (by decide +kernel) (by decide +kernel)
theorem lI_4 : Cond.initialized RX4 ∈ vGT := vGT_at 61 (by decide +kernel) (by decide +kernel)
theorem la_I : Cond.arrayClass .int ∈ vGT := vGT_at 166 (by decide +kernel) (by decide +kernel)
theorem la_Z : Cond.arrayClass .boolean ∈ vGT := vGT_at 200 (by decide +kernel) (by decide +kernel)
theorem lo_i : Cond.instanceMethod objectInit ∈ vGT := vGT_at 70 (by decide +kernel) (by decide +kernel)
theorem lo_c : Cond.code objectInit ⟨#[0xb1]⟩ 1 none ∈ vGT := vGT_at 71 (by decide +kernel) (by decide +kernel)
theorem lac_n : Cond.native arraycopyName ∈ vGT := vGT_at 82 (by decide +kernel) (by decide +kernel)
theorem lac_s : Cond.static arraycopyName ∈ vGT := vGT_at 81 (by decide +kernel) (by decide +kernel)
theorem lac_i : Cond.initialized "java/lang/System" ∈ vGT := vGT_at 58 (by decide +kernel) (by decide +kernel)
end
section
/-! ===== contracts, calls, returns ===== -/
abbrev vPost : Type := Option AV → (Nat → Option Shp) → Nat → Mem → Prop
def vPre (G : vGG) (As : List AV) (sh : Nat → Option Shp) (n : Nat) (M : Mem) : Array Value → State → Prop := va_Pc (As.map (vrv G)) (fun U => vKF G U ∧ vSZ G U U.heap ∧ G.2.2.1 ≤ U.heap.size ∧ vRel G U sh n M U.heap)
def vQc (G : vGG) (post : vPost) : Array Value → State → Outcome → State → Prop := fun _ st o t =>
  (∃ (r : Option AV) (sh' : Nat → Option Shp) (n' : Nat) (M' : Mem), o = .returned (r.map (vrv G)) ∧ post r sh' n' M' ∧ vRel G t sh' n' M' t.heap) ∧ va_F (vnew G) st t
/-- a method's contract: from the memory M, with these arguments, it returns, and its answer and the memory behind it are as post says -/
def Ct (l : Launch) (y : MethodName) (cy : ByteArray) (mL : Nat) (ret : Option FieldType) (rm : Room) (G : vGG) (As : List AV) (sh : Nat → Option Shp) (n : Nat) (M : Mem) (post : vPost) : Prop :=
  Met l y (Cond.code y cy mL ret :: vGT) rm (vPre G As sh n M) (vQc G post) rm.cells rm.slots (vnew G)
theorem vKF.moved {G : vGG} {s U : State} (hW : s.WarmedH U.vm) (h : vKF G s) : vKF G U := by
  refine ⟨va_K.moved hW.alike h.1, fun w hw => ?_, h.2.2.moved hW.alike⟩
  have h1 := h.2.1 w hw
  have h2 : vnest w = true := (List.mem_filter.mp hw).2
  cases w <;> first | exact va_Nw.warmF hW h1 | exact va_Nw.warmM hW h1 | simp [vnest] at h2
theorem vSZ.moved {G : vGG} {s U : State} {H : Heap} (hvm : s.vm.Alike U.vm) (h : vSZ G s H) : vSZ G U H := ⟨h.1.moved hvm, h.2.1.moved hvm, h.2.2.moved hvm⟩
theorem vSZ.kept {G : vGG} {s : State} {H H1 : Heap} (hq : ∀ a : Nat, a < H.size → ¬ vnew G a → H1[a]? = H[a]?) (h : vSZ G s H) : vSZ G s H1 := ⟨h.1.kept hq, h.2.1.kept hq, h.2.2.kept hq⟩
theorem vPre.blind {G : vGG} {As : List AV} {sh : Nat → Option Shp} {n : Nat} {M : Mem} : FrameBlind (vPre G As sh n M) := by
  intro a U g mk q
  obtain ⟨q0, q1, q2, q3, q4⟩ := q
  have hal : U.vm.Alike (U.calling g mk a).vm := Vm.Alike.refl U.vm
  refine ⟨q0, ⟨va_K.moved (u := U) (U := U.calling g mk a) (Vm.Alike.refl U.vm) q1.1, fun w hw => ?_, q1.2.2.moved (U := U.calling g mk a) (Vm.Alike.refl U.vm)⟩, q2.moved (U := U.calling g mk a) (Vm.Alike.refl U.vm), q3, q4.moved (U := U.calling g mk a) (Vm.Alike.refl U.vm)⟩
  have h2 : vnest w = true := (List.mem_filter.mp hw).2
  refine va_Nw.same (u := U) (U := U.calling g mk a) ?_ rfl (q1.2.1 w hw)
  cases w <;> first | rfl | simp [vnest] at h2
theorem vgood {y0 : MethodName} {c0 : ByteArray} {m0 : Nat} {r0 : Option FieldType} {ws : List Cond} (h : ∀ w ∈ ws, w ∈ vGT) : GoodIn (Cond.code y0 c0 m0 r0 :: vGT) ws := fun w hw => ⟨List.mem_cons_of_mem _ (h w hw), good_of_word (List.mem_filter.mp (h w hw)).2⟩
theorem vgoodT {ws : List Cond} (h : ∀ w ∈ ws, w ∈ vGT) : GoodIn vGT ws := fun w hw => ⟨h w hw, good_of_word (List.mem_filter.mp (h w hw)).2⟩
def vent (G : vGG) : List AV → List (Option AV)
  | [] => []
  | .inr (.inl z) :: r => some (aL z) :: none :: vent G r
  | a :: r => some a :: vent G r
theorem vent_args (G : vGG) : ∀ (As : List AV) (k : Nat) (r : List (Option AV)), (∀ a ∈ r, a = none) → ∀ q ∈ vprs G k (vent G As ++ r), q ∈ lv_args k (As.map (vrv G))
  | [], k, r, hr, q, hq => by
    exfalso
    obtain ⟨i, v, h, -⟩ := vprs_mem.mp hq
    have := hr _ (List.mem_of_getElem? (by simpa [vent] using h))
    cases this
  | .inl z :: As, k, r, hr, q, hq => by
    simp only [vent, List.cons_append, vprs, List.mem_cons] at hq
    simp only [List.map_cons, lv_args, List.mem_cons]
    rcases hq with h | h
    · exact Or.inl h
    · exact Or.inr (vent_args G As (k + 1) r hr q h)
  | .inr (.inl z) :: As, k, r, hr, q, hq => by
    simp only [vent, List.cons_append, vprs, List.mem_cons] at hq
    simp only [List.map_cons, lv_args, List.mem_cons]
    rcases hq with h | h
    · exact Or.inl h
    · exact Or.inr (vent_args G As (k + 2) r hr q h)
  | .inr (.inr o) :: As, k, r, hr, q, hq => by
    simp only [vent, List.cons_append, vprs, List.mem_cons] at hq
    simp only [List.map_cons, lv_args, List.mem_cons]
    rcases hq with h | h
    · exact Or.inl h
    · have hc : ¬ (vrv G (.inr (.inr o))).category = 2 := by rw [vrv_cat]; exact (by decide : ¬ (1 : Nat) = 2)
      rw [if_neg hc]
      exact Or.inr (vent_args G As (k + 1) r hr q h)
theorem lg_sl1 {v : Value} (h : v.category = 1) (vs : List Value) : lg_sl (v :: vs) = .val v :: lg_sl vs := by
  simp [lg_sl, h]
theorem lg_sl2 {v : Value} (h : v.category = 2) (vs : List Value) : lg_sl (v :: vs) = .val v :: .second :: lg_sl vs := by
  simp [lg_sl, h]
theorem vent_len (G : vGG) : ∀ As : List AV, (lg_sl (As.map (vrv G))).length = (vent G As).length
  | [] => rfl
  | .inl z :: As => by
    rw [List.map_cons, lg_sl1 (by rw [vrv_cat]; rfl), List.length_cons, vent_len G As]
    rfl
  | .inr (.inl z) :: As => by
    rw [List.map_cons, lg_sl2 (by rw [vrv_cat]; rfl), List.length_cons, List.length_cons, vent_len G As]
    rfl
  | .inr (.inr o) :: As => by
    rw [List.map_cons, lg_sl1 (by rw [vrv_cat]; rfl), List.length_cons, vent_len G As]
    rfl
theorem vMet_ofW {l : Launch} {y : MethodName} {ws ws' : List Cond} {rm : Room} {Pc : Array Value → State → Prop} {Qc : Array Value → State → Outcome → State → Prop} {mc ms : Nat} {free : Addr → Prop} {cc : ByteArray} {maxL : Nat} {ret : Option FieldType}
    (hy : plainFor y = true) (hw : ws = Cond.code y cc maxL ret :: ws')
    (body : ∀ p e s m args below meth c s₁, BodyLoose p l y (headSpec ws rm) cc maxL ret e s m args below meth c s₁ → c.maxLocals = maxL → Pc args s →
      W p l e (headSpec ws rm).room s m args below meth c s.heap [] 0 0 (MQ below Qc args s mc ms free) (entryFrame m args maxL)) : Met l y ws rm Pc Qc mc ms free := by
  refine MetFree.of_bodySF (code := cc) (maxLocals := maxL) (ret := ret) hy ?_ ?_
  · intro args s m h hn
    obtain ⟨meth, c, h1, h2, h3, h4, h5, h6, -, -⟩ := Cond.code_spec hn (atoms_spec (ws := ws) h _ (by rw [hw]; exact List.mem_cons_self))
    exact ⟨meth, c, h1, h2, h3, h4, h5, h6⟩
  · intro p e s m args below meth c s₁ B hml hP _
    have hh0 : s₁.heap = s.heap := by rw [B.state]; rfl
    obtain ⟨t, a1, o, b1, b2, b3⟩ := body p e s m args below meth c s₁ B hml hP s₁ hh0 (Stand.of_body B)
    exact ⟨t, o, a1, b1, b2, ⟨b3.1, b3.2⟩⟩
/-- a contract out of a walk from the method's entry -/
theorem Ct.ofV {l : Launch} {y : MethodName} {cy : ByteArray} {mL : Nat} {ret : Option FieldType} {rm : Room} {G : vGG} {As : List AV} {sh : Nat → Option Shp} {n : Nat} {M : Mem} {post : vPost} {ls : List (Option AV)}
    (hy : plainFor y = true) (hls : vent G As ++ List.replicate (mL - (vent G As).length) none = ls) (hlen : ls.length = mL)
    (body : ∀ x : vXX, xl x = l → xR x = rm → (xM x).locks = false → (xM x).sig.returnType = ret → (xM x).name = y.name → ∀ Q : State → Prop, Q = MQ (xb x) (vQc G post) (xa x) (xs x) rm.cells rm.slots (vnew G) → V x Q G cy y.cls sh n 0 0 0 ls [] M) :
    Ct l y cy mL ret rm G As sh n M post := by
  refine vMet_ofW (cc := cy) (maxL := mL) (ret := ret) hy rfl ?_
  intro p e s m args below meth c s₁ B hml hv
  obtain ⟨rfl, hK, hZ, hB, hR⟩ := hv
  have hts := atoms_spec (ws := Cond.code y cy mL ret :: vGT) B.pre
  have hown : s.vm.findClass y.cls = some m.cls := findClass_of_methodNamed B.named
  have hnm : meth.name = y.name := (name_of_methodNamed B.named B.method).1
  have hle : (vent G As).length ≤ mL := by
    have := congrArg List.length hls
    rw [List.length_append, List.length_replicate] at this
    omega
  rw [lg_entry_eq]
  have hl := lv_entry (As.map (vrv G)) (n := mL) (by rw [vent_len]; exact hle)
  have hl2 : lv_has ((lg_sl (As.map (vrv G)) ++ List.replicate (mL - (lg_sl (As.map (vrv G))).length) Slot.unset).toArray) ls.length (vprs G 0 ls) := by
    refine ⟨by rw [hlen]; exact hl.1, hl.2.1, fun q hq => hl.2.2 q ?_⟩
    rw [← hls] at hq
    exact vent_args G As 0 _ (fun a ha => (List.mem_replicate.mp ha).2) q hq
  exact body (p, l, e, rm, s, m, _, below, meth, c) rfl rfl B.notSynchronized B.returns hnm _ rfl ⟨B.exec, B.bytes, by rw [hlen]; exact hml, hown, fun w hw => hts w (List.mem_cons_of_mem _ hw), hK, hZ, hB⟩ s.heap [] _ hR va_S.rf hl2
section VC
variable {x : vXX} {Q : State → Prop} {G : vGG} {cc : ByteArray} {own : String} {sh : Nat → Option Shp} {n cl sl pc : Nat} {ls : List (Option AV)} {st : List AV} {M : Mem} {post : vPost} {kc ks : Nat}
theorem v_iret {z : Int} (hQ : Q = MQ (xb x) (vQc G post) (xa x) (xs x) kc ks (vnew G)) (hc : cl ≤ kc) (hsl : sl ≤ ks) (hk : (xM x).locks = false) (hr : (xM x).sig.returnType = some .int) (hd : decode cc pc = .ok (.ireturn, 1)) (hp : post (some (aI z)) sh n M) :
    V x Q G cc own sh n cl sl pc ls [aI z] M := fun C H locs la hR hS hL => by
  subst hQ
  refine W.widen hc hsl ?_
  exact W.iret (v := Int32.ofInt z) C.1 C.2.1 hr (fun t ht hW => ⟨⟨some (aI z), sh, n, M, rfl, hp, by rw [ht]; exact hR.moved hW.alike⟩, hS.F ht⟩) hS.2.2 hd hk
theorem v_lret {z : Int} (hQ : Q = MQ (xb x) (vQc G post) (xa x) (xs x) kc ks (vnew G)) (hc : cl ≤ kc) (hsl : sl ≤ ks) (hk : (xM x).locks = false) (hr : (xM x).sig.returnType = some .long) (hd : decode cc pc = .ok (.lreturn, 1)) (hp : post (some (aL z)) sh n M) :
    V x Q G cc own sh n cl sl pc ls [aL z] M := fun C H locs la hR hS hL => by
  subst hQ
  refine W.widen hc hsl ?_
  exact W.lret (v := Int64.ofInt z) C.1 C.2.1 hr (fun t ht hW => ⟨⟨some (aL z), sh, n, M, rfl, hp, by rw [ht]; exact hR.moved hW.alike⟩, hS.F ht⟩) hS.2.2 hd hk
theorem v_ret (hQ : Q = MQ (xb x) (vQc G post) (xa x) (xs x) kc ks (vnew G)) (hc : cl ≤ kc) (hsl : sl ≤ ks) (hk : (xM x).locks = false) (hr : (xM x).sig.returnType = none) (hd : decode cc pc = .ok (.return_, 1)) (hp : post none sh n M) :
    V x Q G cc own sh n cl sl pc ls [] M := fun C H locs la hR hS hL => by
  subst hQ
  refine W.widen hc hsl ?_
  exact W.vret C.1 C.2.1 hr (fun t ht hW => ⟨⟨none, sh, n, M, rfl, hp, by rw [ht]; exact hR.moved hW.alike⟩, hS.F ht⟩) hS.2.2 hd hk
theorem v_zret {z : Int} (hz : z = 0 ∨ z = 1) (hQ : Q = MQ (xb x) (vQc G post) (xa x) (xs x) kc ks (vnew G)) (hc : cl ≤ kc) (hsl : sl ≤ ks) (hk : (xM x).locks = false) (hr : (xM x).sig.returnType = some .boolean) (hd : decode cc pc = .ok (.ireturn, 1)) (hp : post (some (aI z)) sh n M) :
    V x Q G cc own sh n cl sl pc ls [aI z] M := fun C H locs la hR hS hL => by
  subst hQ
  refine W.widen hc hsl ?_
  exact W.zret (v := Int32.ofInt z) C.1 C.2.1 hr (vbool hz).1 (fun t ht hW => ⟨⟨some (aI z), sh, n, M, rfl, hp, by rw [ht]; exact hR.moved hW.alike⟩, hS.F ht⟩) hS.2.2 hd hk
end VC
end
section
/-! ===== calls ===== -/
def vRm (rm R : Room) (mL cl sl : Nat) : Prop := (rm.frames + 1 ≤ R.frames ∧ 8 + (mL + 11) + rm.locals ≤ R.locals) ∧ cl + rm.cells ≤ R.cells ∧ sl + rm.slots ≤ R.slots
section VK
variable {x : vXX} {Q : State → Prop} {G : vGG} {cc : ByteArray} {own : String} {sh : Nat → Option Shp} {n cl sl pc : Nat} {ls : List (Option AV)} {st : List AV} {M : Mem}
variable {y : MethodName} {cy : ByteArray} {mL nA idx : Nat} {ret : Option FieldType} {rm : Room} {post : vPost} {As : List AV}
theorem v_pre {H : Heap} {locs : List Loc} (C : vCX x G cc own ls.length) (hR : vRel G (xs x) sh n M H) (hS : va_S (vnew G) (xs x).heap H locs) : ∀ U : State, U.heap = H → (xs x).WarmedH U.vm → vPre G As sh n M (As.map (vrv G)).toArray U := by
  intro U hU hW
  obtain ⟨-, -, -, -, -, hK, hZ, hB⟩ := C
  refine ⟨rfl, hK.moved hW, ?_, ?_, ?_⟩
  · rw [hU]
    exact (hZ.kept (fun a h1 h2 => hS.2.1 a h1 h2)).moved hW.alike
  · rw [hU]
    exact Nat.le_trans hB hS.1
  · rw [hU]
    exact hR.moved hW.alike
theorem v_back {H : Heap} {locs : List Loc} {la : Array Slot} {st0 : List Value} {a : Array Value} {mc ms : Nat} (C : vCX x G cc own ls.length) (hS : va_S (vnew G) (xs x).heap H locs) (hL : lv_has la ls.length (vprs G 0 ls))
    (hr : va_Run (xp x) (xl x) (xe x) (xR x) (xs x) (xm x) (xa x) (xb x) (xM x) (xc x) H locs cl sl mc ms (F0 (xm x) pc la st0) (st.map (vrv G)) (vQc G post a) (vnew G))
    (kk : ∀ (r : Option AV) (sh' : Nat → Option Shp) (n' : Nat) (M' : Mem), post r sh' n' M' → V x Q G cc own sh' n' (cl + mc) (sl + ms) (pc + 3) ls (r.toList ++ st) M') :
    W (xp x) (xl x) (xe x) (xR x) (xs x) (xm x) (xa x) (xb x) (xM x) (xc x) H locs cl sl Q (F0 (xm x) pc la st0) := by
  intro T hT X
  obtain ⟨v, st₀, t, T', L, h0, X', hL2, e1, e2, ⟨⟨r, sh', n', M', hv, hp, hR'⟩, hz, hk⟩, step⟩ := hr T hT X
  have hv' : v = r.map (vrv G) := by cases hv; rfl
  subst hv'
  rw [h0] at hz hk
  have hal : (xs x).vm.Alike t.vm := by rw [← e2]; exact X'.warmed.alike
  have hS2 : va_S (vnew G) (xs x).heap T'.heap (locs ++ L) := ⟨Nat.le_trans hS.1 (by rw [e1]; exact hz), fun q h1 h2 => by rw [e1, hk q (Nat.lt_of_lt_of_le h1 hS.1) h2]; exact hS.2.1 q h1 h2, fun q hq => by
      rcases List.mem_append.mp hq with h | h
      · exact hS.2.2 q h
      · exact hL2 q h⟩
  obtain ⟨t2, a1, b1⟩ := kk r sh' n' M' hp C T'.heap (locs ++ L) la (by rw [e1]; exact hR'.moved hal.symm) hS2 hL T' rfl X'
  refine ⟨t2, step t2 ?_, b1⟩
  have he : (r.toList ++ st).map (vrv G) = (r.map (vrv G)).toList ++ st.map (vrv G) := by cases r <;> rfl
  rw [← he]
  exact a1
theorem vroomS (h : (st.map vcat).sum ≤ 8) : ((st.map (vrv G)).map fun v => v.category).sum ≤ 8 := by
  rw [List.map_map, show ((fun v : Value => v.category) ∘ vrv G) = vcat from funext fun a => vrv_cat G a]
  exact h
theorem v_callS (hc : Ct (xl x) y cy mL ret rm G As sh n M post) (k0 : vK0 y cy mL ret nA) (kl : Cond.methodLink own idx y ∈ vGT) (ks : Cond.static y ∈ vGT) (hn : As.length = nA) (hR1 : vRm rm (xR x) mL cl sl) (hst : (st.map vcat).sum ≤ 8) (hd : decode cc pc = .ok (.invokestatic idx, 3))
    (kk : ∀ (r : Option AV) (sh' : Nat → Option Shp) (n' : Nat) (M' : Mem), post r sh' n' M' → V x Q G cc own sh' n' (cl + rm.cells) (sl + rm.slots) (pc + 3) ls (r.toList ++ st) M') : V x Q G cc own sh n cl sl pc ls (As.reverse ++ st) M := fun C H locs la hR hS hL => by
  obtain ⟨hd0, hcode, hini⟩ := k0
  refine v_back (a := (As.map (vrv G)).toArray) C hS hL ?_ kk
  exact va_runS (Ts := vGT) (nL := ls.length) ⟨C.1, C.2.1, C.2.2.1, C.2.2.2.1, C.2.2.2.2.1⟩ hc (va_cwS nA C.2.2.2.2.1 (vgoodT (fun w hw => by
      rcases List.mem_append.mp hw with h | h
      · simp only [List.mem_cons, List.not_mem_nil, or_false] at h
        rcases h with rfl | rfl | rfl
        · exact kl
        · exact ks
        · exact hini
      · rcases List.mem_cons.mp h with rfl | h
        · exact hcode
        · exact h)) rfl rfl rfl hd0 hR1.1) ⟨vPre.blind, v_pre C hR hS⟩ rfl (by rw [List.length_map]; exact hn) hL.1 (by simp) (lv_room (vroomS hst)) hd hR1.2
theorem v_callSN {host : String} (hc : Ct (xl x) y cy mL ret rm G As sh n M post) (k0 : vK0 y cy mL ret nA) (kl : Cond.methodLinkNest own idx y host ∈ vNW) (ks : Cond.static y ∈ vGT) (hn : As.length = nA) (hR1 : vRm rm (xR x) mL cl sl) (hst : (st.map vcat).sum ≤ 8) (hd : decode cc pc = .ok (.invokestatic idx, 3))
    (kk : ∀ (r : Option AV) (sh' : Nat → Option Shp) (n' : Nat) (M' : Mem), post r sh' n' M' → V x Q G cc own sh' n' (cl + rm.cells) (sl + rm.slots) (pc + 3) ls (r.toList ++ st) M') : V x Q G cc own sh n cl sl pc ls (As.reverse ++ st) M := fun C H locs la hR hS hL => by
  obtain ⟨hd0, hcode, hini⟩ := k0
  refine v_back (a := (As.map (vrv G)).toArray) C hS hL ?_ kk
  exact va_runSN (Ts := vGT) (nL := ls.length) ⟨C.1, C.2.1, C.2.2.1, C.2.2.2.1, C.2.2.2.2.1⟩ hc ⟨va_cnB nA C.2.2.2.2.1 (vgoodT (fun w hw => by
      rcases List.mem_cons.mp hw with rfl | h
      · exact hcode
      · exact h)) rfl rfl rfl (C.2.2.2.2.2.1.2.1 _ kl) (C.2.2.2.2.1 _ hini) hd0 hR1.1, C.2.2.2.2.1 _ ks, trivial⟩ ⟨vPre.blind, v_pre C hR hS⟩ rfl (by rw [List.length_map]; exact hn) hL.1 (by simp) (lv_room (vroomS hst)) hd hR1.2
theorem v_recv {H : Heap} {b ci : Nat} (C : vCX x G cc own ls.length) (hR : vRel G (xs x) sh n M H) (hs : sh b = some (.inl ci)) (hcl : (vwCl[ci]?).map (fun r => r.1) = some y.cls) : ∃ cellB : Cell, H[vad G b]? = some cellB ∧ cellB.vm.isStatics = false ∧ (xs x).vm.findClass y.cls = some cellB.cls := by
  obtain ⟨hi, r, hr, cell, q1, q2, q3, q4⟩ := hR.2.2.2.2 b _ hs
  rw [hr] at hcl
  have hcl2 : r.1 = y.cls := Option.some.inj hcl
  refine ⟨cell, q1, by rw [q3]; rfl, ?_⟩
  rw [q2, ← hcl2]
  exact (C.2.2.2.2.2.1.1.1 ci r hr).2.1
theorem v_callV {b ci : Nat} (hc : Ct (xl x) y cy mL ret rm G (aR (some b) :: As) sh n M post) (k0 : vK0 y cy mL ret nA) (kl : Cond.methodLink own idx y ∈ vGT) (ki : Cond.instanceMethod y ∈ vGT) (ks : Cond.selects y.cls y y ∈ vGT) (hs : sh b = some (.inl ci)) (hcl : (vwCl[ci]?).map (fun r => r.1) = some y.cls) (hn : As.length = nA) (hR1 : vRm rm (xR x) mL cl sl) (hst : (st.map vcat).sum ≤ 8) (hd : decode cc pc = .ok (.invokevirtual idx, 3))
    (kk : ∀ (r : Option AV) (sh' : Nat → Option Shp) (n' : Nat) (M' : Mem), post r sh' n' M' → V x Q G cc own sh' n' (cl + rm.cells) (sl + rm.slots) (pc + 3) ls (r.toList ++ st) M') : V x Q G cc own sh n cl sl pc ls (As.reverse ++ aR (some b) :: st) M := fun C H locs la hR hS hL => by
  obtain ⟨hd0, hcode, hini⟩ := k0
  refine v_back (a := (Value.ref (vad G b) :: As.map (vrv G)).toArray) C hS hL ?_ kk
  exact va_runV (Ts := vGT) (nL := ls.length) (C := y.cls) (b := vad G b) (As := As.map (vrv G)) ⟨C.1, C.2.1, C.2.2.1, C.2.2.2.1, C.2.2.2.2.1⟩ hc (cwV nA C.2.2.2.2.1 (vgoodT (fun w hw => by
      rcases List.mem_append.mp hw with h | h
      · simp only [List.mem_cons, List.not_mem_nil, or_false] at h
        rcases h with rfl | rfl | rfl | rfl
        · exact kl
        · exact ki
        · exact ks
        · exact hini
      · rcases List.mem_cons.mp h with rfl | h
        · exact hcode
        · exact h)) rfl rfl rfl ⟨rfl, hd0⟩ hR1.1) ⟨vPre.blind, v_recv C hR hs hcl, v_pre (As := aR (some b) :: As) C hR hS⟩ rfl (by rw [List.length_map]; exact hn) hL.1 (by simp [vrv, va_rf]) (lv_room (vroomS hst)) hd hR1.2
theorem v_callI {b : Nat} (hc : Ct (xl x) y cy mL none rm G (aR (some b) :: As) sh n M post) (k0 : vK0 y cy mL none nA) (kl : Cond.methodLink own idx y ∈ vGT) (ki : Cond.instanceMethod y ∈ vGT) (hin : y.name = "<init>") (hn : As.length = nA) (hR1 : vRm rm (xR x) mL cl sl) (hst : (st.map vcat).sum ≤ 8) (hd : decode cc pc = .ok (.invokespecial idx, 3))
    (kk : ∀ (r : Option AV) (sh' : Nat → Option Shp) (n' : Nat) (M' : Mem), post r sh' n' M' → V x Q G cc own sh' n' (cl + rm.cells) (sl + rm.slots) (pc + 3) ls (r.toList ++ st) M') : V x Q G cc own sh n cl sl pc ls (As.reverse ++ aR (some b) :: st) M := fun C H locs la hR hS hL => by
  obtain ⟨hd0, hcode, hini⟩ := k0
  refine v_back (a := (Value.ref (vad G b) :: As.map (vrv G)).toArray) C hS hL ?_ kk
  have hts := C.2.2.2.2.1
  exact va_runI (Ts := vGT) (nL := ls.length) (b := vad G b) (As := As.map (vrv G)) ⟨C.1, C.2.1, C.2.2.1, C.2.2.2.1, C.2.2.2.2.1⟩ hc ⟨callB_of nA hts (vgoodT (fun w hw => by
      rcases List.mem_cons.mp hw with rfl | h
      · exact hcode
      · exact h)) rfl rfl rfl (hts _ hini) (hts _ kl) hd0 hR1.1, hin, hts _ ki⟩ ⟨vPre.blind, v_pre (As := aR (some b) :: As) C hR hS⟩ rfl (by rw [List.length_map]; exact hn) hL.1 (by simp [vrv, va_rf]) (lv_room (vroomS hst)) hd hR1.2
theorem v_callIN {b : Nat} {host : String} (hc : Ct (xl x) y cy mL none rm G (aR (some b) :: As) sh n M post) (k0 : vK0 y cy mL none nA) (kl : Cond.methodLinkNest own idx y host ∈ vNW) (ki : Cond.instanceMethod y ∈ vGT) (hin : y.name = "<init>") (hn : As.length = nA) (hR1 : vRm rm (xR x) mL cl sl) (hst : (st.map vcat).sum ≤ 8) (hd : decode cc pc = .ok (.invokespecial idx, 3))
    (kk : ∀ (r : Option AV) (sh' : Nat → Option Shp) (n' : Nat) (M' : Mem), post r sh' n' M' → V x Q G cc own sh' n' (cl + rm.cells) (sl + rm.slots) (pc + 3) ls (r.toList ++ st) M') : V x Q G cc own sh n cl sl pc ls (As.reverse ++ aR (some b) :: st) M := fun C H locs la hR hS hL => by
  obtain ⟨hd0, hcode, hini⟩ := k0
  refine v_back (a := (Value.ref (vad G b) :: As.map (vrv G)).toArray) C hS hL ?_ kk
  exact va_runIN (Ts := vGT) (nL := ls.length) (b := vad G b) (As := As.map (vrv G)) ⟨C.1, C.2.1, C.2.2.1, C.2.2.2.1, C.2.2.2.2.1⟩ hc ⟨va_cnB nA C.2.2.2.2.1 (vgoodT (fun w hw => by
      rcases List.mem_cons.mp hw with rfl | h
      · exact hcode
      · exact h)) rfl rfl rfl (C.2.2.2.2.2.1.2.1 _ kl) (C.2.2.2.2.1 _ hini) hd0 hR1.1, hin, C.2.2.2.2.1 _ ki⟩ ⟨vPre.blind, v_pre (As := aR (some b) :: As) C hR hS⟩ rfl (by rw [List.length_map]; exact hn) hL.1 (by simp [vrv, va_rf]) (lv_room (vroomS hst)) hd hR1.2
theorem v_callS0 (hc : Ct (xl x) y cy mL ret rm G [] sh n M post) (k0 : vK0 y cy mL ret 0) (kl : Cond.methodLink own idx y ∈ vGT) (ks : Cond.static y ∈ vGT) (hR1 : vRm rm (xR x) mL cl sl) (hst : (st.map vcat).sum ≤ 8) (hd : decode cc pc = .ok (.invokestatic idx, 3)) (kk : ∀ (r : Option AV) (sh' : Nat → Option Shp) (n' : Nat) (M' : Mem), post r sh' n' M' → V x Q G cc own sh' n' (cl + rm.cells) (sl + rm.slots) (pc + 3) ls (r.toList ++ st) M') : V x Q G cc own sh n cl sl pc ls (st) M :=
  v_callS (As := []) hc k0 kl ks rfl hR1 hst hd kk
theorem v_callSN0 {host : String} (hc : Ct (xl x) y cy mL ret rm G [] sh n M post) (k0 : vK0 y cy mL ret 0) (kl : Cond.methodLinkNest own idx y host ∈ vNW) (ks : Cond.static y ∈ vGT) (hR1 : vRm rm (xR x) mL cl sl) (hst : (st.map vcat).sum ≤ 8) (hd : decode cc pc = .ok (.invokestatic idx, 3)) (kk : ∀ (r : Option AV) (sh' : Nat → Option Shp) (n' : Nat) (M' : Mem), post r sh' n' M' → V x Q G cc own sh' n' (cl + rm.cells) (sl + rm.slots) (pc + 3) ls (r.toList ++ st) M') : V x Q G cc own sh n cl sl pc ls (st) M :=
  v_callSN (As := []) hc k0 kl ks rfl hR1 hst hd kk
theorem v_callV0 {b : Nat} (ci : Nat) (hc : Ct (xl x) y cy mL ret rm G [aR (some b)] sh n M post) (k0 : vK0 y cy mL ret 0) (kl : Cond.methodLink own idx y ∈ vGT) (ki : Cond.instanceMethod y ∈ vGT) (ks : Cond.selects y.cls y y ∈ vGT) (hs : sh b = some (.inl ci)) (hcl : (vwCl[ci]?).map (fun r => r.1) = some y.cls) (hR1 : vRm rm (xR x) mL cl sl) (hst : (st.map vcat).sum ≤ 8) (hd : decode cc pc = .ok (.invokevirtual idx, 3)) (kk : ∀ (r : Option AV) (sh' : Nat → Option Shp) (n' : Nat) (M' : Mem), post r sh' n' M' → V x Q G cc own sh' n' (cl + rm.cells) (sl + rm.slots) (pc + 3) ls (r.toList ++ st) M') : V x Q G cc own sh n cl sl pc ls (aR (some b) :: st) M :=
  v_callV (As := []) hc k0 kl ki ks hs hcl rfl hR1 hst hd kk
theorem v_callS1 {a0 : AV} (hc : Ct (xl x) y cy mL ret rm G [a0] sh n M post) (k0 : vK0 y cy mL ret 1) (kl : Cond.methodLink own idx y ∈ vGT) (ks : Cond.static y ∈ vGT) (hR1 : vRm rm (xR x) mL cl sl) (hst : (st.map vcat).sum ≤ 8) (hd : decode cc pc = .ok (.invokestatic idx, 3)) (kk : ∀ (r : Option AV) (sh' : Nat → Option Shp) (n' : Nat) (M' : Mem), post r sh' n' M' → V x Q G cc own sh' n' (cl + rm.cells) (sl + rm.slots) (pc + 3) ls (r.toList ++ st) M') : V x Q G cc own sh n cl sl pc ls (a0 :: st) M :=
  v_callS (As := [a0]) hc k0 kl ks rfl hR1 hst hd kk
theorem v_callSN1 {a0 : AV} {host : String} (hc : Ct (xl x) y cy mL ret rm G [a0] sh n M post) (k0 : vK0 y cy mL ret 1) (kl : Cond.methodLinkNest own idx y host ∈ vNW) (ks : Cond.static y ∈ vGT) (hR1 : vRm rm (xR x) mL cl sl) (hst : (st.map vcat).sum ≤ 8) (hd : decode cc pc = .ok (.invokestatic idx, 3)) (kk : ∀ (r : Option AV) (sh' : Nat → Option Shp) (n' : Nat) (M' : Mem), post r sh' n' M' → V x Q G cc own sh' n' (cl + rm.cells) (sl + rm.slots) (pc + 3) ls (r.toList ++ st) M') : V x Q G cc own sh n cl sl pc ls (a0 :: st) M :=
  v_callSN (As := [a0]) hc k0 kl ks rfl hR1 hst hd kk
theorem v_callV1 {a0 : AV} {b : Nat} (ci : Nat) (hc : Ct (xl x) y cy mL ret rm G [aR (some b), a0] sh n M post) (k0 : vK0 y cy mL ret 1) (kl : Cond.methodLink own idx y ∈ vGT) (ki : Cond.instanceMethod y ∈ vGT) (ks : Cond.selects y.cls y y ∈ vGT) (hs : sh b = some (.inl ci)) (hcl : (vwCl[ci]?).map (fun r => r.1) = some y.cls) (hR1 : vRm rm (xR x) mL cl sl) (hst : (st.map vcat).sum ≤ 8) (hd : decode cc pc = .ok (.invokevirtual idx, 3)) (kk : ∀ (r : Option AV) (sh' : Nat → Option Shp) (n' : Nat) (M' : Mem), post r sh' n' M' → V x Q G cc own sh' n' (cl + rm.cells) (sl + rm.slots) (pc + 3) ls (r.toList ++ st) M') : V x Q G cc own sh n cl sl pc ls (a0 :: aR (some b) :: st) M :=
  v_callV (As := [a0]) hc k0 kl ki ks hs hcl rfl hR1 hst hd kk
theorem v_callS2 {a0 a1 : AV} (hc : Ct (xl x) y cy mL ret rm G [a0, a1] sh n M post) (k0 : vK0 y cy mL ret 2) (kl : Cond.methodLink own idx y ∈ vGT) (ks : Cond.static y ∈ vGT) (hR1 : vRm rm (xR x) mL cl sl) (hst : (st.map vcat).sum ≤ 8) (hd : decode cc pc = .ok (.invokestatic idx, 3)) (kk : ∀ (r : Option AV) (sh' : Nat → Option Shp) (n' : Nat) (M' : Mem), post r sh' n' M' → V x Q G cc own sh' n' (cl + rm.cells) (sl + rm.slots) (pc + 3) ls (r.toList ++ st) M') : V x Q G cc own sh n cl sl pc ls (a1 :: a0 :: st) M :=
  v_callS (As := [a0, a1]) hc k0 kl ks rfl hR1 hst hd kk
theorem v_callSN2 {a0 a1 : AV} {host : String} (hc : Ct (xl x) y cy mL ret rm G [a0, a1] sh n M post) (k0 : vK0 y cy mL ret 2) (kl : Cond.methodLinkNest own idx y host ∈ vNW) (ks : Cond.static y ∈ vGT) (hR1 : vRm rm (xR x) mL cl sl) (hst : (st.map vcat).sum ≤ 8) (hd : decode cc pc = .ok (.invokestatic idx, 3)) (kk : ∀ (r : Option AV) (sh' : Nat → Option Shp) (n' : Nat) (M' : Mem), post r sh' n' M' → V x Q G cc own sh' n' (cl + rm.cells) (sl + rm.slots) (pc + 3) ls (r.toList ++ st) M') : V x Q G cc own sh n cl sl pc ls (a1 :: a0 :: st) M :=
  v_callSN (As := [a0, a1]) hc k0 kl ks rfl hR1 hst hd kk
theorem v_callV2 {a0 a1 : AV} {b : Nat} (ci : Nat) (hc : Ct (xl x) y cy mL ret rm G [aR (some b), a0, a1] sh n M post) (k0 : vK0 y cy mL ret 2) (kl : Cond.methodLink own idx y ∈ vGT) (ki : Cond.instanceMethod y ∈ vGT) (ks : Cond.selects y.cls y y ∈ vGT) (hs : sh b = some (.inl ci)) (hcl : (vwCl[ci]?).map (fun r => r.1) = some y.cls) (hR1 : vRm rm (xR x) mL cl sl) (hst : (st.map vcat).sum ≤ 8) (hd : decode cc pc = .ok (.invokevirtual idx, 3)) (kk : ∀ (r : Option AV) (sh' : Nat → Option Shp) (n' : Nat) (M' : Mem), post r sh' n' M' → V x Q G cc own sh' n' (cl + rm.cells) (sl + rm.slots) (pc + 3) ls (r.toList ++ st) M') : V x Q G cc own sh n cl sl pc ls (a1 :: a0 :: aR (some b) :: st) M :=
  v_callV (As := [a0, a1]) hc k0 kl ki ks hs hcl rfl hR1 hst hd kk
theorem v_callS3 {a0 a1 a2 : AV} (hc : Ct (xl x) y cy mL ret rm G [a0, a1, a2] sh n M post) (k0 : vK0 y cy mL ret 3) (kl : Cond.methodLink own idx y ∈ vGT) (ks : Cond.static y ∈ vGT) (hR1 : vRm rm (xR x) mL cl sl) (hst : (st.map vcat).sum ≤ 8) (hd : decode cc pc = .ok (.invokestatic idx, 3)) (kk : ∀ (r : Option AV) (sh' : Nat → Option Shp) (n' : Nat) (M' : Mem), post r sh' n' M' → V x Q G cc own sh' n' (cl + rm.cells) (sl + rm.slots) (pc + 3) ls (r.toList ++ st) M') : V x Q G cc own sh n cl sl pc ls (a2 :: a1 :: a0 :: st) M :=
  v_callS (As := [a0, a1, a2]) hc k0 kl ks rfl hR1 hst hd kk
theorem v_callSN3 {a0 a1 a2 : AV} {host : String} (hc : Ct (xl x) y cy mL ret rm G [a0, a1, a2] sh n M post) (k0 : vK0 y cy mL ret 3) (kl : Cond.methodLinkNest own idx y host ∈ vNW) (ks : Cond.static y ∈ vGT) (hR1 : vRm rm (xR x) mL cl sl) (hst : (st.map vcat).sum ≤ 8) (hd : decode cc pc = .ok (.invokestatic idx, 3)) (kk : ∀ (r : Option AV) (sh' : Nat → Option Shp) (n' : Nat) (M' : Mem), post r sh' n' M' → V x Q G cc own sh' n' (cl + rm.cells) (sl + rm.slots) (pc + 3) ls (r.toList ++ st) M') : V x Q G cc own sh n cl sl pc ls (a2 :: a1 :: a0 :: st) M :=
  v_callSN (As := [a0, a1, a2]) hc k0 kl ks rfl hR1 hst hd kk
theorem v_callV3 {a0 a1 a2 : AV} {b : Nat} (ci : Nat) (hc : Ct (xl x) y cy mL ret rm G [aR (some b), a0, a1, a2] sh n M post) (k0 : vK0 y cy mL ret 3) (kl : Cond.methodLink own idx y ∈ vGT) (ki : Cond.instanceMethod y ∈ vGT) (ks : Cond.selects y.cls y y ∈ vGT) (hs : sh b = some (.inl ci)) (hcl : (vwCl[ci]?).map (fun r => r.1) = some y.cls) (hR1 : vRm rm (xR x) mL cl sl) (hst : (st.map vcat).sum ≤ 8) (hd : decode cc pc = .ok (.invokevirtual idx, 3)) (kk : ∀ (r : Option AV) (sh' : Nat → Option Shp) (n' : Nat) (M' : Mem), post r sh' n' M' → V x Q G cc own sh' n' (cl + rm.cells) (sl + rm.slots) (pc + 3) ls (r.toList ++ st) M') : V x Q G cc own sh n cl sl pc ls (a2 :: a1 :: a0 :: aR (some b) :: st) M :=
  v_callV (As := [a0, a1, a2]) hc k0 kl ki ks hs hcl rfl hR1 hst hd kk
theorem v_callS4 {a0 a1 a2 a3 : AV} (hc : Ct (xl x) y cy mL ret rm G [a0, a1, a2, a3] sh n M post) (k0 : vK0 y cy mL ret 4) (kl : Cond.methodLink own idx y ∈ vGT) (ks : Cond.static y ∈ vGT) (hR1 : vRm rm (xR x) mL cl sl) (hst : (st.map vcat).sum ≤ 8) (hd : decode cc pc = .ok (.invokestatic idx, 3)) (kk : ∀ (r : Option AV) (sh' : Nat → Option Shp) (n' : Nat) (M' : Mem), post r sh' n' M' → V x Q G cc own sh' n' (cl + rm.cells) (sl + rm.slots) (pc + 3) ls (r.toList ++ st) M') : V x Q G cc own sh n cl sl pc ls (a3 :: a2 :: a1 :: a0 :: st) M :=
  v_callS (As := [a0, a1, a2, a3]) hc k0 kl ks rfl hR1 hst hd kk
theorem v_callSN4 {a0 a1 a2 a3 : AV} {host : String} (hc : Ct (xl x) y cy mL ret rm G [a0, a1, a2, a3] sh n M post) (k0 : vK0 y cy mL ret 4) (kl : Cond.methodLinkNest own idx y host ∈ vNW) (ks : Cond.static y ∈ vGT) (hR1 : vRm rm (xR x) mL cl sl) (hst : (st.map vcat).sum ≤ 8) (hd : decode cc pc = .ok (.invokestatic idx, 3)) (kk : ∀ (r : Option AV) (sh' : Nat → Option Shp) (n' : Nat) (M' : Mem), post r sh' n' M' → V x Q G cc own sh' n' (cl + rm.cells) (sl + rm.slots) (pc + 3) ls (r.toList ++ st) M') : V x Q G cc own sh n cl sl pc ls (a3 :: a2 :: a1 :: a0 :: st) M :=
  v_callSN (As := [a0, a1, a2, a3]) hc k0 kl ks rfl hR1 hst hd kk
theorem v_callV4 {a0 a1 a2 a3 : AV} {b : Nat} (ci : Nat) (hc : Ct (xl x) y cy mL ret rm G [aR (some b), a0, a1, a2, a3] sh n M post) (k0 : vK0 y cy mL ret 4) (kl : Cond.methodLink own idx y ∈ vGT) (ki : Cond.instanceMethod y ∈ vGT) (ks : Cond.selects y.cls y y ∈ vGT) (hs : sh b = some (.inl ci)) (hcl : (vwCl[ci]?).map (fun r => r.1) = some y.cls) (hR1 : vRm rm (xR x) mL cl sl) (hst : (st.map vcat).sum ≤ 8) (hd : decode cc pc = .ok (.invokevirtual idx, 3)) (kk : ∀ (r : Option AV) (sh' : Nat → Option Shp) (n' : Nat) (M' : Mem), post r sh' n' M' → V x Q G cc own sh' n' (cl + rm.cells) (sl + rm.slots) (pc + 3) ls (r.toList ++ st) M') : V x Q G cc own sh n cl sl pc ls (a3 :: a2 :: a1 :: a0 :: aR (some b) :: st) M :=
  v_callV (As := [a0, a1, a2, a3]) hc k0 kl ki ks hs hcl rfl hR1 hst hd kk
end VK
end
section
/-! ===== making cells, static arrays, arraycopy ===== -/
def vz (M : Mem) (i : Nat) : Mem := (fun a b => if a = i then 0 else M.1 a b, fun a b => if a = i then none else M.2 a b)
def vsh (sh : Nat → Option Shp) (i : Nat) (s : Shp) : Nat → Option Shp := fun j => if j = i then some s else sh j
theorem vdef0 : ∀ k, k < 20 → defaultValue (vtyF 0 k) = if vrefF 0 k = true then .null else .int (Int32.ofInt 0) := by decide +kernel
theorem vdef1 : ∀ k, k < 7 → defaultValue (vtyF 1 k) = if vrefF 1 k = true then .null else .int (Int32.ofInt 0) := by decide +kernel
theorem vdef2 : ∀ k, k < 6 → defaultValue (vtyF 2 k) = if vrefF 2 k = true then .null else .int (Int32.ofInt 0) := by decide +kernel
theorem vdef3 : ∀ k, k < 9 → defaultValue (vtyF 3 k) = if vrefF 3 k = true then .null else .int (Int32.ofInt 0) := by decide +kernel
theorem vdef4 : ∀ k, k < 22 → defaultValue (vtyF 4 k) = if vrefF 4 k = true then .null else .int (Int32.ofInt 0) := by decide +kernel
theorem vdefs {ci : Nat} {r : vw_C} (h : vwCl[ci]? = some r) : ∀ k, k < r.2.2 → defaultValue (vtyF ci k) = if vrefF ci k = true then .null else .int (Int32.ofInt 0) := by
  match ci, h with
  | 0, h => cases h; exact vdef0
  | 1, h => cases h; exact vdef1
  | 2, h => cases h; exact vdef2
  | 3, h => cases h; exact vdef3
  | 4, h => cases h; exact vdef4
  | n + 5, h => simp at h
theorem vRel.push {G : vGG} {U : State} {sh : Nat → Option Shp} {n : Nat} {M : Mem} {H H' : Heap} {s : Shp} (h : vRel G U sh n M H) (hn : n < 1000) (hz : H'.size = H.size + 1) (oq : ∀ q, q < H.size → H'[q]? = H[q]?) (hc : vCell G U (vz M n) H' n s) : vRel G U (vsh sh n s) (n + 1) (vz M n) H' := by
  obtain ⟨a1, a2, a3, a4, a5⟩ := h
  refine ⟨by omega, by omega, fun i hi h => ?_, fun i h1 h2 => ?_, fun i x hx => ?_⟩
  · refine a3 i hi ?_
    simp only [vsh] at h
    rwa [if_neg (by omega)] at h
  · simp only [vsh]
    rw [if_neg (by omega)]
    exact a4 i (by omega) h2
  · simp only [vsh] at hx
    by_cases hi : i = n
    · subst hi
      rw [if_pos rfl] at hx
      cases hx
      exact hc
    · rw [if_neg hi] at hx
      have hlt : vad G i < H.size := by
        by_cases h2 : i < 1000
        · rw [vad_lo h2]
          by_cases h3 : n ≤ i
          · rw [a4 i h3 h2] at hx
            cases hx
          · omega
        · have := a3 i (by omega) (by rw [hx]; simp)
          omega
      exact (a5 i x hx).keep (oq _ hlt) (fun k => if_neg hi) (fun k => if_neg hi)
section VA
variable {x : vXX} {Q : State → Prop} {G : vGG} {cc : ByteArray} {own : String} {sh : Nat → Option Shp} {n cl sl pc : Nat} {ls : List (Option AV)} {st : List AV} {M : Mem}
theorem vS_push {s : State} {H H' : Heap} {locs : List Loc} (hS : va_S (vnew G) s.heap H locs) (hz : H'.size = H.size + 1) (oq : ∀ q, q < H.size → H'[q]? = H[q]?) : va_S (vnew G) s.heap H' locs :=
  ⟨Nat.le_trans hS.1 (by omega), fun q h1 h2 => (oq q (Nat.lt_of_lt_of_le h1 hS.1)).trans (hS.2.1 q h1 h2), hS.2.2⟩
theorem v_new {idx ci : Nat} {r : vw_C} (hr : vwCl[ci]? = some r) (h1 : Cond.classLink own idx r.1 ∈ vGT) (h2 : Cond.instantiable r.1 r.2.2 ∈ vGT) (h3 : Cond.initialized r.1 ∈ vGT) (hn : n < 1000) (hcl : cl + 1 ≤ (xR x).cells) (hsl : sl + r.2.2 ≤ (xR x).slots) (hd : decode cc pc = .ok (.new idx, 3))
    (kk : V x Q G cc own (vsh sh n (.inl ci)) (n + 1) (cl + 1) (sl + r.2.2) (pc + 3) ls (aR (some n) :: st) (vz M n)) : V x Q G cc own sh n cl sl pc ls st M := fun C H locs la hR hS hL => by
  have hts := C.2.2.2.2.1
  obtain ⟨hcw, hty, -⟩ := vcls hr
  have hKn := C.2.2.2.2.2.1.1.1 ci r hr
  refine W.newcK C.1 C.2.1 C.2.2.2.1 (hts _ h1) (hts _ h2) (hts _ h3) rfl hd hcl hsl hKn.2.1 (h := vad G n) (by rw [vad_lo hn]; exact hR.1) fun H' kC hkC e1 z1 o1 => ?_
  have hsz : vad G n = H.size := by rw [vad_lo hn]; exact hR.1.symm
  rw [hsz] at z1 o1
  refine kk C H' locs la (hR.push hn z1 o1 ⟨hn, r, hr, (u_born (vtyF ci) hts hcw hKn hkC e1 hty).to (fun k hk => ?_)⟩) (vS_push hS z1 o1) hL
  rw [vdefs hr k hk]
  by_cases h : vrefF ci k = true
  · simp [vfv, h, vz, va_rf]
  · simp [vfv, h, vz]
theorem v_newarr {at_ : ArrayType} {kd len : Nat} {z : Int} (hkd : newarray.typeOf at_ = vkt kd) (hk2 : kd < 2) (h1 : Cond.arrayClass (newarray.typeOf at_) ∈ vGT) (hz : z = (len : Int)) (hlen : len ≤ 10000) (hn : n < 1000) (hcl : cl + 1 ≤ (xR x).cells) (hsl : sl + len ≤ (xR x).slots) (hd : decode cc pc = .ok (.newarray at_, 2))
    (kk : V x Q G cc own (vsh sh n (.inr (kd, len))) (n + 1) (cl + 1) (sl + len) (pc + 2) ls (aR (some n) :: st) (vz M n)) : V x Q G cc own sh n cl sl pc ls (aI z :: st) M := fun C H locs la hR hS hL => by
  subst hz
  have hts := C.2.2.2.2.1
  have hcb : componentBytes (newarray.typeOf at_) ≤ 4 := by
    rw [hkd]
    match kd, hk2 with
    | 0, _ => decide
    | 1, _ => decide
  have e0 := (Int32.toNatClampNeg_ofInt_of_le (n := (len : Int)) (by omega) (by omega)).trans (Int.toNat_natCast len)
  have hsz : vad G n = H.size := by rw [vad_lo hn]; exact hR.1.symm
  refine va_newaK C.1 C.2.1 (hts _ h1) rfl hd (n := Int32.ofInt (len : Int)) (N := len) (rest := st.map (vrv G)) rfl (by rw [i32_0, i32_lt (by omega) i32_r0]; omega) e0 (by have := Nat.mul_le_mul hlen hcb; omega) hcl hsl (h := vad G n) hsz.symm fun H' cA e1 z1 o1 hAr hNm => ?_
  rw [hsz] at z1 o1
  have hcA : cA = G.2.1 kd := by
    rw [hkd] at hNm
    match kd, hk2 with
    | 0, _ =>
      have h3 := (C.2.2.2.2.2.1.1.2 0 _ rfl).2
      exact Option.some.inj (hNm.symm.trans h3)
    | 1, _ =>
      have h3 := (C.2.2.2.2.2.1.1.2 1 _ rfl).2
      exact Option.some.inj (hNm.symm.trans h3)
  refine kk C H' locs la (hR.push hn z1 o1 ⟨fun _ => ?_, fun h => by omega⟩) (vS_push hS z1 o1) hL
  rw [e1, hcA, hkd]
  congr 2
  funext j
  match kd, hk2 with
  | 0, _ => simp [vav, vz, vkt, defaultValue]
  | 1, _ => simp [vav, vz, vkt, defaultValue]
theorem v_anewarr {idx len : Nat} {z : Int} (h1 : Cond.classLink own idx RX0 ∈ vGT) (hz : z = (len : Int)) (hlen : len ≤ 10000) (hn : n < 1000) (hcl : cl + 1 ≤ (xR x).cells) (hsl : sl + len ≤ (xR x).slots) (hd : decode cc pc = .ok (.anewarray idx, 3))
    (kk : V x Q G cc own (vsh sh n (.inr (2, len))) (n + 1) (cl + 1) (sl + len) (pc + 3) ls (aR (some n) :: st) (vz M n)) : V x Q G cc own sh n cl sl pc ls (aI z :: st) M := fun C H locs la hR hS hL => by
  subst hz
  have hts := C.2.2.2.2.1
  have e0 := (Int32.toNatClampNeg_ofInt_of_le (n := (len : Int)) (by omega) (by omega)).trans (Int.toNat_natCast len)
  have hsz : vad G n = H.size := by rw [vad_lo hn]; exact hR.1.symm
  refine W.anew C.1 C.2.1 C.2.2.2.1 (hts _ h1) (va_AO.use C.2.2.2.2.2.1.2.2) rfl hd (n := Int32.ofInt (len : Int)) (rest := st.map (vrv G)) rfl (by rw [i32_0, i32_lt (by omega) i32_r0]; omega) (by rw [e0]; omega) hcl (by rw [e0]; exact hsl) fun cA kA comp f1 f2 f3 f4 => ?_
  rw [e0]
  generalize hH1 : H.push ({ cls := cA, slots := Array.replicate len .null, vm := .none } : Cell) = H1
  have z1 : H1.size = H.size + 1 := by rw [← hH1, Array.size_push]
  have e1 : H1[H.size]? = some (arrV cA len (fun _ => .null)) := by rw [← hH1, Array.getElem?_push_size, ← arrV_new]
  have o1 : ∀ q : Nat, q < H.size → H1[q]? = H[q]? := fun q hq => by rw [← hH1, Array.getElem?_push, if_neg (Nat.ne_of_lt hq)]
  have hcA : cA = G.2.1 2 := by
    obtain ⟨kA', comp', -, -, -, h3⟩ := (C.2.2.2.2.2.1.1.2 2 _ rfl).2
    exact Option.some.inj (f1.symm.trans h3)
  have K := kk C H1 locs la (hR.push hn z1 o1 ⟨fun _ => ?_, fun h => by omega⟩) (vS_push hS z1 o1) hL
  · rw [List.map_cons, show vrv G (aR (some n)) = .ref H.size from by simp [vrv, va_rf, hsz]] at K
    exact K
  · rw [hsz, e1, hcA]
    congr 2
    funext j
    simp [vav, vz, va_rf]
theorem v_gets {idx : Nat} {nm : String} {i : Nat} (hl : Cond.fieldLink own idx "OrganWind" nm "[I" ∈ vGT) (hz : ∀ U H, vSZ G U H → va_Z "OrganWind" nm "[I" (.ref (vad G i)) (vnew G) U H) (hd : decode cc pc = .ok (.getstatic idx, 3))
    (kk : V x Q G cc own sh n cl sl (pc + 3) ls (aR (some i) :: st) M) : V x Q G cc own sh n cl sl pc ls st M := fun C H locs la hR hS hL =>
  va_gets C.1 C.2.1 (hz _ _ C.2.2.2.2.2.2.1) hS C.2.2.2.1 (C.2.2.2.2.1 _ hl) (fun _ h => h) hd (kk C H locs la hR hS hL)
theorem v_getsN {idx : Nat} {nm host : String} {i : Nat} (hl : Cond.fieldLinkNest own idx "OrganWind" nm "[I" host ∈ vNW) (hz : ∀ U H, vSZ G U H → va_Z "OrganWind" nm "[I" (.ref (vad G i)) (vnew G) U H) (hd : decode cc pc = .ok (.getstatic idx, 3))
    (kk : V x Q G cc own sh n cl sl (pc + 3) ls (aR (some i) :: st) M) : V x Q G cc own sh n cl sl pc ls st M := fun C H locs la hR hS hL =>
  va_getsN C.1 C.2.1 (hz _ _ C.2.2.2.2.2.2.1) hS C.2.2.2.1 (va_Nw.use rfl (C.2.2.2.2.2.1.2.1 _ hl)) (fun _ h => h) hd (kk C H locs la hR hS hL)
theorem v_objInit {idx i : Nat} (hl : Cond.methodLink own idx objectInit ∈ vGT) (hi : Cond.instanceMethod objectInit ∈ vGT) (hc : Cond.code objectInit ⟨#[0xb1]⟩ 1 none ∈ vGT) (hst : st = []) (hf : 1 ≤ (xR x).frames) (hlo : 12 ≤ (xR x).locals) (hd : decode cc pc = .ok (.invokespecial idx, 3))
    (kk : V x Q G cc own sh n cl sl (pc + 3) ls st M) : V x Q G cc own sh n cl sl pc ls (aR (some i) :: st) M := fun C H locs la hR hS hL => by
  have hts := C.2.2.2.2.1
  subst hst
  exact W.objInit C.1 C.2.1 C.2.2.2.1 (hts _ hl) (hts _ hi) (hts _ hc) rfl (by rw [C.2.2.1]; exact hL.1) rfl hd hf (by show 2 * 0 + 0 + 12 ≤ _; omega) (kk C H locs la hR hS hL)
def vcp (M : Mem) (a0 sp a1 dp k : Nat) : Mem := (fun a b => if a = a1 ∧ dp ≤ b ∧ b < dp + k then M.1 a0 (sp + (b - dp)) else M.1 a b, M.2)
theorem v_acopy {idx a0 a1 n0 n1 : Nat} {zs zd zn : Int} (sp dp k : Nat) (h1 : Cond.methodLink own idx arraycopyName ∈ vGT) (h2 : Cond.native arraycopyName ∈ vGT) (h3 : Cond.static arraycopyName ∈ vGT) (h4 : Cond.initialized "java/lang/System" ∈ vGT)
    (hs0 : sh a0 = some (.inr (0, n0))) (hs1 : sh a1 = some (.inr (0, n1))) (ha1 : a1 < 1000) (hzs : zs = (sp : Int)) (hzd : zd = (dp : Int)) (hzn : zn = (k : Int)) (b0 : sp + k ≤ n0) (b1 : dp + k ≤ n1) (bb : n0 ≤ 100000 ∧ n1 ≤ 100000) (hst : st = []) (hf : 1 ≤ (xR x).frames) (hlo : 18 ≤ (xR x).locals) (hd : decode cc pc = .ok (.invokestatic idx, 3))
    (kk : V x Q G cc own sh n cl sl (pc + 3) ls st (vcp M a0 sp a1 dp k)) : V x Q G cc own sh n cl sl pc ls (aI zn :: aI zd :: aR (some a1) :: aI zs :: aR (some a0) :: st) M := fun C H locs la hR hS hL => by
  subst hst hzs hzd hzn
  have hts := C.2.2.2.2.1
  have es : ∀ z : Nat, z ≤ 100000 → (Int32.ofInt (z : Int)).toNatClampNeg = z ∧ (Int32.ofInt (z : Int)).toInt = (z : Int) ∧ ¬ Int32.ofInt (z : Int) < 0 := fun z hz =>
    ⟨(Int32.toNatClampNeg_ofInt_of_le (n := (z : Int)) (by omega) (by omega)).trans (Int.toNat_natCast z), Int32.toInt_ofInt_of_le (by omega) (by omega), by rw [i32_0, i32_lt (by omega) i32_r0]; omega⟩
  obtain ⟨s1, s2, s3⟩ := es sp (by omega)
  obtain ⟨d1, d2, d3⟩ := es dp (by omega)
  obtain ⟨k1, k2, k3⟩ := es k (by omega)
  obtain ⟨cs, c1, c2, c3, c4, c5⟩ := vArr hR C.2.2.2.2.2.1 (by omega) hs0
  have e1 := (hR.2.2.2.2 a1 _ hs1).1 ha1
  obtain ⟨hso, kS, hkS, cmS, hkkS⟩ := c2
  obtain ⟨-, kD, hkD, cmD, hkkD⟩ := (C.2.2.2.2.2.1.1.2 0 _ rfl).1 n1 (vav G 0 M a1)
  have hA : vnew G (vad G a1) := by show G.2.2.1 ≤ vad G a1; rw [vad_lo ha1]; omega
  intro T hT X
  obtain ⟨vm', X', step⟩ := X.arraycopy C.1 C.2.2.2.1 (hts _ h1) (hts _ h2) (hts _ h3) (hts _ h4) (src := vad G a0) (dst := vad G a1) (cs := cs) (cd := arrV (G.2.1 0) n1 (vav G 0 M a1)) (srcPos := Int32.ofInt (sp : Int)) (destPos := Int32.ofInt (dp : Int)) (n := Int32.ofInt (k : Int)) (by rw [hT]; exact c1) (by rw [hT]; exact e1)
    hso (fun _ h => by cases h) c3 (fun h => by cases h) hkS hkD hkkS hkkD (show ((refKind FieldType.int != refKind FieldType.int) || (!refKind FieldType.int && FieldType.int != FieldType.int)) = false by decide) s3 d3 k3
    (by rw [s2, k2, c4]; omega)
    (by rw [d2, k2, arrV_size]; omega)
    (fun vm₁ _ i hi => by
      rw [k1] at hi
      rw [s1, Array.getD_eq_getD_getElem?, c5 _ (by omega)]
      exact ⟨rfl, trivial⟩)
    (g := F0 (xm x) pc la (([aI (k : Int), aI (dp : Int), aR (some a1), aI (sp : Int), aR (some a0)] : List AV).map (vrv G))) rfl (by rw [C.2.2.1]; exact hL.1) (rest := []) rfl (by rw [C.2.1]; exact hd) hf (by show 2 * 0 + 0 + (7 + 11) ≤ _; omega)
  have e2 : copied cs (arrV (G.2.1 0) n1 (vav G 0 M a1)) (Int32.ofInt (sp : Int)) (Int32.ofInt (dp : Int)) (Int32.ofInt (k : Int)) = arrV (G.2.1 0) n1 (vav G 0 (vcp M a0 sp a1 dp k) a1) := by
    have f1 : cs.stretch sp k = (arrV (G.2.1 0) n0 (fun j => Value.int (Int32.ofInt (M.1 a0 j)))).stretch sp k := by
      unfold Cell.stretch
      apply List.map_congr_left
      intro i hi
      have hi' := List.mem_range.mp hi
      rw [Array.getD_eq_getD_getElem?, Array.getD_eq_getD_getElem?, c5 _ (by omega), arrV_read _ _ (by omega)]
      simp [vav]
    show (arrV (G.2.1 0) n1 (vav G 0 M a1)).storeRun (Int32.ofInt (dp : Int)).toNatClampNeg (cs.stretch (Int32.ofInt (sp : Int)).toNatClampNeg (Int32.ofInt (k : Int)).toNatClampNeg) = _
    rw [d1, s1, k1, f1, show vav G 0 M a1 = (fun j => (fun z => Value.int (Int32.ofInt z)) (M.1 a1 j)) from by funext j; simp [vav], va_copied (fun z => Value.int (Int32.ofInt z)) (G.2.1 0) (G.2.1 0) (fun j => M.1 a0 j) (fun j => M.1 a1 j) b0]
    congr 1
    funext j
    simp only [vav, vcp, va_cpy]
    simp
  rw [e2] at X' step
  have hl : vad G a1 < H.size := (Array.getElem?_eq_some_iff.mp e1).1
  generalize hCd : arrV (G.2.1 0) n1 (vav G 0 (vcp M a0 sp a1 dp k) a1) = cd at X' step
  have hheap : ((T.setVm vm').setCell (vad G a1) cd).heap = H.setIfInBounds (vad G a1) cd := by rw [← hT]; rfl
  have oq : ∀ q : Nat, q ≠ vad G a1 → (H.setIfInBounds (vad G a1) cd)[q]? = H[q]? := fun q hq => by simp [Array.getElem?_setIfInBounds, Ne.symm hq]
  have hz : (H.setIfInBounds (vad G a1) cd).size = H.size := by simp
  obtain ⟨t, g1, g2⟩ := kk C _ _ la (hR.put ha1 hz oq (fun j hj b => if_neg (fun q => hj q.1)) (fun _ _ _ => rfl) (fun y hy => by
      rw [hs1] at hy
      cases hy
      exact ⟨fun _ => by
        show (H.setIfInBounds (vad G a1) cd)[vad G a1]? = _
        rw [← hCd]
        simp [Array.getElem?_setIfInBounds, hl], fun h => by omega⟩)) ⟨by rw [hz]; exact hS.1, fun q g1 g2 => by
      rw [oq q (fun e => g2 (by rw [e]; exact hA))]
      exact hS.2.1 q g1 g2, fun q hq => by
      rcases List.mem_append.mp hq with h | h
      · exact hS.2.2 q h
      · obtain ⟨z, -, hz⟩ := List.mem_map.mp h
        rw [← hz]
        exact hA⟩ hL _ hheap X'
  exact ⟨t, step t g1, g2⟩
end VA
end
section
/-! ===== the final shape: which id is what; contracts of methods that make nothing ===== -/
def stSh : Nat → Option Shp
  | 0 => some (.inl 0)
  | 6 => some (.inr (0, 192))
  | 7 => some (.inr (0, 9))
  | 8 => some (.inr (0, 2))
  | 9 => some (.inr (0, 2))
  | _ => some (.inr (0, 8))
def wiSh : Nat → Option Shp
  | 0 => some (.inl 2)
  | 2 => some (.inr (0, 2))
  | 3 => some (.inr (0, 2))
  | 5 => some (.inr (0, 192))
  | _ => some (.inr (0, 8))
def moSh : Nat → Option Shp
  | 0 => some (.inl 4)
  | 1 => some (.inr (0, 264))
  | 2 => some (.inr (0, 264))
  | 3 => some (.inr (0, 1320))
  | 4 => some (.inr (0, 528))
  | 5 => some (.inr (1, 2))
  | 6 => some (.inr (0, 80))
  | 7 => some (.inr (0, 9))
  | 8 => some (.inr (0, 9))
  | 9 => some (.inr (0, 9))
  | 10 => some (.inr (0, 2))
  | 11 => some (.inr (0, 8))
  | 12 => some (.inr (0, 2))
  | 13 => some (.inr (0, 2))
  | 14 => some (.inr (0, 192))
  | 15 => some (.inr (0, 192))
  | 16 => some (.inr (1, 192))
  | _ => none
def SH (i : Nat) : Option Shp :=
  if i = 0 then some (.inl 3) else if i < 21 then stSh ((i - 1) % 10) else if i = 21 then some (.inr (2, 5)) else if i = 22 then some (.inr (2, 2)) else if i = 23 then some (.inr (1, 2)) else if i = 24 then some (.inl 1) else if i = 25 then some (.inr (0, 80)) else if i < 33 then wiSh (i - 26) else if i < 40 then wiSh (i - 33) else if i < 110 then stSh ((i - 40) % 10) else if i < 1000 then moSh (i - 110) else if i < 1003 then some (.inr (0, 9)) else none
def stB (b : Nat) : Prop := b = 1 ∨ b = 11 ∨ b = 40 ∨ b = 50 ∨ b = 60 ∨ b = 70 ∨ b = 80 ∨ b = 90 ∨ b = 100
def wiB (w : Nat) : Prop := w = 26 ∨ w = 33
theorem stB_1 : stB 1 := by unfold stB; omega
theorem stB_11 : stB 11 := by unfold stB; omega
theorem stB_40 : stB 40 := by unfold stB; omega
theorem stB_50 : stB 50 := by unfold stB; omega
theorem stB_60 : stB 60 := by unfold stB; omega
theorem stB_70 : stB 70 := by unfold stB; omega
theorem stB_80 : stB 80 := by unfold stB; omega
theorem stB_90 : stB 90 := by unfold stB; omega
theorem stB_100 : stB 100 := by unfold stB; omega
theorem wiB_26 : wiB 26 := by unfold wiB; omega
theorem wiB_33 : wiB 33 := by unfold wiB; omega
theorem st_o {b : Nat} (h : stB b) : SH b = some (.inl 0) := by
  rcases h with rfl | rfl | rfl | rfl | rfl | rfl | rfl | rfl | rfl <;> rfl
theorem st_a0 {b : Nat} (h : stB b) : SH (b + 1 + 0) = some (.inr (0, 8)) := by
  rcases h with rfl | rfl | rfl | rfl | rfl | rfl | rfl | rfl | rfl <;> rfl
theorem st_a1 {b : Nat} (h : stB b) : SH (b + 1 + 1) = some (.inr (0, 8)) := by
  rcases h with rfl | rfl | rfl | rfl | rfl | rfl | rfl | rfl | rfl <;> rfl
theorem st_a2 {b : Nat} (h : stB b) : SH (b + 1 + 2) = some (.inr (0, 8)) := by
  rcases h with rfl | rfl | rfl | rfl | rfl | rfl | rfl | rfl | rfl <;> rfl
theorem st_a3 {b : Nat} (h : stB b) : SH (b + 1 + 3) = some (.inr (0, 8)) := by
  rcases h with rfl | rfl | rfl | rfl | rfl | rfl | rfl | rfl | rfl <;> rfl
theorem st_a4 {b : Nat} (h : stB b) : SH (b + 1 + 4) = some (.inr (0, 8)) := by
  rcases h with rfl | rfl | rfl | rfl | rfl | rfl | rfl | rfl | rfl <;> rfl
theorem st_a5 {b : Nat} (h : stB b) : SH (b + 1 + 5) = some (.inr (0, 192)) := by
  rcases h with rfl | rfl | rfl | rfl | rfl | rfl | rfl | rfl | rfl <;> rfl
theorem st_a6 {b : Nat} (h : stB b) : SH (b + 1 + 6) = some (.inr (0, 9)) := by
  rcases h with rfl | rfl | rfl | rfl | rfl | rfl | rfl | rfl | rfl <;> rfl
theorem st_a7 {b : Nat} (h : stB b) : SH (b + 1 + 7) = some (.inr (0, 2)) := by
  rcases h with rfl | rfl | rfl | rfl | rfl | rfl | rfl | rfl | rfl <;> rfl
theorem st_a8 {b : Nat} (h : stB b) : SH (b + 1 + 8) = some (.inr (0, 2)) := by
  rcases h with rfl | rfl | rfl | rfl | rfl | rfl | rfl | rfl | rfl <;> rfl
theorem wi_o {w : Nat} (h : wiB w) : SH w = some (.inl 2) := by
  rcases h with rfl | rfl <;> rfl
theorem wi_a0 {w : Nat} (h : wiB w) : SH (w + 1 + 0) = some (.inr (0, 8)) := by
  rcases h with rfl | rfl <;> rfl
theorem wi_a1 {w : Nat} (h : wiB w) : SH (w + 1 + 1) = some (.inr (0, 2)) := by
  rcases h with rfl | rfl <;> rfl
theorem wi_a2 {w : Nat} (h : wiB w) : SH (w + 1 + 2) = some (.inr (0, 2)) := by
  rcases h with rfl | rfl <;> rfl
theorem wi_a3 {w : Nat} (h : wiB w) : SH (w + 1 + 3) = some (.inr (0, 8)) := by
  rcases h with rfl | rfl <;> rfl
theorem wi_a4 {w : Nat} (h : wiB w) : SH (w + 1 + 4) = some (.inr (0, 192)) := by
  rcases h with rfl | rfl <;> rfl
theorem wi_a5 {w : Nat} (h : wiB w) : SH (w + 1 + 5) = some (.inr (0, 8)) := by
  rcases h with rfl | rfl <;> rfl
theorem stB_lt {b : Nat} (h : stB b) : b + 10 ≤ 110 ∧ 1 ≤ b := by unfold stB at h; omega
theorem wiB_lt {w : Nat} (h : wiB w) : w + 7 ≤ 40 ∧ 26 ≤ w := by unfold wiB at h; omega
/-- the references: which cell each field of the class and of the twin holds -/
def LayX (r : Nat → Nat → Option Nat) : Prop :=
  (∀ b, stB b → ∀ k, k < 9 → r b k = some (b + 1 + k)) ∧ (∀ w, wiB w → ∀ k, k < 6 → r w k = some (w + 1 + k)) ∧ r 24 0 = some 25 ∧
  (r 0 0 = some 1 ∧ r 0 1 = some 11 ∧ r 0 2 = some 21 ∧ r 0 3 = some 22 ∧ r 0 4 = some 23 ∧ r 0 5 = some 24 ∧ r 0 6 = some 26 ∧ r 0 7 = some 33) ∧ r 22 0 = some 90 ∧ r 22 1 = some 100
def LayM (r : Nat → Nat → Option Nat) : Prop :=
  (r 110 0 = some 111 ∧ r 110 1 = some 112 ∧ r 110 2 = some 113 ∧ r 110 4 = some 114 ∧ r 110 5 = some 115 ∧ r 110 6 = some 116) ∧ (r 110 8 = some 117 ∧ r 110 9 = some 118 ∧ r 110 10 = some 119 ∧ r 110 11 = some 120 ∧ r 110 12 = some 121) ∧
  (r 110 13 = some 122 ∧ r 110 14 = some 123 ∧ r 110 15 = some 124 ∧ r 110 16 = some 125 ∧ r 110 21 = some 126)
theorem mo_0 {r : Nat → Nat → Option Nat} (h : LayM r) : r 110 0 = some 111 := h.1.1
theorem mo_1 {r : Nat → Nat → Option Nat} (h : LayM r) : r 110 1 = some 112 := h.1.2.1
theorem mo_2 {r : Nat → Nat → Option Nat} (h : LayM r) : r 110 2 = some 113 := h.1.2.2.1
theorem mo_4 {r : Nat → Nat → Option Nat} (h : LayM r) : r 110 4 = some 114 := h.1.2.2.2.1
theorem mo_5 {r : Nat → Nat → Option Nat} (h : LayM r) : r 110 5 = some 115 := h.1.2.2.2.2.1
theorem mo_6 {r : Nat → Nat → Option Nat} (h : LayM r) : r 110 6 = some 116 := h.1.2.2.2.2.2
theorem mo_8 {r : Nat → Nat → Option Nat} (h : LayM r) : r 110 8 = some 117 := h.2.1.1
theorem mo_9 {r : Nat → Nat → Option Nat} (h : LayM r) : r 110 9 = some 118 := h.2.1.2.1
theorem mo_10 {r : Nat → Nat → Option Nat} (h : LayM r) : r 110 10 = some 119 := h.2.1.2.2.1
theorem mo_11 {r : Nat → Nat → Option Nat} (h : LayM r) : r 110 11 = some 120 := h.2.1.2.2.2.1
theorem mo_12 {r : Nat → Nat → Option Nat} (h : LayM r) : r 110 12 = some 121 := h.2.1.2.2.2.2
theorem mo_13 {r : Nat → Nat → Option Nat} (h : LayM r) : r 110 13 = some 122 := h.2.2.1
theorem mo_14 {r : Nat → Nat → Option Nat} (h : LayM r) : r 110 14 = some 123 := h.2.2.2.1
theorem mo_15 {r : Nat → Nat → Option Nat} (h : LayM r) : r 110 15 = some 124 := h.2.2.2.2.1
theorem mo_16 {r : Nat → Nat → Option Nat} (h : LayM r) : r 110 16 = some 125 := h.2.2.2.2.2.1
theorem mo_21 {r : Nat → Nat → Option Nat} (h : LayM r) : r 110 21 = some 126 := h.2.2.2.2.2.2
theorem ow_0 {r : Nat → Nat → Option Nat} (h : LayX r) : r 0 0 = some 1 := h.2.2.2.1.1
theorem ow_1 {r : Nat → Nat → Option Nat} (h : LayX r) : r 0 1 = some 11 := h.2.2.2.1.2.1
theorem ow_2 {r : Nat → Nat → Option Nat} (h : LayX r) : r 0 2 = some 21 := h.2.2.2.1.2.2.1
theorem ow_3 {r : Nat → Nat → Option Nat} (h : LayX r) : r 0 3 = some 22 := h.2.2.2.1.2.2.2.1
theorem ow_4 {r : Nat → Nat → Option Nat} (h : LayX r) : r 0 4 = some 23 := h.2.2.2.1.2.2.2.2.1
theorem ow_5 {r : Nat → Nat → Option Nat} (h : LayX r) : r 0 5 = some 24 := h.2.2.2.1.2.2.2.2.2.1
theorem ow_6 {r : Nat → Nat → Option Nat} (h : LayX r) : r 0 6 = some 26 := h.2.2.2.1.2.2.2.2.2.2.1
theorem ow_7 {r : Nat → Nat → Option Nat} (h : LayX r) : r 0 7 = some 33 := h.2.2.2.1.2.2.2.2.2.2.2
theorem tx_0 {r : Nat → Nat → Option Nat} (h : LayX r) : r 24 0 = some 25 := h.2.2.1
theorem sl_0 {r : Nat → Nat → Option Nat} (h : LayX r) : r 22 0 = some 90 := h.2.2.2.2.1
theorem sl_1 {r : Nat → Nat → Option Nat} (h : LayX r) : r 22 1 = some 100 := h.2.2.2.2.2
/-- a contract of a method that makes nothing -/
def vP (P : Option AV → Mem → Prop) : vPost := fun r sh' n' M' => sh' = SH ∧ n' = 127 ∧ P r M'
abbrev Co (l : Launch) (y : MethodName) (cy : ByteArray) (mL : Nat) (ret : Option FieldType) (rm : Room) (G : vGG) (As : List AV) (M : Mem) (P : Option AV → Mem → Prop) : Prop := Ct l y cy mL ret rm G As SH 127 M (vP P)
/-- it answers v and leaves the memory M1 -/
abbrev Cv (l : Launch) (y : MethodName) (cy : ByteArray) (mL : Nat) (ret : Option FieldType) (rm : Room) (G : vGG) (As : List AV) (M : Mem) (v : Option AV) (M1 : Mem) : Prop := Co l y cy mL ret rm G As M (fun r M' => r = v ∧ M' = M1)
abbrev rmo (f n : Nat) : Room := { frames := f, cells := 0, slots := 0, locals := n }
section VO
variable {x : vXX} {Q : State → Prop} {G : vGG} {cc : ByteArray} {own : String} {pc : Nat} {ls : List (Option AV)} {st : List AV} {M M1 : Mem} {f lo : Nat}
variable {y : MethodName} {cy : ByteArray} {mL idx : Nat} {ret : Option FieldType} {P : Option AV → Mem → Prop} {v : AV}
abbrev vO (x : vXX) (Q : State → Prop) (G : vGG) (cc : ByteArray) (own : String) (pc : Nat) (ls : List (Option AV)) (st : List AV) (M : Mem) : Prop := V x Q G cc own SH 127 0 0 pc ls st M
def vRo (f lo mL : Nat) (R : Room) : Prop := f + 1 ≤ R.frames ∧ 8 + (mL + 11) + lo ≤ R.locals
theorem vRo.rm {R : Room} (h : vRo f lo mL R) : vRm (rmo f lo) R mL 0 0 := ⟨h, Nat.zero_le _, Nat.zero_le _⟩
theorem oSv0 (hc : Cv (xl x) y cy mL ret (rmo f lo) G [] M (some v) M1) (k0 : vK0 y cy mL ret 0) (ki : Cond.static y ∈ vGT) (kl : Cond.methodLink own idx y ∈ vGT) (hR1 : vRo f lo mL (xR x)) (hd : decode cc pc = .ok (.invokestatic idx, 3)) (hst : (st.map vcat).sum ≤ 8) (kk : vO x Q G cc own (pc + 3) ls (v :: st) M1) : vO x Q G cc own pc ls (st) M :=
  v_callS0 hc k0 kl ki hR1.rm hst hd (fun r sh' n' M' h => by obtain ⟨rfl, rfl, rfl, rfl⟩ := h; exact kk)
theorem oSn0 (hc : Cv (xl x) y cy mL ret (rmo f lo) G [] M none M1) (k0 : vK0 y cy mL ret 0) (ki : Cond.static y ∈ vGT) (kl : Cond.methodLink own idx y ∈ vGT) (hR1 : vRo f lo mL (xR x)) (hd : decode cc pc = .ok (.invokestatic idx, 3)) (hst : (st.map vcat).sum ≤ 8) (kk : vO x Q G cc own (pc + 3) ls st M1) : vO x Q G cc own pc ls (st) M :=
  v_callS0 hc k0 kl ki hR1.rm hst hd (fun r sh' n' M' h => by obtain ⟨rfl, rfl, rfl, rfl⟩ := h; exact kk)
theorem oSp0 (hc : Co (xl x) y cy mL ret (rmo f lo) G [] M P) (k0 : vK0 y cy mL ret 0) (ki : Cond.static y ∈ vGT) (kl : Cond.methodLink own idx y ∈ vGT) (hR1 : vRo f lo mL (xR x)) (hd : decode cc pc = .ok (.invokestatic idx, 3)) (hst : (st.map vcat).sum ≤ 8) (kk : ∀ (r : Option AV) (M' : Mem), P r M' → vO x Q G cc own (pc + 3) ls (r.toList ++ st) M') : vO x Q G cc own pc ls (st) M :=
  v_callS0 hc k0 kl ki hR1.rm hst hd (fun r sh' n' M' h => by obtain ⟨rfl, rfl, h⟩ := h; exact kk r M' h)
theorem oSNv0 {host : String} (hc : Cv (xl x) y cy mL ret (rmo f lo) G [] M (some v) M1) (k0 : vK0 y cy mL ret 0) (ki : Cond.static y ∈ vGT) (kl : Cond.methodLinkNest own idx y host ∈ vNW) (hR1 : vRo f lo mL (xR x)) (hd : decode cc pc = .ok (.invokestatic idx, 3)) (hst : (st.map vcat).sum ≤ 8) (kk : vO x Q G cc own (pc + 3) ls (v :: st) M1) : vO x Q G cc own pc ls (st) M :=
  v_callSN0 hc k0 kl ki hR1.rm hst hd (fun r sh' n' M' h => by obtain ⟨rfl, rfl, rfl, rfl⟩ := h; exact kk)
theorem oSNn0 {host : String} (hc : Cv (xl x) y cy mL ret (rmo f lo) G [] M none M1) (k0 : vK0 y cy mL ret 0) (ki : Cond.static y ∈ vGT) (kl : Cond.methodLinkNest own idx y host ∈ vNW) (hR1 : vRo f lo mL (xR x)) (hd : decode cc pc = .ok (.invokestatic idx, 3)) (hst : (st.map vcat).sum ≤ 8) (kk : vO x Q G cc own (pc + 3) ls st M1) : vO x Q G cc own pc ls (st) M :=
  v_callSN0 hc k0 kl ki hR1.rm hst hd (fun r sh' n' M' h => by obtain ⟨rfl, rfl, rfl, rfl⟩ := h; exact kk)
theorem oSNp0 {host : String} (hc : Co (xl x) y cy mL ret (rmo f lo) G [] M P) (k0 : vK0 y cy mL ret 0) (ki : Cond.static y ∈ vGT) (kl : Cond.methodLinkNest own idx y host ∈ vNW) (hR1 : vRo f lo mL (xR x)) (hd : decode cc pc = .ok (.invokestatic idx, 3)) (hst : (st.map vcat).sum ≤ 8) (kk : ∀ (r : Option AV) (M' : Mem), P r M' → vO x Q G cc own (pc + 3) ls (r.toList ++ st) M') : vO x Q G cc own pc ls (st) M :=
  v_callSN0 hc k0 kl ki hR1.rm hst hd (fun r sh' n' M' h => by obtain ⟨rfl, rfl, h⟩ := h; exact kk r M' h)
theorem oVv0 {b : Nat} (ci : Nat) (hc : Cv (xl x) y cy mL ret (rmo f lo) G [aR (some b)] M (some v) M1) (k0 : vK0 y cy mL ret 0) (ki : Cond.instanceMethod y ∈ vGT ∧ Cond.selects y.cls y y ∈ vGT) (kl : Cond.methodLink own idx y ∈ vGT) (hs : SH b = some (.inl ci)) (hcl : (vwCl[ci]?).map (fun r => r.1) = some y.cls) (hR1 : vRo f lo mL (xR x)) (hd : decode cc pc = .ok (.invokevirtual idx, 3)) (hst : (st.map vcat).sum ≤ 8) (kk : vO x Q G cc own (pc + 3) ls (v :: st) M1) : vO x Q G cc own pc ls (aR (some b) :: st) M :=
  v_callV0 ci hc k0 kl ki.1 ki.2 hs hcl hR1.rm hst hd (fun r sh' n' M' h => by obtain ⟨rfl, rfl, rfl, rfl⟩ := h; exact kk)
theorem oVn0 {b : Nat} (ci : Nat) (hc : Cv (xl x) y cy mL ret (rmo f lo) G [aR (some b)] M none M1) (k0 : vK0 y cy mL ret 0) (ki : Cond.instanceMethod y ∈ vGT ∧ Cond.selects y.cls y y ∈ vGT) (kl : Cond.methodLink own idx y ∈ vGT) (hs : SH b = some (.inl ci)) (hcl : (vwCl[ci]?).map (fun r => r.1) = some y.cls) (hR1 : vRo f lo mL (xR x)) (hd : decode cc pc = .ok (.invokevirtual idx, 3)) (hst : (st.map vcat).sum ≤ 8) (kk : vO x Q G cc own (pc + 3) ls st M1) : vO x Q G cc own pc ls (aR (some b) :: st) M :=
  v_callV0 ci hc k0 kl ki.1 ki.2 hs hcl hR1.rm hst hd (fun r sh' n' M' h => by obtain ⟨rfl, rfl, rfl, rfl⟩ := h; exact kk)
theorem oVp0 {b : Nat} (ci : Nat) (hc : Co (xl x) y cy mL ret (rmo f lo) G [aR (some b)] M P) (k0 : vK0 y cy mL ret 0) (ki : Cond.instanceMethod y ∈ vGT ∧ Cond.selects y.cls y y ∈ vGT) (kl : Cond.methodLink own idx y ∈ vGT) (hs : SH b = some (.inl ci)) (hcl : (vwCl[ci]?).map (fun r => r.1) = some y.cls) (hR1 : vRo f lo mL (xR x)) (hd : decode cc pc = .ok (.invokevirtual idx, 3)) (hst : (st.map vcat).sum ≤ 8) (kk : ∀ (r : Option AV) (M' : Mem), P r M' → vO x Q G cc own (pc + 3) ls (r.toList ++ st) M') : vO x Q G cc own pc ls (aR (some b) :: st) M :=
  v_callV0 ci hc k0 kl ki.1 ki.2 hs hcl hR1.rm hst hd (fun r sh' n' M' h => by obtain ⟨rfl, rfl, h⟩ := h; exact kk r M' h)
theorem oSv1 {a0 : AV} (hc : Cv (xl x) y cy mL ret (rmo f lo) G [a0] M (some v) M1) (k0 : vK0 y cy mL ret 1) (ki : Cond.static y ∈ vGT) (kl : Cond.methodLink own idx y ∈ vGT) (hR1 : vRo f lo mL (xR x)) (hd : decode cc pc = .ok (.invokestatic idx, 3)) (hst : (st.map vcat).sum ≤ 8) (kk : vO x Q G cc own (pc + 3) ls (v :: st) M1) : vO x Q G cc own pc ls (a0 :: st) M :=
  v_callS1 hc k0 kl ki hR1.rm hst hd (fun r sh' n' M' h => by obtain ⟨rfl, rfl, rfl, rfl⟩ := h; exact kk)
theorem oSn1 {a0 : AV} (hc : Cv (xl x) y cy mL ret (rmo f lo) G [a0] M none M1) (k0 : vK0 y cy mL ret 1) (ki : Cond.static y ∈ vGT) (kl : Cond.methodLink own idx y ∈ vGT) (hR1 : vRo f lo mL (xR x)) (hd : decode cc pc = .ok (.invokestatic idx, 3)) (hst : (st.map vcat).sum ≤ 8) (kk : vO x Q G cc own (pc + 3) ls st M1) : vO x Q G cc own pc ls (a0 :: st) M :=
  v_callS1 hc k0 kl ki hR1.rm hst hd (fun r sh' n' M' h => by obtain ⟨rfl, rfl, rfl, rfl⟩ := h; exact kk)
theorem oSp1 {a0 : AV} (hc : Co (xl x) y cy mL ret (rmo f lo) G [a0] M P) (k0 : vK0 y cy mL ret 1) (ki : Cond.static y ∈ vGT) (kl : Cond.methodLink own idx y ∈ vGT) (hR1 : vRo f lo mL (xR x)) (hd : decode cc pc = .ok (.invokestatic idx, 3)) (hst : (st.map vcat).sum ≤ 8) (kk : ∀ (r : Option AV) (M' : Mem), P r M' → vO x Q G cc own (pc + 3) ls (r.toList ++ st) M') : vO x Q G cc own pc ls (a0 :: st) M :=
  v_callS1 hc k0 kl ki hR1.rm hst hd (fun r sh' n' M' h => by obtain ⟨rfl, rfl, h⟩ := h; exact kk r M' h)
theorem oSNv1 {a0 : AV} {host : String} (hc : Cv (xl x) y cy mL ret (rmo f lo) G [a0] M (some v) M1) (k0 : vK0 y cy mL ret 1) (ki : Cond.static y ∈ vGT) (kl : Cond.methodLinkNest own idx y host ∈ vNW) (hR1 : vRo f lo mL (xR x)) (hd : decode cc pc = .ok (.invokestatic idx, 3)) (hst : (st.map vcat).sum ≤ 8) (kk : vO x Q G cc own (pc + 3) ls (v :: st) M1) : vO x Q G cc own pc ls (a0 :: st) M :=
  v_callSN1 hc k0 kl ki hR1.rm hst hd (fun r sh' n' M' h => by obtain ⟨rfl, rfl, rfl, rfl⟩ := h; exact kk)
theorem oSNn1 {a0 : AV} {host : String} (hc : Cv (xl x) y cy mL ret (rmo f lo) G [a0] M none M1) (k0 : vK0 y cy mL ret 1) (ki : Cond.static y ∈ vGT) (kl : Cond.methodLinkNest own idx y host ∈ vNW) (hR1 : vRo f lo mL (xR x)) (hd : decode cc pc = .ok (.invokestatic idx, 3)) (hst : (st.map vcat).sum ≤ 8) (kk : vO x Q G cc own (pc + 3) ls st M1) : vO x Q G cc own pc ls (a0 :: st) M :=
  v_callSN1 hc k0 kl ki hR1.rm hst hd (fun r sh' n' M' h => by obtain ⟨rfl, rfl, rfl, rfl⟩ := h; exact kk)
theorem oSNp1 {a0 : AV} {host : String} (hc : Co (xl x) y cy mL ret (rmo f lo) G [a0] M P) (k0 : vK0 y cy mL ret 1) (ki : Cond.static y ∈ vGT) (kl : Cond.methodLinkNest own idx y host ∈ vNW) (hR1 : vRo f lo mL (xR x)) (hd : decode cc pc = .ok (.invokestatic idx, 3)) (hst : (st.map vcat).sum ≤ 8) (kk : ∀ (r : Option AV) (M' : Mem), P r M' → vO x Q G cc own (pc + 3) ls (r.toList ++ st) M') : vO x Q G cc own pc ls (a0 :: st) M :=
  v_callSN1 hc k0 kl ki hR1.rm hst hd (fun r sh' n' M' h => by obtain ⟨rfl, rfl, h⟩ := h; exact kk r M' h)
theorem oVv1 {a0 : AV} {b : Nat} (ci : Nat) (hc : Cv (xl x) y cy mL ret (rmo f lo) G [aR (some b), a0] M (some v) M1) (k0 : vK0 y cy mL ret 1) (ki : Cond.instanceMethod y ∈ vGT ∧ Cond.selects y.cls y y ∈ vGT) (kl : Cond.methodLink own idx y ∈ vGT) (hs : SH b = some (.inl ci)) (hcl : (vwCl[ci]?).map (fun r => r.1) = some y.cls) (hR1 : vRo f lo mL (xR x)) (hd : decode cc pc = .ok (.invokevirtual idx, 3)) (hst : (st.map vcat).sum ≤ 8) (kk : vO x Q G cc own (pc + 3) ls (v :: st) M1) : vO x Q G cc own pc ls (a0 :: aR (some b) :: st) M :=
  v_callV1 ci hc k0 kl ki.1 ki.2 hs hcl hR1.rm hst hd (fun r sh' n' M' h => by obtain ⟨rfl, rfl, rfl, rfl⟩ := h; exact kk)
theorem oVn1 {a0 : AV} {b : Nat} (ci : Nat) (hc : Cv (xl x) y cy mL ret (rmo f lo) G [aR (some b), a0] M none M1) (k0 : vK0 y cy mL ret 1) (ki : Cond.instanceMethod y ∈ vGT ∧ Cond.selects y.cls y y ∈ vGT) (kl : Cond.methodLink own idx y ∈ vGT) (hs : SH b = some (.inl ci)) (hcl : (vwCl[ci]?).map (fun r => r.1) = some y.cls) (hR1 : vRo f lo mL (xR x)) (hd : decode cc pc = .ok (.invokevirtual idx, 3)) (hst : (st.map vcat).sum ≤ 8) (kk : vO x Q G cc own (pc + 3) ls st M1) : vO x Q G cc own pc ls (a0 :: aR (some b) :: st) M :=
  v_callV1 ci hc k0 kl ki.1 ki.2 hs hcl hR1.rm hst hd (fun r sh' n' M' h => by obtain ⟨rfl, rfl, rfl, rfl⟩ := h; exact kk)
theorem oVp1 {a0 : AV} {b : Nat} (ci : Nat) (hc : Co (xl x) y cy mL ret (rmo f lo) G [aR (some b), a0] M P) (k0 : vK0 y cy mL ret 1) (ki : Cond.instanceMethod y ∈ vGT ∧ Cond.selects y.cls y y ∈ vGT) (kl : Cond.methodLink own idx y ∈ vGT) (hs : SH b = some (.inl ci)) (hcl : (vwCl[ci]?).map (fun r => r.1) = some y.cls) (hR1 : vRo f lo mL (xR x)) (hd : decode cc pc = .ok (.invokevirtual idx, 3)) (hst : (st.map vcat).sum ≤ 8) (kk : ∀ (r : Option AV) (M' : Mem), P r M' → vO x Q G cc own (pc + 3) ls (r.toList ++ st) M') : vO x Q G cc own pc ls (a0 :: aR (some b) :: st) M :=
  v_callV1 ci hc k0 kl ki.1 ki.2 hs hcl hR1.rm hst hd (fun r sh' n' M' h => by obtain ⟨rfl, rfl, h⟩ := h; exact kk r M' h)
theorem oSv2 {a0 a1 : AV} (hc : Cv (xl x) y cy mL ret (rmo f lo) G [a0, a1] M (some v) M1) (k0 : vK0 y cy mL ret 2) (ki : Cond.static y ∈ vGT) (kl : Cond.methodLink own idx y ∈ vGT) (hR1 : vRo f lo mL (xR x)) (hd : decode cc pc = .ok (.invokestatic idx, 3)) (hst : (st.map vcat).sum ≤ 8) (kk : vO x Q G cc own (pc + 3) ls (v :: st) M1) : vO x Q G cc own pc ls (a1 :: a0 :: st) M :=
  v_callS2 hc k0 kl ki hR1.rm hst hd (fun r sh' n' M' h => by obtain ⟨rfl, rfl, rfl, rfl⟩ := h; exact kk)
theorem oSn2 {a0 a1 : AV} (hc : Cv (xl x) y cy mL ret (rmo f lo) G [a0, a1] M none M1) (k0 : vK0 y cy mL ret 2) (ki : Cond.static y ∈ vGT) (kl : Cond.methodLink own idx y ∈ vGT) (hR1 : vRo f lo mL (xR x)) (hd : decode cc pc = .ok (.invokestatic idx, 3)) (hst : (st.map vcat).sum ≤ 8) (kk : vO x Q G cc own (pc + 3) ls st M1) : vO x Q G cc own pc ls (a1 :: a0 :: st) M :=
  v_callS2 hc k0 kl ki hR1.rm hst hd (fun r sh' n' M' h => by obtain ⟨rfl, rfl, rfl, rfl⟩ := h; exact kk)
theorem oSp2 {a0 a1 : AV} (hc : Co (xl x) y cy mL ret (rmo f lo) G [a0, a1] M P) (k0 : vK0 y cy mL ret 2) (ki : Cond.static y ∈ vGT) (kl : Cond.methodLink own idx y ∈ vGT) (hR1 : vRo f lo mL (xR x)) (hd : decode cc pc = .ok (.invokestatic idx, 3)) (hst : (st.map vcat).sum ≤ 8) (kk : ∀ (r : Option AV) (M' : Mem), P r M' → vO x Q G cc own (pc + 3) ls (r.toList ++ st) M') : vO x Q G cc own pc ls (a1 :: a0 :: st) M :=
  v_callS2 hc k0 kl ki hR1.rm hst hd (fun r sh' n' M' h => by obtain ⟨rfl, rfl, h⟩ := h; exact kk r M' h)
theorem oSNv2 {a0 a1 : AV} {host : String} (hc : Cv (xl x) y cy mL ret (rmo f lo) G [a0, a1] M (some v) M1) (k0 : vK0 y cy mL ret 2) (ki : Cond.static y ∈ vGT) (kl : Cond.methodLinkNest own idx y host ∈ vNW) (hR1 : vRo f lo mL (xR x)) (hd : decode cc pc = .ok (.invokestatic idx, 3)) (hst : (st.map vcat).sum ≤ 8) (kk : vO x Q G cc own (pc + 3) ls (v :: st) M1) : vO x Q G cc own pc ls (a1 :: a0 :: st) M :=
  v_callSN2 hc k0 kl ki hR1.rm hst hd (fun r sh' n' M' h => by obtain ⟨rfl, rfl, rfl, rfl⟩ := h; exact kk)
theorem oSNn2 {a0 a1 : AV} {host : String} (hc : Cv (xl x) y cy mL ret (rmo f lo) G [a0, a1] M none M1) (k0 : vK0 y cy mL ret 2) (ki : Cond.static y ∈ vGT) (kl : Cond.methodLinkNest own idx y host ∈ vNW) (hR1 : vRo f lo mL (xR x)) (hd : decode cc pc = .ok (.invokestatic idx, 3)) (hst : (st.map vcat).sum ≤ 8) (kk : vO x Q G cc own (pc + 3) ls st M1) : vO x Q G cc own pc ls (a1 :: a0 :: st) M :=
  v_callSN2 hc k0 kl ki hR1.rm hst hd (fun r sh' n' M' h => by obtain ⟨rfl, rfl, rfl, rfl⟩ := h; exact kk)
theorem oSNp2 {a0 a1 : AV} {host : String} (hc : Co (xl x) y cy mL ret (rmo f lo) G [a0, a1] M P) (k0 : vK0 y cy mL ret 2) (ki : Cond.static y ∈ vGT) (kl : Cond.methodLinkNest own idx y host ∈ vNW) (hR1 : vRo f lo mL (xR x)) (hd : decode cc pc = .ok (.invokestatic idx, 3)) (hst : (st.map vcat).sum ≤ 8) (kk : ∀ (r : Option AV) (M' : Mem), P r M' → vO x Q G cc own (pc + 3) ls (r.toList ++ st) M') : vO x Q G cc own pc ls (a1 :: a0 :: st) M :=
  v_callSN2 hc k0 kl ki hR1.rm hst hd (fun r sh' n' M' h => by obtain ⟨rfl, rfl, h⟩ := h; exact kk r M' h)
theorem oVv2 {a0 a1 : AV} {b : Nat} (ci : Nat) (hc : Cv (xl x) y cy mL ret (rmo f lo) G [aR (some b), a0, a1] M (some v) M1) (k0 : vK0 y cy mL ret 2) (ki : Cond.instanceMethod y ∈ vGT ∧ Cond.selects y.cls y y ∈ vGT) (kl : Cond.methodLink own idx y ∈ vGT) (hs : SH b = some (.inl ci)) (hcl : (vwCl[ci]?).map (fun r => r.1) = some y.cls) (hR1 : vRo f lo mL (xR x)) (hd : decode cc pc = .ok (.invokevirtual idx, 3)) (hst : (st.map vcat).sum ≤ 8) (kk : vO x Q G cc own (pc + 3) ls (v :: st) M1) : vO x Q G cc own pc ls (a1 :: a0 :: aR (some b) :: st) M :=
  v_callV2 ci hc k0 kl ki.1 ki.2 hs hcl hR1.rm hst hd (fun r sh' n' M' h => by obtain ⟨rfl, rfl, rfl, rfl⟩ := h; exact kk)
theorem oVn2 {a0 a1 : AV} {b : Nat} (ci : Nat) (hc : Cv (xl x) y cy mL ret (rmo f lo) G [aR (some b), a0, a1] M none M1) (k0 : vK0 y cy mL ret 2) (ki : Cond.instanceMethod y ∈ vGT ∧ Cond.selects y.cls y y ∈ vGT) (kl : Cond.methodLink own idx y ∈ vGT) (hs : SH b = some (.inl ci)) (hcl : (vwCl[ci]?).map (fun r => r.1) = some y.cls) (hR1 : vRo f lo mL (xR x)) (hd : decode cc pc = .ok (.invokevirtual idx, 3)) (hst : (st.map vcat).sum ≤ 8) (kk : vO x Q G cc own (pc + 3) ls st M1) : vO x Q G cc own pc ls (a1 :: a0 :: aR (some b) :: st) M :=
  v_callV2 ci hc k0 kl ki.1 ki.2 hs hcl hR1.rm hst hd (fun r sh' n' M' h => by obtain ⟨rfl, rfl, rfl, rfl⟩ := h; exact kk)
theorem oVp2 {a0 a1 : AV} {b : Nat} (ci : Nat) (hc : Co (xl x) y cy mL ret (rmo f lo) G [aR (some b), a0, a1] M P) (k0 : vK0 y cy mL ret 2) (ki : Cond.instanceMethod y ∈ vGT ∧ Cond.selects y.cls y y ∈ vGT) (kl : Cond.methodLink own idx y ∈ vGT) (hs : SH b = some (.inl ci)) (hcl : (vwCl[ci]?).map (fun r => r.1) = some y.cls) (hR1 : vRo f lo mL (xR x)) (hd : decode cc pc = .ok (.invokevirtual idx, 3)) (hst : (st.map vcat).sum ≤ 8) (kk : ∀ (r : Option AV) (M' : Mem), P r M' → vO x Q G cc own (pc + 3) ls (r.toList ++ st) M') : vO x Q G cc own pc ls (a1 :: a0 :: aR (some b) :: st) M :=
  v_callV2 ci hc k0 kl ki.1 ki.2 hs hcl hR1.rm hst hd (fun r sh' n' M' h => by obtain ⟨rfl, rfl, h⟩ := h; exact kk r M' h)
theorem oSv3 {a0 a1 a2 : AV} (hc : Cv (xl x) y cy mL ret (rmo f lo) G [a0, a1, a2] M (some v) M1) (k0 : vK0 y cy mL ret 3) (ki : Cond.static y ∈ vGT) (kl : Cond.methodLink own idx y ∈ vGT) (hR1 : vRo f lo mL (xR x)) (hd : decode cc pc = .ok (.invokestatic idx, 3)) (hst : (st.map vcat).sum ≤ 8) (kk : vO x Q G cc own (pc + 3) ls (v :: st) M1) : vO x Q G cc own pc ls (a2 :: a1 :: a0 :: st) M :=
  v_callS3 hc k0 kl ki hR1.rm hst hd (fun r sh' n' M' h => by obtain ⟨rfl, rfl, rfl, rfl⟩ := h; exact kk)
theorem oSn3 {a0 a1 a2 : AV} (hc : Cv (xl x) y cy mL ret (rmo f lo) G [a0, a1, a2] M none M1) (k0 : vK0 y cy mL ret 3) (ki : Cond.static y ∈ vGT) (kl : Cond.methodLink own idx y ∈ vGT) (hR1 : vRo f lo mL (xR x)) (hd : decode cc pc = .ok (.invokestatic idx, 3)) (hst : (st.map vcat).sum ≤ 8) (kk : vO x Q G cc own (pc + 3) ls st M1) : vO x Q G cc own pc ls (a2 :: a1 :: a0 :: st) M :=
  v_callS3 hc k0 kl ki hR1.rm hst hd (fun r sh' n' M' h => by obtain ⟨rfl, rfl, rfl, rfl⟩ := h; exact kk)
theorem oSp3 {a0 a1 a2 : AV} (hc : Co (xl x) y cy mL ret (rmo f lo) G [a0, a1, a2] M P) (k0 : vK0 y cy mL ret 3) (ki : Cond.static y ∈ vGT) (kl : Cond.methodLink own idx y ∈ vGT) (hR1 : vRo f lo mL (xR x)) (hd : decode cc pc = .ok (.invokestatic idx, 3)) (hst : (st.map vcat).sum ≤ 8) (kk : ∀ (r : Option AV) (M' : Mem), P r M' → vO x Q G cc own (pc + 3) ls (r.toList ++ st) M') : vO x Q G cc own pc ls (a2 :: a1 :: a0 :: st) M :=
  v_callS3 hc k0 kl ki hR1.rm hst hd (fun r sh' n' M' h => by obtain ⟨rfl, rfl, h⟩ := h; exact kk r M' h)
theorem oSNv3 {a0 a1 a2 : AV} {host : String} (hc : Cv (xl x) y cy mL ret (rmo f lo) G [a0, a1, a2] M (some v) M1) (k0 : vK0 y cy mL ret 3) (ki : Cond.static y ∈ vGT) (kl : Cond.methodLinkNest own idx y host ∈ vNW) (hR1 : vRo f lo mL (xR x)) (hd : decode cc pc = .ok (.invokestatic idx, 3)) (hst : (st.map vcat).sum ≤ 8) (kk : vO x Q G cc own (pc + 3) ls (v :: st) M1) : vO x Q G cc own pc ls (a2 :: a1 :: a0 :: st) M :=
  v_callSN3 hc k0 kl ki hR1.rm hst hd (fun r sh' n' M' h => by obtain ⟨rfl, rfl, rfl, rfl⟩ := h; exact kk)
theorem oSNn3 {a0 a1 a2 : AV} {host : String} (hc : Cv (xl x) y cy mL ret (rmo f lo) G [a0, a1, a2] M none M1) (k0 : vK0 y cy mL ret 3) (ki : Cond.static y ∈ vGT) (kl : Cond.methodLinkNest own idx y host ∈ vNW) (hR1 : vRo f lo mL (xR x)) (hd : decode cc pc = .ok (.invokestatic idx, 3)) (hst : (st.map vcat).sum ≤ 8) (kk : vO x Q G cc own (pc + 3) ls st M1) : vO x Q G cc own pc ls (a2 :: a1 :: a0 :: st) M :=
  v_callSN3 hc k0 kl ki hR1.rm hst hd (fun r sh' n' M' h => by obtain ⟨rfl, rfl, rfl, rfl⟩ := h; exact kk)
theorem oSNp3 {a0 a1 a2 : AV} {host : String} (hc : Co (xl x) y cy mL ret (rmo f lo) G [a0, a1, a2] M P) (k0 : vK0 y cy mL ret 3) (ki : Cond.static y ∈ vGT) (kl : Cond.methodLinkNest own idx y host ∈ vNW) (hR1 : vRo f lo mL (xR x)) (hd : decode cc pc = .ok (.invokestatic idx, 3)) (hst : (st.map vcat).sum ≤ 8) (kk : ∀ (r : Option AV) (M' : Mem), P r M' → vO x Q G cc own (pc + 3) ls (r.toList ++ st) M') : vO x Q G cc own pc ls (a2 :: a1 :: a0 :: st) M :=
  v_callSN3 hc k0 kl ki hR1.rm hst hd (fun r sh' n' M' h => by obtain ⟨rfl, rfl, h⟩ := h; exact kk r M' h)
theorem oVv3 {a0 a1 a2 : AV} {b : Nat} (ci : Nat) (hc : Cv (xl x) y cy mL ret (rmo f lo) G [aR (some b), a0, a1, a2] M (some v) M1) (k0 : vK0 y cy mL ret 3) (ki : Cond.instanceMethod y ∈ vGT ∧ Cond.selects y.cls y y ∈ vGT) (kl : Cond.methodLink own idx y ∈ vGT) (hs : SH b = some (.inl ci)) (hcl : (vwCl[ci]?).map (fun r => r.1) = some y.cls) (hR1 : vRo f lo mL (xR x)) (hd : decode cc pc = .ok (.invokevirtual idx, 3)) (hst : (st.map vcat).sum ≤ 8) (kk : vO x Q G cc own (pc + 3) ls (v :: st) M1) : vO x Q G cc own pc ls (a2 :: a1 :: a0 :: aR (some b) :: st) M :=
  v_callV3 ci hc k0 kl ki.1 ki.2 hs hcl hR1.rm hst hd (fun r sh' n' M' h => by obtain ⟨rfl, rfl, rfl, rfl⟩ := h; exact kk)
theorem oVn3 {a0 a1 a2 : AV} {b : Nat} (ci : Nat) (hc : Cv (xl x) y cy mL ret (rmo f lo) G [aR (some b), a0, a1, a2] M none M1) (k0 : vK0 y cy mL ret 3) (ki : Cond.instanceMethod y ∈ vGT ∧ Cond.selects y.cls y y ∈ vGT) (kl : Cond.methodLink own idx y ∈ vGT) (hs : SH b = some (.inl ci)) (hcl : (vwCl[ci]?).map (fun r => r.1) = some y.cls) (hR1 : vRo f lo mL (xR x)) (hd : decode cc pc = .ok (.invokevirtual idx, 3)) (hst : (st.map vcat).sum ≤ 8) (kk : vO x Q G cc own (pc + 3) ls st M1) : vO x Q G cc own pc ls (a2 :: a1 :: a0 :: aR (some b) :: st) M :=
  v_callV3 ci hc k0 kl ki.1 ki.2 hs hcl hR1.rm hst hd (fun r sh' n' M' h => by obtain ⟨rfl, rfl, rfl, rfl⟩ := h; exact kk)
theorem oVp3 {a0 a1 a2 : AV} {b : Nat} (ci : Nat) (hc : Co (xl x) y cy mL ret (rmo f lo) G [aR (some b), a0, a1, a2] M P) (k0 : vK0 y cy mL ret 3) (ki : Cond.instanceMethod y ∈ vGT ∧ Cond.selects y.cls y y ∈ vGT) (kl : Cond.methodLink own idx y ∈ vGT) (hs : SH b = some (.inl ci)) (hcl : (vwCl[ci]?).map (fun r => r.1) = some y.cls) (hR1 : vRo f lo mL (xR x)) (hd : decode cc pc = .ok (.invokevirtual idx, 3)) (hst : (st.map vcat).sum ≤ 8) (kk : ∀ (r : Option AV) (M' : Mem), P r M' → vO x Q G cc own (pc + 3) ls (r.toList ++ st) M') : vO x Q G cc own pc ls (a2 :: a1 :: a0 :: aR (some b) :: st) M :=
  v_callV3 ci hc k0 kl ki.1 ki.2 hs hcl hR1.rm hst hd (fun r sh' n' M' h => by obtain ⟨rfl, rfl, h⟩ := h; exact kk r M' h)
theorem oSv4 {a0 a1 a2 a3 : AV} (hc : Cv (xl x) y cy mL ret (rmo f lo) G [a0, a1, a2, a3] M (some v) M1) (k0 : vK0 y cy mL ret 4) (ki : Cond.static y ∈ vGT) (kl : Cond.methodLink own idx y ∈ vGT) (hR1 : vRo f lo mL (xR x)) (hd : decode cc pc = .ok (.invokestatic idx, 3)) (hst : (st.map vcat).sum ≤ 8) (kk : vO x Q G cc own (pc + 3) ls (v :: st) M1) : vO x Q G cc own pc ls (a3 :: a2 :: a1 :: a0 :: st) M :=
  v_callS4 hc k0 kl ki hR1.rm hst hd (fun r sh' n' M' h => by obtain ⟨rfl, rfl, rfl, rfl⟩ := h; exact kk)
theorem oSn4 {a0 a1 a2 a3 : AV} (hc : Cv (xl x) y cy mL ret (rmo f lo) G [a0, a1, a2, a3] M none M1) (k0 : vK0 y cy mL ret 4) (ki : Cond.static y ∈ vGT) (kl : Cond.methodLink own idx y ∈ vGT) (hR1 : vRo f lo mL (xR x)) (hd : decode cc pc = .ok (.invokestatic idx, 3)) (hst : (st.map vcat).sum ≤ 8) (kk : vO x Q G cc own (pc + 3) ls st M1) : vO x Q G cc own pc ls (a3 :: a2 :: a1 :: a0 :: st) M :=
  v_callS4 hc k0 kl ki hR1.rm hst hd (fun r sh' n' M' h => by obtain ⟨rfl, rfl, rfl, rfl⟩ := h; exact kk)
theorem oSp4 {a0 a1 a2 a3 : AV} (hc : Co (xl x) y cy mL ret (rmo f lo) G [a0, a1, a2, a3] M P) (k0 : vK0 y cy mL ret 4) (ki : Cond.static y ∈ vGT) (kl : Cond.methodLink own idx y ∈ vGT) (hR1 : vRo f lo mL (xR x)) (hd : decode cc pc = .ok (.invokestatic idx, 3)) (hst : (st.map vcat).sum ≤ 8) (kk : ∀ (r : Option AV) (M' : Mem), P r M' → vO x Q G cc own (pc + 3) ls (r.toList ++ st) M') : vO x Q G cc own pc ls (a3 :: a2 :: a1 :: a0 :: st) M :=
  v_callS4 hc k0 kl ki hR1.rm hst hd (fun r sh' n' M' h => by obtain ⟨rfl, rfl, h⟩ := h; exact kk r M' h)
theorem oSNv4 {a0 a1 a2 a3 : AV} {host : String} (hc : Cv (xl x) y cy mL ret (rmo f lo) G [a0, a1, a2, a3] M (some v) M1) (k0 : vK0 y cy mL ret 4) (ki : Cond.static y ∈ vGT) (kl : Cond.methodLinkNest own idx y host ∈ vNW) (hR1 : vRo f lo mL (xR x)) (hd : decode cc pc = .ok (.invokestatic idx, 3)) (hst : (st.map vcat).sum ≤ 8) (kk : vO x Q G cc own (pc + 3) ls (v :: st) M1) : vO x Q G cc own pc ls (a3 :: a2 :: a1 :: a0 :: st) M :=
  v_callSN4 hc k0 kl ki hR1.rm hst hd (fun r sh' n' M' h => by obtain ⟨rfl, rfl, rfl, rfl⟩ := h; exact kk)
theorem oSNn4 {a0 a1 a2 a3 : AV} {host : String} (hc : Cv (xl x) y cy mL ret (rmo f lo) G [a0, a1, a2, a3] M none M1) (k0 : vK0 y cy mL ret 4) (ki : Cond.static y ∈ vGT) (kl : Cond.methodLinkNest own idx y host ∈ vNW) (hR1 : vRo f lo mL (xR x)) (hd : decode cc pc = .ok (.invokestatic idx, 3)) (hst : (st.map vcat).sum ≤ 8) (kk : vO x Q G cc own (pc + 3) ls st M1) : vO x Q G cc own pc ls (a3 :: a2 :: a1 :: a0 :: st) M :=
  v_callSN4 hc k0 kl ki hR1.rm hst hd (fun r sh' n' M' h => by obtain ⟨rfl, rfl, rfl, rfl⟩ := h; exact kk)
theorem oSNp4 {a0 a1 a2 a3 : AV} {host : String} (hc : Co (xl x) y cy mL ret (rmo f lo) G [a0, a1, a2, a3] M P) (k0 : vK0 y cy mL ret 4) (ki : Cond.static y ∈ vGT) (kl : Cond.methodLinkNest own idx y host ∈ vNW) (hR1 : vRo f lo mL (xR x)) (hd : decode cc pc = .ok (.invokestatic idx, 3)) (hst : (st.map vcat).sum ≤ 8) (kk : ∀ (r : Option AV) (M' : Mem), P r M' → vO x Q G cc own (pc + 3) ls (r.toList ++ st) M') : vO x Q G cc own pc ls (a3 :: a2 :: a1 :: a0 :: st) M :=
  v_callSN4 hc k0 kl ki hR1.rm hst hd (fun r sh' n' M' h => by obtain ⟨rfl, rfl, h⟩ := h; exact kk r M' h)
theorem oVv4 {a0 a1 a2 a3 : AV} {b : Nat} (ci : Nat) (hc : Cv (xl x) y cy mL ret (rmo f lo) G [aR (some b), a0, a1, a2, a3] M (some v) M1) (k0 : vK0 y cy mL ret 4) (ki : Cond.instanceMethod y ∈ vGT ∧ Cond.selects y.cls y y ∈ vGT) (kl : Cond.methodLink own idx y ∈ vGT) (hs : SH b = some (.inl ci)) (hcl : (vwCl[ci]?).map (fun r => r.1) = some y.cls) (hR1 : vRo f lo mL (xR x)) (hd : decode cc pc = .ok (.invokevirtual idx, 3)) (hst : (st.map vcat).sum ≤ 8) (kk : vO x Q G cc own (pc + 3) ls (v :: st) M1) : vO x Q G cc own pc ls (a3 :: a2 :: a1 :: a0 :: aR (some b) :: st) M :=
  v_callV4 ci hc k0 kl ki.1 ki.2 hs hcl hR1.rm hst hd (fun r sh' n' M' h => by obtain ⟨rfl, rfl, rfl, rfl⟩ := h; exact kk)
theorem oVn4 {a0 a1 a2 a3 : AV} {b : Nat} (ci : Nat) (hc : Cv (xl x) y cy mL ret (rmo f lo) G [aR (some b), a0, a1, a2, a3] M none M1) (k0 : vK0 y cy mL ret 4) (ki : Cond.instanceMethod y ∈ vGT ∧ Cond.selects y.cls y y ∈ vGT) (kl : Cond.methodLink own idx y ∈ vGT) (hs : SH b = some (.inl ci)) (hcl : (vwCl[ci]?).map (fun r => r.1) = some y.cls) (hR1 : vRo f lo mL (xR x)) (hd : decode cc pc = .ok (.invokevirtual idx, 3)) (hst : (st.map vcat).sum ≤ 8) (kk : vO x Q G cc own (pc + 3) ls st M1) : vO x Q G cc own pc ls (a3 :: a2 :: a1 :: a0 :: aR (some b) :: st) M :=
  v_callV4 ci hc k0 kl ki.1 ki.2 hs hcl hR1.rm hst hd (fun r sh' n' M' h => by obtain ⟨rfl, rfl, rfl, rfl⟩ := h; exact kk)
theorem oVp4 {a0 a1 a2 a3 : AV} {b : Nat} (ci : Nat) (hc : Co (xl x) y cy mL ret (rmo f lo) G [aR (some b), a0, a1, a2, a3] M P) (k0 : vK0 y cy mL ret 4) (ki : Cond.instanceMethod y ∈ vGT ∧ Cond.selects y.cls y y ∈ vGT) (kl : Cond.methodLink own idx y ∈ vGT) (hs : SH b = some (.inl ci)) (hcl : (vwCl[ci]?).map (fun r => r.1) = some y.cls) (hR1 : vRo f lo mL (xR x)) (hd : decode cc pc = .ok (.invokevirtual idx, 3)) (hst : (st.map vcat).sum ≤ 8) (kk : ∀ (r : Option AV) (M' : Mem), P r M' → vO x Q G cc own (pc + 3) ls (r.toList ++ st) M') : vO x Q G cc own pc ls (a3 :: a2 :: a1 :: a0 :: aR (some b) :: st) M :=
  v_callV4 ci hc k0 kl ki.1 ki.2 hs hcl hR1.rm hst hd (fun r sh' n' M' h => by obtain ⟨rfl, rfl, h⟩ := h; exact kk r M' h)
theorem v_ldcw {idx : Nat} {w : Int32} (z : Int) (hc : Cond.constant own idx w ∈ vGT) (hv : w = Int32.ofInt z) (hd : decode cc pc = .ok (.ldc_w idx, 3)) (k : vO x Q G cc own (pc + 3) ls (aI z :: st) M) : vO x Q G cc own pc ls st M :=
  fun C H locs la hR hS hL => lv_ldcw C.1 C.2.1 C.2.2.2.1 (C.2.2.2.2.1 _ hc) hd (by rw [hv]; exact k C H locs la hR hS hL)
theorem Co.ofV {l : Launch} {y : MethodName} {cy : ByteArray} {mL : Nat} {ret : Option FieldType} {f lo : Nat} {G : vGG} {As : List AV} {M : Mem} {P : Option AV → Mem → Prop} {ls : List (Option AV)}
    (hy : plainFor y = true) (hls : vent G As ++ List.replicate (mL - (vent G As).length) none = ls) (hlen : ls.length = mL)
    (body : ∀ x : vXX, xl x = l → xR x = rmo f lo → (xM x).locks = false → (xM x).sig.returnType = ret → ∀ Q : State → Prop, Q = MQ (xb x) (vQc G (vP P)) (xa x) (xs x) 0 0 (vnew G) → vO x Q G cy y.cls 0 ls [] M) :
    Co l y cy mL ret (rmo f lo) G As M P := Ct.ofV hy hls hlen (fun x h1 h2 h3 h4 _ Q hQ => body x h1 h2 h3 h4 Q hQ)
theorem o_iret {z : Int} (hQ : Q = MQ (xb x) (vQc G (vP P)) (xa x) (xs x) 0 0 (vnew G)) (hk : (xM x).locks = false) (hr : (xM x).sig.returnType = some .int) (hd : decode cc pc = .ok (.ireturn, 1)) (hp : P (some (aI z)) M) : vO x Q G cc own pc ls [aI z] M := v_iret hQ (Nat.le_refl _) (Nat.le_refl _) hk hr hd ⟨rfl, rfl, hp⟩
theorem o_zret {z : Int} (hQ : Q = MQ (xb x) (vQc G (vP P)) (xa x) (xs x) 0 0 (vnew G)) (hk : (xM x).locks = false) (hr : (xM x).sig.returnType = some .boolean) (hz : z = 0 ∨ z = 1) (hd : decode cc pc = .ok (.ireturn, 1)) (hp : P (some (aI z)) M) : vO x Q G cc own pc ls [aI z] M := v_zret hz hQ (Nat.le_refl _) (Nat.le_refl _) hk hr hd ⟨rfl, rfl, hp⟩
theorem o_lret {z : Int} (hQ : Q = MQ (xb x) (vQc G (vP P)) (xa x) (xs x) 0 0 (vnew G)) (hk : (xM x).locks = false) (hr : (xM x).sig.returnType = some .long) (hd : decode cc pc = .ok (.lreturn, 1)) (hp : P (some (aL z)) M) : vO x Q G cc own pc ls [aL z] M := v_lret hQ (Nat.le_refl _) (Nat.le_refl _) hk hr hd ⟨rfl, rfl, hp⟩
theorem o_ret (hQ : Q = MQ (xb x) (vQc G (vP P)) (xa x) (xs x) 0 0 (vnew G)) (hk : (xM x).locks = false) (hr : (xM x).sig.returnType = none) (hd : decode cc pc = .ok (.return_, 1)) (hp : P none M) : vO x Q G cc own pc ls [] M := v_ret hQ (Nat.le_refl _) (Nat.le_refl _) hk hr hd ⟨rfl, rfl, hp⟩
/-- an int array's value under another name -/
theorem o_iald {i len j : Nat} {z u : Int} (hs : SH i = some (.inr (0, len))) (hz : z = (j : Int)) (hj : j < len ∧ len ≤ 2147483647) (hu : M.1 i j = u) (hd : decode cc pc = .ok (.iaload, 1)) (kk : vO x Q G cc own (pc + 1) ls (aI u :: st) M) : vO x Q G cc own pc ls (aI z :: aR (some i) :: st) M := by
  subst hz
  refine v_iald hs (by omega) hd ?_
  rw [Int.toNat_natCast, hu]
  exact kk
theorem o_zald {i len j : Nat} {z u : Int} (hs : SH i = some (.inr (1, len))) (hz : z = (j : Int)) (hj : j < len ∧ len ≤ 2147483647) (hu : M.1 i j = u) (hd : decode cc pc = .ok (.baload, 1)) (kk : vO x Q G cc own (pc + 1) ls (aI u :: st) M) : vO x Q G cc own pc ls (aI z :: aR (some i) :: st) M := by
  subst hz
  refine v_zald hs (by omega) hd ?_
  rw [Int.toNat_natCast, hu]
  exact kk
theorem o_iast {i len j : Nat} {z u : Int} (hi : i < 1000) (hs : SH i = some (.inr (0, len))) (hz : z = (j : Int)) (hj : j < len ∧ len ≤ 2147483647) (hd : decode cc pc = .ok (.iastore, 1)) (kk : vO x Q G cc own (pc + 1) ls st (vup M.1 i j u, M.2)) : vO x Q G cc own pc ls (aI u :: aI z :: aR (some i) :: st) M := by
  subst hz
  refine v_iast hi hs (by omega) hd ?_
  rw [Int.toNat_natCast]
  exact kk
theorem o_zast {i len j : Nat} {z u : Int} (hu : u = 0 ∨ u = 1) (hi : i < 1000) (hs : SH i = some (.inr (1, len))) (hz : z = (j : Int)) (hj : j < len ∧ len ≤ 2147483647) (hd : decode cc pc = .ok (.bastore, 1)) (kk : vO x Q G cc own (pc + 1) ls st (vup M.1 i j u, M.2)) : vO x Q G cc own pc ls (aI u :: aI z :: aR (some i) :: st) M := by
  subst hz
  refine v_zast hu hi hs (by omega) hd ?_
  rw [Int.toNat_natCast]
  exact kk
theorem o_getI {k i ci : Nat} {u : Int} (hf : vLk own idx ci k) (hr : vrefF ci k = false) (hs : SH i = some (.inl ci)) (hu : M.1 i k = u) (hd : decode cc pc = .ok (.getfield idx, 3)) (kk : vO x Q G cc own (pc + 3) ls (aI u :: st) M) : vO x Q G cc own pc ls (aR (some i) :: st) M := by
  subst hu
  exact v_getI hf hr hs hd kk
/-- an int under another name -/
theorem o_eqI {z u : Int} (h : z = u) (kk : vO x Q G cc own pc ls (aI u :: st) M) : vO x Q G cc own pc ls (aI z :: st) M := h ▸ kk
theorem o_mem {M' : Mem} (h : M = M') (kk : vO x Q G cc own pc ls st M') : vO x Q G cc own pc ls st M := h ▸ kk
end VO
end
section
/-! ===== numbers: bits, rounding, ranges ===== -/
def bP (p : Prop) [Decidable p] : Int := if p then 1 else 0
theorem bP_t {p : Prop} [Decidable p] (h : p) : bP p = 1 := if_pos h
theorem bP_f {p : Prop} [Decidable p] (h : ¬ p) : bP p = 0 := if_neg h
theorem bP_01 (p : Prop) [Decidable p] : bP p = 0 ∨ bP p = 1 := by
  by_cases h : p
  · exact Or.inr (bP_t h)
  · exact Or.inl (bP_f h)
theorem bP_R (p : Prop) [Decidable p] : R32 (bP p) := by
  rcases bP_01 p with h | h <;> rw [h] <;> decide
theorem bP_0 {p : Prop} [Decidable p] : bP p = 0 ↔ ¬ p := by
  by_cases h : p
  · rw [bP_t h]; simp [h]
  · rw [bP_f h]; simp [h]
theorem bP_1 {p : Prop} [Decidable p] : bP p = 1 ↔ p := by
  by_cases h : p
  · rw [bP_t h]; simp [h]
  · rw [bP_f h]; simp [h]
theorem bP_n0 {p : Prop} [Decidable p] : ¬ bP p = 0 ↔ p := by rw [bP_0]; exact Decidable.not_not
theorem bP_congr {p q : Prop} [Decidable p] [Decidable q] (h : p ↔ q) : bP p = bP q := by
  by_cases hp : p
  · rw [bP_t hp, bP_t (h.mp hp)]
  · rw [bP_f hp, bP_f (fun hq => hp (h.mpr hq))]
def bt (z : Int) (k : Nat) : Bool := z.toNat.testBit k
theorem nu_of {z : Int} (h : 0 ≤ z) : Int32.ofInt z = nI z.toNat := by
  rw [nI, ← Int32.ofInt_eq_ofNat, Int.toNat_of_nonneg h]
theorem nu_nI {n : Nat} (h : n < 2147483648) : (nI n).toInt = (n : Int) := nI_toInt (by omega)
theorem nu_sh : ∀ n, n < 32 → ((nI n &&& 31).toBitVec.smod 32).toNat = n := by decide +kernel
theorem nu_1 : ((1 : Int32)).toBitVec.toNat = 2 ^ 1 - 1 := by decide
theorem nu_shr {z : Int} {k : Nat} (h0 : 0 ≤ z) (h1 : z ≤ 2147483647) (hk : k < 32) : vshr z (k : Int) = ((z.toNat / 2 ^ k : Nat) : Int) := by
  have hn : z.toNat < 2 ^ 31 := by omega
  unfold vshr
  rw [nu_of h0, nu_of (Int.natCast_nonneg k), Int.toNat_natCast, pk_shrN hn _ k (nu_sh k hk), nu_nI]
  exact Nat.lt_of_le_of_lt (Nat.div_le_self _ _) (by omega)
theorem nu_and {a b : Int} (h0 : 0 ≤ a) (h1 : a ≤ 2147483647) (h2 : 0 ≤ b) (h3 : b ≤ 2147483647) : vand a b = ((a.toNat &&& b.toNat : Nat) : Int) := by
  unfold vand
  rw [nu_of h0, nu_of h2]
  have e : nI a.toNat &&& nI b.toNat = nI (a.toNat &&& b.toNat) := by
    apply Int32.toBitVec.inj
    apply BitVec.eq_of_toNat_eq
    simp only [Int32.toBitVec_and, BitVec.toNat_and]
    rw [pk_tn (by omega), pk_tn (by omega), pk_tn (Nat.lt_of_le_of_lt Nat.and_le_left (by omega))]
  rw [e, nu_nI]
  exact Nat.lt_of_le_of_lt Nat.and_le_left (by omega)
theorem nu_or {a b : Int} (h0 : 0 ≤ a) (h1 : a ≤ 2147483647) (h2 : 0 ≤ b) (h3 : b ≤ 2147483647) : vor a b = ((a.toNat ||| b.toNat : Nat) : Int) := by
  unfold vor
  rw [nu_of h0, nu_of h2]
  have hlt : a.toNat ||| b.toNat < 2 ^ 31 := Nat.or_lt_two_pow (by omega) (by omega)
  have e : nI a.toNat ||| nI b.toNat = nI (a.toNat ||| b.toNat) := by
    apply Int32.toBitVec.inj
    apply BitVec.eq_of_toNat_eq
    simp only [Int32.toBitVec_or, BitVec.toNat_or]
    rw [pk_tn (by omega), pk_tn (by omega), pk_tn (by omega)]
  rw [e, nu_nI (by omega)]
theorem nu_shl {z : Int} {k : Nat} (h0 : 0 ≤ z) (hk : k < 32) (h : z.toNat * 2 ^ k < 2 ^ 31) : vshl z (k : Int) = ((z.toNat * 2 ^ k : Nat) : Int) := by
  unfold vshl
  rw [nu_of h0, nu_of (Int.natCast_nonneg k), Int.toNat_natCast, pk_shlN _ k (nu_sh k hk) (by omega), nu_nI (by omega)]
theorem nu_bit {z : Int} {k : Nat} (h0 : 0 ≤ z) (h1 : z ≤ 2147483647) (hk : k < 32) : vand (vshr z (k : Int)) 1 = bP (bt z k = true) := by
  rw [nu_shr h0 h1 hk, nu_and (Int.natCast_nonneg _) (by have := Nat.div_le_self z.toNat (2 ^ k); omega) (by decide) (by decide), Int.toNat_natCast]
  show ((z.toNat / 2 ^ k &&& 1 : Nat) : Int) = _
  rw [Nat.and_one_is_mod, bt, Nat.testBit_eq_decide_div_mod_eq]
  unfold bP
  have := Nat.mod_two_eq_zero_or_one (z.toNat / 2 ^ k)
  rcases this with h | h <;> simp [h]
def wth (s k : Nat) (on : Bool) : Nat := if on then s ||| 2 ^ k else s &&& (4294967295 - 2 ^ k)
theorem wth_bit {s k : Nat} (on : Bool) (hk : k < 32) (j : Nat) (hj : j < 32) : (wth s k on).testBit j = if j = k then on else s.testBit j := by
  unfold wth
  cases on with
  | true =>
    simp only [if_true, Nat.testBit_or, Nat.testBit_two_pow]
    by_cases h : j = k
    · subst h; simp
    · have : ¬ k = j := fun e => h e.symm
      simp [h, this]
  | false =>
    have e : (4294967295 - 2 ^ k) = 2 ^ 32 - (2 ^ k + 1) := by omega
    simp only [Bool.false_eq_true, if_false, Nat.testBit_and]
    rw [e, Nat.testBit_two_pow_sub_succ (Nat.pow_lt_pow_right (by decide) hk), Nat.testBit_two_pow]
    by_cases h : j = k
    · subst h; simp
    · have : ¬ k = j := fun e => h e.symm
      simp [h, this, hj]
theorem wth_lt {s k : Nat} (on : Bool) (hs : s < 16777216) (hk : k < 24) : wth s k on < 16777216 := by
  unfold wth
  cases on with
  | true => exact Nat.or_lt_two_pow (n := 24) hs (Nat.pow_lt_pow_right (by decide) hk)
  | false => exact Nat.lt_of_le_of_lt Nat.and_le_left hs
theorem wth_lt8 {s k : Nat} (on : Bool) (hs : s < 256) (hk : k < 8) : wth s k on < 256 := by
  unfold wth
  cases on with
  | true => exact Nat.or_lt_two_pow (n := 8) hs (Nat.pow_lt_pow_right (by decide) hk)
  | false => exact Nat.lt_of_le_of_lt Nat.and_le_left hs
theorem nu_p2 {k : Nat} (hk : k < 31) : 2 ^ k ≤ 1073741824 := Nat.pow_le_pow_right (by decide) (show k ≤ 30 by omega)
theorem nu_on {z : Int} {k : Nat} (h0 : 0 ≤ z) (h1 : z ≤ 2147483647) (hk : k < 31) : vor z (vshl 1 (k : Int)) = ((wth z.toNat k true : Nat) : Int) := by
  have h2 := nu_p2 hk
  have e : vshl 1 (k : Int) = ((2 ^ k : Nat) : Int) := by
    rw [nu_shl (by decide) (by omega) (by show 1 * 2 ^ k < _; omega)]
    show ((1 * 2 ^ k : Nat) : Int) = _
    rw [Nat.one_mul]
  rw [e, nu_or h0 h1 (Int.natCast_nonneg _) (by omega), Int.toNat_natCast]
  rfl
theorem nu_off {z : Int} {k : Nat} (h0 : 0 ≤ z) (h1 : z ≤ 2147483647) (hk : k < 31) : vand z (vxor (vshl 1 (k : Int)) (-1)) = ((wth z.toNat k false : Nat) : Int) := by
  have h2 := nu_p2 hk
  have e : vshl 1 (k : Int) = ((2 ^ k : Nat) : Int) := by
    rw [nu_shl (by decide) (by omega) (by show 1 * 2 ^ k < _; omega)]
    show ((1 * 2 ^ k : Nat) : Int) = _
    rw [Nat.one_mul]
  rw [e]
  unfold vand vxor
  rw [Int32.ofInt_toInt, nu_of h0, nu_of (Int.natCast_nonneg _), Int.toNat_natCast]
  have e2 : nI z.toNat &&& (nI (2 ^ k) ^^^ Int32.ofInt (-1)) = nI (wth z.toNat k false) := by
    apply Int32.toBitVec.inj
    apply BitVec.eq_of_toNat_eq
    have hx : (nI (2 ^ k) ^^^ Int32.ofInt (-1)).toBitVec = ~~~ (nI (2 ^ k)).toBitVec := by
      have hm : (Int32.ofInt (-1)).toBitVec = BitVec.allOnes 32 := by decide
      rw [Int32.toBitVec_xor, hm, BitVec.xor_allOnes]
    have hw : wth z.toNat k false < 2 ^ 32 := by
      simp only [wth, Bool.false_eq_true, if_false]
      exact Nat.lt_of_le_of_lt Nat.and_le_left (by omega)
    rw [Int32.toBitVec_and, hx, BitVec.toNat_and, BitVec.toNat_not, pk_tn (by omega), pk_tn (by omega), pk_tn hw]
    simp only [wth, Bool.false_eq_true, if_false]
  rw [e2, nu_nI]
  exact Nat.lt_of_le_of_lt Nat.and_le_left (by omega)
/-- division of whole numbers, rounded down, by the machine's -/
theorem nu_tdiv {a b : Int} (ha : 0 ≤ a) : a.tdiv b = a / b := Int.tdiv_eq_ediv_of_nonneg ha
theorem nu_fdiv {a b : Int} (hb : 0 < b) : a / b = if a.tmod b < 0 then a.tdiv b - 1 else a.tdiv b := by
  by_cases h0 : 0 ≤ a
  · rw [Int.tdiv_eq_ediv_of_nonneg h0, Int.tmod_eq_emod_of_nonneg h0, if_neg]
    have := Int.emod_nonneg a (show b ≠ 0 by omega)
    omega
  · have e1 : a.tdiv b = -((-a) / b) := by
      rw [← Int.tdiv_eq_ediv_of_nonneg (show 0 ≤ -a by omega), Int.neg_tdiv, Int.neg_neg]
    have e2 : a.tmod b = -((-a) % b) := by
      rw [← Int.tmod_eq_emod_of_nonneg (show 0 ≤ -a by omega), Int.neg_tmod, Int.neg_neg]
    rw [e1, e2]
    have h1 := Int.emod_nonneg (-a) (show b ≠ 0 by omega)
    have h2 := Int.emod_lt_of_pos (-a) hb
    have h3 := Int.mul_ediv_add_emod (-a) b
    have h4 := Int.mul_ediv_add_emod a b
    have h5 := Int.emod_nonneg a (show b ≠ 0 by omega)
    have h6 := Int.emod_lt_of_pos a hb
    generalize (-a) / b = q at *
    generalize (-a) % b = r at *
    generalize a / b = q2 at *
    generalize a % b = r2 at *
    by_cases hr : r = 0
    · rw [if_neg (by omega)]
      subst hr
      have h7 : b * (q + q2) + r2 = 0 := by rw [Int.mul_add]; omega
      have h8 : q + q2 = 0 := by
        rcases Int.lt_trichotomy (q + q2) 0 with h | h | h
        · have := Int.mul_le_mul_of_nonneg_left (show q + q2 ≤ -1 by omega) (show 0 ≤ b by omega)
          omega
        · exact h
        · have := Int.mul_le_mul_of_nonneg_left (show 1 ≤ q + q2 by omega) (show 0 ≤ b by omega)
          omega
      omega
    · rw [if_pos (by omega)]
      have h7 : b * (q + q2) + (r + r2) = 0 := by rw [Int.mul_add]; omega
      have h8 : q + q2 = -1 := by
        rcases Int.lt_trichotomy (q + q2) (-1) with h | h | h
        · have := Int.mul_le_mul_of_nonneg_left (show q + q2 ≤ -2 by omega) (show 0 ≤ b by omega)
          omega
        · exact h
        · have := Int.mul_le_mul_of_nonneg_left (show 0 ≤ q + q2 by omega) (show 0 ≤ b by omega)
          omega
      omega
theorem nu_xs {a b : Int} (ha : R32 a) (hb : 0 ≤ b ∧ b ≤ 2147483647) : (vxor a b < 0) ↔ a < 0 := by
  have key : ∀ z : Int32, z.toInt < 0 ↔ z.toBitVec.msb = true := fun z => by
    show z.toBitVec.toInt < 0 ↔ _
    rw [BitVec.msb_eq_toInt]
    simp
  unfold vxor
  rw [key, Int32.toBitVec_xor, BitVec.msb_xor]
  have h1 := key (Int32.ofInt a)
  have h2 := key (Int32.ofInt b)
  rw [Int32.toInt_ofInt_of_le (by omega) (by omega)] at h1 h2
  have hb2 : (Int32.ofInt b).toBitVec.msb = false := by
    cases h : (Int32.ofInt b).toBitVec.msb with
    | false => rfl
    | true => have := h2.mpr h; omega
  rw [hb2, Bool.xor_false]
  exact h1.symm
theorem vRo_of {R : Room} {f lo mL F LO : Nat} (h : R = rmo F LO) (h1 : f + 1 ≤ F) (h2 : 8 + (mL + 11) + lo ≤ LO) : vRo f lo mL R := by
  subst h; exact ⟨h1, h2⟩
end
section
/-! ===== counting bits; the octave coupler's bits ===== -/
def pcf : Nat → Nat → Nat
  | 0, _ => 0
  | n + 1, z => z % 2 + pcf n (z / 2)
def pc (z : Nat) : Nat := pcf 24 z
theorem pcf_le : ∀ n z, pcf n z ≤ n
  | 0, _ => Nat.le_refl _
  | n + 1, z => by
    have := pcf_le n (z / 2)
    simp only [pcf]
    omega
theorem pcf_0 : ∀ n, pcf n 0 = 0
  | 0 => rfl
  | n + 1 => by simp [pcf, pcf_0 n]
theorem and_pred_odd (m : Nat) : (2 * m + 1) &&& (2 * m) = 2 * m := by
  apply Nat.eq_of_testBit_eq
  intro i
  rw [Nat.testBit_and]
  cases i with
  | zero => simp
  | succ i =>
    rw [Nat.testBit_succ, Nat.testBit_succ, show (2 * m + 1) / 2 = m by omega, show 2 * m / 2 = m by omega, Bool.and_self]
theorem and_pred_even {m : Nat} (h : 0 < m) : (2 * m) &&& (2 * m - 1) = 2 * (m &&& (m - 1)) := by
  apply Nat.eq_of_testBit_eq
  intro i
  rw [Nat.testBit_and]
  cases i with
  | zero => simp
  | succ i =>
    rw [Nat.testBit_succ, Nat.testBit_succ, Nat.testBit_succ, show 2 * m / 2 = m by omega, show (2 * m - 1) / 2 = m - 1 by omega, show 2 * (m &&& (m - 1)) / 2 = m &&& (m - 1) by omega, Nat.testBit_and]
theorem pcf_step : ∀ n z, 0 < z → z < 2 ^ n → pcf n (z &&& (z - 1)) + 1 = pcf n z
  | 0, z, h0, h => by simp at h; omega
  | n + 1, z, h0, h => by
    rw [Nat.pow_succ] at h
    rcases Nat.mod_two_eq_zero_or_one z with e | e
    · have hz : z = 2 * (z / 2) := by omega
      have h2 : 0 < z / 2 := by omega
      have key := and_pred_even h2
      rw [← hz] at key
      rw [key, pcf, pcf, Nat.mul_mod_right, Nat.mul_div_cancel_left _ (by decide), Nat.zero_add, pcf_step n (z / 2) h2 (by omega)]
      omega
    · have hz : z = 2 * (z / 2) + 1 := by omega
      have key := and_pred_odd (z / 2)
      rw [← hz] at key
      have h3 : z - 1 = 2 * (z / 2) := by omega
      rw [h3, key, pcf, pcf, Nat.mul_mod_right, Nat.mul_div_cancel_left _ (by decide)]
      omega
theorem pcf_bits : ∀ n z, pcf n z = (List.range n).countP (fun i => z.testBit i)
  | 0, _ => rfl
  | n + 1, z => by
    rw [pcf, pcf_bits n (z / 2), List.range_succ_eq_map, List.countP_cons, List.countP_map]
    have e : ((fun i => z.testBit i) ∘ Nat.succ) = fun i => (z / 2).testBit i := by
      funext i
      show z.testBit (i + 1) = _
      rw [Nat.testBit_succ]
    rw [e, Nat.testBit_zero]
    rcases Nat.mod_two_eq_zero_or_one z with h | h <;> simp [h] <;> omega
theorem pcf_add : ∀ n m z, pcf (n + m) z = pcf n z + pcf m (z / 2 ^ n)
  | 0, m, z => by simp [pcf]
  | n + 1, m, z => by
    rw [show n + 1 + m = (n + m) + 1 by omega, pcf, pcf, pcf_add n m (z / 2), Nat.div_div_eq_div_mul, Nat.pow_succ, Nat.mul_comm (2 ^ n) 2]
    omega
theorem pcf_mod : ∀ n z, pcf n (z % 2 ^ n) = pcf n z
  | 0, _ => rfl
  | n + 1, z => by
    rw [pcf, pcf, Nat.pow_succ, Nat.mul_comm, Nat.mod_mul_right_div_self, pcf_mod n (z / 2), Nat.mod_mul_right_mod]
theorem pc_0 : pc 0 = 0 := pcf_0 24
theorem pc_le (z : Nat) : pc z ≤ 24 := pcf_le 24 z
/-- the twin's step: the lowest bit goes -/
theorem nu_low {z : Int} (h0 : 0 < z) (h1 : z < 16777216) : vand z (z - 1) = ((z.toNat &&& (z.toNat - 1) : Nat) : Int) := by
  rw [nu_and (by omega) (by omega) (by omega) (by omega), show (z - 1).toNat = z.toNat - 1 by omega]
/-! the JDK's bitCount, by fields -/
theorem and_256 {a b c d : Nat} (hb : b < 256) (hd : d < 256) : (256 * a + b) &&& (256 * c + d) = 256 * (a &&& c) + (b &&& d) := by
  apply Nat.eq_of_testBit_eq
  intro i
  have e := @Nat.testBit_two_pow_mul_add
  rw [Nat.testBit_and, show (256 : Nat) = 2 ^ 8 from rfl, e a hb i, e c hd i, e (a &&& c) (Nat.lt_of_le_of_lt Nat.and_le_left hb) i, Nat.testBit_and, Nat.testBit_and]
  by_cases h : i < 8 <;> simp [h]
def bc1 (m z : Nat) : Nat := z - (z / 2 &&& m)
def bc2 (m z : Nat) : Nat := (z &&& m) + (z / 4 &&& m)
def bc3 (m z : Nat) : Nat := (z + z / 16) &&& m
theorem bc_t0 : (List.range 256).all (fun z => decide (128 + z / 2 < 256) && decide ((128 + z / 2) &&& 85 = z / 2 &&& 85) && decide (bc1 85 z < 256)) = true := by decide +kernel
theorem bc_t1 : (List.range 256).all (fun z => (List.range 4).all fun r => decide ((64 * r + z / 4) &&& 51 = z / 4 &&& 51)) = true := by decide +kernel
theorem bc_t2 : (List.range 256).all (fun z => decide (bc2 51 (bc1 85 z) ≤ 68) && decide (bc2 51 (bc1 85 z) % 16 ≤ 4) && decide (bc3 15 (bc2 51 (bc1 85 z)) = pcf 8 z)) = true := by decide +kernel
theorem bc_t3 : (List.range 69).all (fun z => (List.range 5).all fun r => decide ((z + (16 * r + z / 16)) &&& 15 = (z + z / 16) &&& 15)) = true := by decide +kernel
theorem bc_r {n : Nat} {p : Nat → Bool} (h : (List.range n).all p = true) {z : Nat} (hz : z < n) : p z = true := List.all_eq_true.mp h z (List.mem_range.mpr hz)
theorem bc_1 (m h : Nat) {l : Nat} (hl : l < 256) : bc1 (256 * m + 85) (256 * h + l) = 256 * bc1 m h + bc1 85 l := by
  have t := bc_r bc_t0 hl
  simp only [Bool.and_eq_true, decide_eq_true_eq] at t
  unfold bc1
  have hle : (h / 2 &&& m) ≤ h := Nat.le_trans Nat.and_le_left (Nat.div_le_self _ _)
  have hle2 : (l / 2 &&& 85) ≤ l := Nat.le_trans Nat.and_le_left (Nat.div_le_self _ _)
  have e : (256 * h + l) / 2 = 256 * (h / 2) + (128 * (h % 2) + l / 2) := by omega
  rw [e, and_256 (by omega) (by decide)]
  have e2 : (128 * (h % 2) + l / 2) &&& 85 = l / 2 &&& 85 := by
    rcases Nat.mod_two_eq_zero_or_one h with q | q <;> rw [q]
    · simp
    · exact t.1.2
  rw [e2]
  omega
theorem bc_2 (m h : Nat) {l : Nat} (hl : l < 256) : bc2 (256 * m + 51) (256 * h + l) = 256 * bc2 m h + bc2 51 l := by
  unfold bc2
  have e : (256 * h + l) / 4 = 256 * (h / 4) + (64 * (h % 4) + l / 4) := by omega
  rw [e, and_256 hl (by decide), and_256 (by omega) (by decide)]
  have t := bc_r bc_t1 hl
  have t2 := bc_r t (show h % 4 < 4 by omega)
  simp only [decide_eq_true_eq] at t2
  rw [t2]
  omega
theorem bc_3 (m h : Nat) {l : Nat} (hl : l ≤ 68) (hh : h % 16 ≤ 4) : bc3 (256 * m + 15) (256 * h + l) = 256 * bc3 m h + bc3 15 l := by
  unfold bc3
  have e : (256 * h + l) + (256 * h + l) / 16 = 256 * (h + h / 16) + (l + (16 * (h % 16) + l / 16)) := by omega
  rw [e, and_256 (by omega) (by decide)]
  have t := bc_r bc_t3 (show l < 69 by omega)
  have t2 := bc_r t (show h % 16 < 5 by omega)
  simp only [decide_eq_true_eq] at t2
  rw [t2]
theorem bc_all {z : Nat} (hz : z < 16777216) : bc3 252645135 (bc2 858993459 (bc1 1431655765 z)) = 65536 * pcf 8 (z / 65536) + 256 * pcf 8 (z / 256 % 256) + pcf 8 (z % 256) := by
  have ea := bc_r bc_t2 (show z / 65536 < 256 by omega)
  have eb := bc_r bc_t2 (show z / 256 % 256 < 256 by omega)
  have ec := bc_r bc_t2 (show z % 256 < 256 by omega)
  have da := bc_r bc_t0 (show z / 65536 < 256 by omega)
  have db := bc_r bc_t0 (show z / 256 % 256 < 256 by omega)
  have dc := bc_r bc_t0 (show z % 256 < 256 by omega)
  simp only [Bool.and_eq_true, decide_eq_true_eq] at ea eb ec da db dc
  have hz3 : z = 256 * (256 * (z / 65536) + z / 256 % 256) + z % 256 := by omega
  have hbyte : ∀ (M m x : Nat), x < 256 → M = 256 * m + 85 → bc1 M x = bc1 85 x := by
    intro M m x hx hM
    have := bc_1 m 0 hx
    rw [Nat.mul_zero, Nat.zero_add] at this
    rw [hM, this]
    simp [bc1]
  have hbyte2 : ∀ (M m x : Nat), x < 256 → M = 256 * m + 51 → bc2 M x = bc2 51 x := by
    intro M m x hx hM
    have := bc_2 m 0 hx
    rw [Nat.mul_zero, Nat.zero_add] at this
    rw [hM, this]
    simp [bc2]
  have hbyte3 : ∀ (M m x : Nat), x ≤ 68 → M = 256 * m + 15 → bc3 M x = bc3 15 x := by
    intro M m x hx hM
    have := bc_3 m 0 hx (by decide)
    rw [Nat.mul_zero, Nat.zero_add] at this
    rw [hM, this]
    simp [bc3]
  have s1 : bc1 1431655765 z = 256 * (256 * bc1 85 (z / 65536) + bc1 85 (z / 256 % 256)) + bc1 85 (z % 256) := by
    rw [show (1431655765 : Nat) = 256 * 5592405 + 85 from rfl]
    conv => lhs; rw [hz3]
    rw [bc_1 _ _ (by omega), show (5592405 : Nat) = 256 * 21845 + 85 from rfl, bc_1 _ _ (by omega), hbyte 21845 85 _ (by omega) rfl]
  have s2 : bc2 858993459 (bc1 1431655765 z) = 256 * (256 * bc2 51 (bc1 85 (z / 65536)) + bc2 51 (bc1 85 (z / 256 % 256))) + bc2 51 (bc1 85 (z % 256)) := by
    rw [s1, show (858993459 : Nat) = 256 * 3355443 + 51 from rfl, bc_2 _ _ dc.2, show (3355443 : Nat) = 256 * 13107 + 51 from rfl, bc_2 _ _ db.2, hbyte2 13107 51 _ da.2 rfl]
  rw [s2, show (252645135 : Nat) = 256 * 986895 + 15 from rfl, bc_3 _ _ ec.1.1 (by omega), show (986895 : Nat) = 256 * 3855 + 15 from rfl, bc_3 _ _ eb.1.1 ea.1.2, hbyte3 3855 15 _ ea.1.1 rfl, ea.2, eb.2, ec.2]
  omega
theorem bc_end {z : Nat} (hz : z < 16777216) : ∀ x, x = bc3 252645135 (bc2 858993459 (bc1 1431655765 z)) → (x + x / 256) + (x + x / 256) / 65536 &&& 63 = pc z := by
  intro x hx
  have h1 := pcf_le 8 (z / 65536)
  have h2 := pcf_le 8 (z / 256 % 256)
  have h3 := pcf_le 8 (z % 256)
  rw [bc_all hz] at hx
  have e : pc z = pcf 8 (z % 256) + pcf 8 (z / 256 % 256) + pcf 8 (z / 65536) := by
    show pcf (8 + (8 + 8)) z = _
    rw [pcf_add 8 (8 + 8), pcf_add 8 8, Nat.div_div_eq_div_mul]
    have q1 : pcf 8 (z % 256) = pcf 8 z := pcf_mod 8 z
    have q2 : pcf 8 (z / 256 % 256) = pcf 8 (z / 256) := pcf_mod 8 (z / 256)
    show pcf 8 z + (pcf 8 (z / 256) + pcf 8 (z / 65536)) = _
    rw [q1, q2]
    omega
  rw [e]
  generalize pcf 8 (z / 65536) = A at *
  generalize pcf 8 (z / 256 % 256) = B at *
  generalize pcf 8 (z % 256) = C at *
  have y1 : x + x / 256 = 65536 * A + 256 * (A + B) + (B + C) := by omega
  rw [y1]
  have y2 : (65536 * A + 256 * (A + B) + (B + C)) / 65536 = A := by omega
  rw [y2, show (63 : Nat) = 2 ^ 6 - 1 from rfl, Nat.and_two_pow_sub_one_eq_mod]
  omega
theorem nu_ushr {z : Int} {k : Nat} (h0 : 0 ≤ z) (h1 : z ≤ 2147483647) (hk : k < 32) : vushr z (k : Int) = ((z.toNat / 2 ^ k : Nat) : Int) := by
  unfold vushr
  have hs : ∀ n, n < 32 → (((nI n).toUInt32 &&& Int32.toUInt32 31).toBitVec % 32).toNat = n := by decide +kernel
  rw [nu_of h0, nu_of (Int.natCast_nonneg k), Int.toNat_natCast, pk_ushrN (by omega) _ k (hs k hk), nu_nI]
  exact Nat.lt_of_le_of_lt (Nat.div_le_self _ _) (by omega)
/-- the octave coupler: pressed keys and those twelve higher -/
def kOct (f : Nat) : Nat := (f ||| (f * 4096 % 4294967296)) &&& 16777215
theorem kOct_x {f : Nat} (h : f < 16777216) : f ||| (f * 4096 % 4294967296 &&& 16777215) = kOct f := by
  unfold kOct
  rw [Nat.and_or_distrib_right, show (16777215 : Nat) = 2 ^ 24 - 1 from rfl, Nat.and_two_pow_sub_one_eq_mod f, Nat.mod_eq_of_lt h]
theorem kOct_lt (f : Nat) : kOct f < 16777216 := by
  unfold kOct
  rw [show (16777215 : Nat) = 2 ^ 24 - 1 from rfl, Nat.and_two_pow_sub_one_eq_mod]
  exact Nat.mod_lt _ (by decide)
theorem nu_shB {z : Int} (h0 : 0 ≤ z) (h1 : z < 16777216) : (Int32.ofInt (vshl z 12)).toBitVec.toNat = z.toNat * 4096 % 4294967296 := by
  unfold vshl
  rw [Int32.ofInt_toInt, pk_shl _ _ 12 (by decide), nu_of h0, pk_tn (by omega)]
theorem nu_cast {w : Int32} {n : Nat} (h : w.toBitVec.toNat = n) (hn : n < 2147483648) : w.toInt = (n : Int) := by
  have e : w = nI n := by
    apply Int32.toBitVec.inj
    apply BitVec.eq_of_toNat_eq
    rw [h, pk_tn (by omega)]
  rw [e, nu_nI hn]
theorem nu_octM {z : Int} (h0 : 0 ≤ z) (h1 : z < 16777216) : vand (vor z (vshl z 12)) 16777215 = (kOct z.toNat : Int) := by
  have hs := nu_shB h0 h1
  generalize vshl z 12 = w at hs
  unfold vand vor
  rw [Int32.ofInt_toInt]
  refine nu_cast ?_ (Nat.lt_trans (kOct_lt _) (by decide))
  rw [Int32.toBitVec_and, BitVec.toNat_and, Int32.toBitVec_or, BitVec.toNat_or, hs, nu_of h0, pk_tn (by omega)]
  rfl
theorem nu_octX {z : Int} (h0 : 0 ≤ z) (h1 : z < 16777216) : vor z (vand (vshl z 12) 16777215) = (kOct z.toNat : Int) := by
  have hs := nu_shB h0 h1
  generalize vshl z 12 = w at hs
  unfold vand vor
  rw [Int32.ofInt_toInt]
  refine nu_cast ?_ (Nat.lt_trans (kOct_lt _) (by decide))
  rw [Int32.toBitVec_or, BitVec.toNat_or, Int32.toBitVec_and, BitVec.toNat_and, hs, nu_of h0, pk_tn (by omega)]
  exact kOct_x (by omega)
theorem nu_noct {z : Int} (h0 : 0 ≤ z) (h1 : z < 16777216) : vand (vor z 0) 16777215 = z := by
  rw [nu_or h0 (by omega) (by decide) (by decide), nu_and (Int.natCast_nonneg _) (by simp; omega) (by decide) (by decide), Int.toNat_natCast]
  show (((z.toNat ||| 0) &&& 16777215 : Nat) : Int) = z
  rw [Nat.or_zero, show (16777215 : Nat) = 2 ^ 24 - 1 from rfl, Nat.and_two_pow_sub_one_eq_mod, Nat.mod_eq_of_lt (by omega)]
  omega
theorem nu_cp2 {z : Int} (h0 : 0 ≤ z) (h1 : z ≤ 3) : vand z 2 = 2 ↔ 2 ≤ z := by
  rcases (show z = 0 ∨ z = 1 ∨ z = 2 ∨ z = 3 by omega) with rfl | rfl | rfl | rfl <;> decide
theorem nu_cp1 {z : Int} (h0 : 0 ≤ z) (h1 : z ≤ 3) : vand z 1 = 1 ↔ z % 2 = 1 := by
  rcases (show z = 0 ∨ z = 1 ∨ z = 2 ∨ z = 3 by omega) with rfl | rfl | rfl | rfl <;> decide
theorem vand_R (a b : Int) : R32 (vand a b) := i32_T _
theorem vor_R (a b : Int) : R32 (vor a b) := i32_T _
theorem vshr_R (a b : Int) : R32 (vshr a b) := i32_T _
theorem vshl_R (a b : Int) : R32 (vshl a b) := i32_T _
end
section
/-! ===== what the twin's row of 264 numbers says ===== -/
abbrev Sg : Type := Nat → Int
def sMan (v : Sg) (s : Nat) : Nat := (v (24 + 5 * s)).toNat
def sNeed (v : Sg) (s k : Nat) : Int := v (24 + 5 * s + 1) + (23 - (k : Int)) / 4
def sRes (v : Sg) : Int := if v 4 ≤ v 0 then v 1 else v 1 * v 0 / v 4
def sFst (v : Sg) (pr : Bool) : Nat := if pr then (v 11).toNat else 0
def sSnd (v : Sg) (pr : Bool) : Nat := if pr then (v 12).toNat else 0
def sAct0 (v : Sg) (pr : Bool) : Nat := if 2 ≤ v 10 then kOct (sFst v pr) else sFst v pr
def sAct1 (v : Sg) (pr : Bool) : Nat := if v 10 % 2 = 1 then sSnd v pr ||| sAct0 v pr else sSnd v pr
def sAct (v : Sg) (pr : Bool) (m : Nat) : Nat := if m = 0 then sAct0 v pr else sAct1 v pr
def sOpn (v : Sg) (st : Nat) (pr : Bool) (s : Nat) : Nat := if st.testBit s = true then sAct v pr (sMan v s) ||| (v (256 + s)).toNat else 0
def sNa (v : Sg) (st : Nat) (pr : Bool) (s k : Nat) : Int := if (sOpn v st pr s).testBit k = true then sNeed v s k else 0
def sNs (v : Sg) (st : Nat) (pr : Bool) (m : Nat) : Nat → Int
  | 0 => 0
  | p + 1 => sNs v st pr m p + (if sMan v (p / 24) = m then sNa v st pr (p / 24) (p % 24) else 0)
def sPr (v : Sg) (st : Nat) (pr : Bool) (m : Nat) : Int := max 0 (sRes v - sNs v st pr m 192 * v (2 + m) / 100)
def sAk (v : Sg) (st : Nat) (pr : Bool) (s k : Nat) : Int := if (sOpn v st pr s).testBit k = true then sNeed v s k * sPr v st pr (sMan v s) / v 1 else 0
def sAs (v : Sg) (st : Nat) (pr : Bool) (p : Nat) : Int := sAk v st pr (p / 24) (p % 24)
def sLf (v : Sg) (st : Nat) (pr : Bool) : Nat → Int
  | 0 => v 0
  | p + 1 => sLf v st pr p - min (sAs v st pr p) (sLf v st pr p)
def sGt (v : Sg) (st : Nat) (pr : Bool) (p : Nat) : Int := min (sAs v st pr p) (sLf v st pr p)
def sRs (v : Sg) (st : Nat) (pr : Bool) (s k : Nat) : Int :=
  if st.testBit s = false then 1 else if (sOpn v st pr s).testBit k = false then 2 else if sPr v st pr (sMan v s) < v (24 + 5 * s + 2) then 3 else if sGt v st pr (24 * s + k) < sAs v st pr (24 * s + k) then 4 else if sAs v st pr (24 * s + k) = 0 then 5 else 0
def sBend (v : Sg) (st : Nat) (pr : Bool) (s : Nat) : Int := (sPr v st pr (sMan v s) - v 1) * v 9 / 16
def sPitch (v : Sg) (st : Nat) (pr : Bool) (s k : Nat) : Int := v (64 + 24 * s + k) + sBend v st pr s
def sDr (v : Sg) : Nat → Nat
  | 0 => 0
  | s + 1 => sDr v s + (v (24 + 5 * s + 3)).toNat * 2 ^ s
def sDrw (v : Sg) : Nat := sDr v 8
def sCi (v : Sg) : Nat → Nat
  | 0 => 0
  | s + 1 => sCi v s + pc (v (256 + s)).toNat
/-- the ranges that a state keeps to -/
def sInv (v : Sg) : Prop :=
  (∀ s, s < 8 → (0 ≤ v (24 + 5 * s) ∧ v (24 + 5 * s) ≤ 1) ∧ (1 ≤ v (24 + 5 * s + 1) ∧ v (24 + 5 * s + 1) ≤ 40) ∧ (0 ≤ v (24 + 5 * s + 2) ∧ v (24 + 5 * s + 2) ≤ 200) ∧ (0 ≤ v (24 + 5 * s + 3) ∧ v (24 + 5 * s + 3) ≤ 1) ∧ (0 ≤ v (256 + s) ∧ v (256 + s) < 16777216)) ∧
  (sCi v 8 ≤ 6) ∧ (∀ p, p < 192 → -200 ≤ v (64 + p) ∧ v (64 + p) ≤ 200) ∧
  ((20 ≤ v 1 ∧ v 1 ≤ 200) ∧ (0 ≤ v 2 ∧ v 2 ≤ 100) ∧ (0 ≤ v 3 ∧ v 3 ≤ 100) ∧ (100 ≤ v 4 ∧ v 4 ≤ 2000) ∧ (1000 ≤ v 5 ∧ v 5 ≤ 20000) ∧ (0 ≤ v 6 ∧ v 6 ≤ 20000) ∧ (10 ≤ v 7 ∧ v 7 ≤ 500) ∧ (1 ≤ v 8 ∧ v 8 ≤ 8) ∧ (0 ≤ v 9 ∧ v 9 ≤ 32)) ∧
  ((0 ≤ v 10 ∧ v 10 ≤ 3) ∧ (0 ≤ v 11 ∧ v 11 < 16777216) ∧ (0 ≤ v 12 ∧ v 12 < 16777216)) ∧
  ((0 ≤ v 0 ∧ v 0 ≤ 20000) ∧ (0 ≤ v 17 ∧ v 17 ≤ 1) ∧ (0 ≤ v 22 ∧ v 22 ≤ 8) ∧ (0 ≤ v 20 ∧ v 20 ≤ 500) ∧ (0 < v 22 → 1 ≤ v 21 ∧ v 21 ≤ 8 ∧ 0 ≤ v 23 ∧ v 23 ≤ 500 ∧ v 22 * (v 23 / v 21) ≤ v 20))
theorem iv_st {v : Sg} (h : sInv v) {s : Nat} (hs : s < 8) : (0 ≤ v (24 + 5 * s) ∧ v (24 + 5 * s) ≤ 1) ∧ (1 ≤ v (24 + 5 * s + 1) ∧ v (24 + 5 * s + 1) ≤ 40) ∧ (0 ≤ v (24 + 5 * s + 2) ∧ v (24 + 5 * s + 2) ≤ 200) ∧ (0 ≤ v (24 + 5 * s + 3) ∧ v (24 + 5 * s + 3) ≤ 1) ∧ (0 ≤ v (256 + s) ∧ v (256 + s) < 16777216) := h.1 s hs
theorem iv_set {v : Sg} (h : sInv v) : (20 ≤ v 1 ∧ v 1 ≤ 200) ∧ (0 ≤ v 2 ∧ v 2 ≤ 100) ∧ (0 ≤ v 3 ∧ v 3 ≤ 100) ∧ (100 ≤ v 4 ∧ v 4 ≤ 2000) ∧ (1000 ≤ v 5 ∧ v 5 ≤ 20000) ∧ (0 ≤ v 6 ∧ v 6 ≤ 20000) ∧ (10 ≤ v 7 ∧ v 7 ≤ 500) ∧ (1 ≤ v 8 ∧ v 8 ≤ 8) ∧ (0 ≤ v 9 ∧ v 9 ≤ 32) := h.2.2.2.1
theorem iv_key {v : Sg} (h : sInv v) : (0 ≤ v 10 ∧ v 10 ≤ 3) ∧ (0 ≤ v 11 ∧ v 11 < 16777216) ∧ (0 ≤ v 12 ∧ v 12 < 16777216) := h.2.2.2.2.1
theorem iv_bel {v : Sg} (h : sInv v) : (0 ≤ v 0 ∧ v 0 ≤ 20000) ∧ (0 ≤ v 17 ∧ v 17 ≤ 1) ∧ (0 ≤ v 22 ∧ v 22 ≤ 8) ∧ (0 ≤ v 20 ∧ v 20 ≤ 500) ∧ (0 < v 22 → 1 ≤ v 21 ∧ v 21 ≤ 8 ∧ 0 ≤ v 23 ∧ v 23 ≤ 500 ∧ v 22 * (v 23 / v 21) ≤ v 20) := h.2.2.2.2.2
theorem iv_off {v : Sg} (h : sInv v) {p : Nat} (hp : p < 192) : -200 ≤ v (64 + p) ∧ v (64 + p) ≤ 200 := h.2.2.1 p hp
theorem iv_ci {v : Sg} (h : sInv v) : sCi v 8 ≤ 6 := h.2.1
theorem iv_los {v : Sg} (h : sInv v) {m : Nat} (hm : m < 2) : 0 ≤ v (2 + m) ∧ v (2 + m) ≤ 100 := by
  have := iv_set h
  rcases (show m = 0 ∨ m = 1 by omega) with rfl | rfl
  · exact this.2.1
  · exact this.2.2.1
theorem sMan_lt {v : Sg} (h : sInv v) {s : Nat} (hs : s < 8) : sMan v s < 2 ∧ v (24 + 5 * s) = ((sMan v s : Nat) : Int) := by
  have := (iv_st h hs).1
  unfold sMan
  omega
theorem sNeed_b {v : Sg} (h : sInv v) {s k : Nat} (hs : s < 8) (hk : k < 24) : 1 ≤ sNeed v s k ∧ sNeed v s k ≤ 45 := by
  have := (iv_st h hs).2.1
  unfold sNeed
  omega
theorem sFst_lt {v : Sg} (h : sInv v) (pr : Bool) : sFst v pr < 16777216 := by
  have := (iv_key h).2.1
  unfold sFst
  split <;> omega
theorem sSnd_lt {v : Sg} (h : sInv v) (pr : Bool) : sSnd v pr < 16777216 := by
  have := (iv_key h).2.2
  unfold sSnd
  split <;> omega
theorem sAct0_lt {v : Sg} (h : sInv v) (pr : Bool) : sAct0 v pr < 16777216 := by
  unfold sAct0
  split
  · exact kOct_lt _
  · exact sFst_lt h pr
theorem sAct1_lt {v : Sg} (h : sInv v) (pr : Bool) : sAct1 v pr < 16777216 := by
  unfold sAct1
  split
  · exact Nat.or_lt_two_pow (n := 24) (sSnd_lt h pr) (sAct0_lt h pr)
  · exact sSnd_lt h pr
theorem sAct_lt {v : Sg} (h : sInv v) (pr : Bool) (m : Nat) : sAct v pr m < 16777216 := by
  unfold sAct
  split
  · exact sAct0_lt h pr
  · exact sAct1_lt h pr
theorem sOpn_lt {v : Sg} (h : sInv v) (st : Nat) (pr : Bool) {s : Nat} (hs : s < 8) : sOpn v st pr s < 16777216 := by
  unfold sOpn
  split
  · have := (iv_st h hs).2.2.2.2
    exact Nat.or_lt_two_pow (n := 24) (sAct_lt h pr _) (show (v (256 + s)).toNat < 2 ^ 24 by omega)
  · decide
theorem p_div {s k : Nat} (hk : k < 24) : (24 * s + k) / 24 = s ∧ (24 * s + k) % 24 = k := by omega
theorem sNs_step (v : Sg) (st : Nat) (pr : Bool) (m s : Nat) {k : Nat} (hk : k < 24) : sNs v st pr m (24 * s + (k + 1)) = sNs v st pr m (24 * s + k) + (if sMan v s = m then sNa v st pr s k else 0) := by
  rw [← Nat.add_assoc, sNs, (p_div hk).1, (p_div hk).2]
theorem sNa_b {v : Sg} (h : sInv v) (st : Nat) (pr : Bool) {s k : Nat} (hs : s < 8) (hk : k < 24) : 0 ≤ sNa v st pr s k ∧ sNa v st pr s k ≤ 45 := by
  have := sNeed_b h hs hk
  unfold sNa
  split <;> omega
theorem sNs_b {v : Sg} (h : sInv v) (st : Nat) (pr : Bool) (m : Nat) : ∀ p, p ≤ 192 → 0 ≤ sNs v st pr m p ∧ sNs v st pr m p ≤ 45 * p
  | 0, _ => ⟨Int.le_refl _, Int.le_refl _⟩
  | p + 1, hp => by
    have h1 := sNs_b h st pr m p (by omega)
    have h2 := sNa_b h st pr (s := p / 24) (k := p % 24) (by omega) (by omega)
    rw [sNs]
    split <;> omega
theorem sRes_b {v : Sg} (h : sInv v) : 0 ≤ sRes v ∧ sRes v ≤ v 1 := by
  have h1 := iv_set h
  have h2 := iv_bel h
  unfold sRes
  split
  · omega
  · refine ⟨Int.ediv_nonneg (Int.mul_nonneg (by omega) (by omega)) (by omega), ?_⟩
    have h3 : v 1 * v 0 ≤ v 1 * v 4 := Int.mul_le_mul_of_nonneg_left (by omega) (by omega)
    have h4 := Int.ediv_le_ediv (show 0 < v 4 by omega) h3
    rwa [Int.mul_ediv_cancel _ (by omega)] at h4
theorem sPr_b {v : Sg} (h : sInv v) (st : Nat) (pr : Bool) {m : Nat} (hm : m < 2) : 0 ≤ sPr v st pr m ∧ sPr v st pr m ≤ v 1 := by
  have h1 := sRes_b h
  have h2 := sNs_b h st pr m 192 (Nat.le_refl _)
  have h3 := iv_los h hm
  have h4 := Int.ediv_nonneg (Int.mul_nonneg h2.1 h3.1) (show (0 : Int) ≤ 100 by decide)
  have h5 := iv_set h
  unfold sPr
  omega
theorem sAk_b {v : Sg} (h : sInv v) (st : Nat) (pr : Bool) {s k : Nat} (hs : s < 8) (hk : k < 24) : 0 ≤ sAk v st pr s k ∧ sAk v st pr s k ≤ 45 := by
  have h1 := sNeed_b h hs hk
  have h2 := sPr_b h st pr (sMan_lt h hs).1
  have h3 := iv_set h
  unfold sAk
  split
  · refine ⟨Int.ediv_nonneg (Int.mul_nonneg (by omega) (by omega)) (by omega), ?_⟩
    have h5 : sNeed v s k * sPr v st pr (sMan v s) ≤ sNeed v s k * v 1 := Int.mul_le_mul_of_nonneg_left (by omega) (by omega)
    have h4 := Int.ediv_le_ediv (show 0 < v 1 by omega) h5
    rw [Int.mul_ediv_cancel _ (by omega)] at h4
    omega
  · omega
theorem sAs_at (v : Sg) (st : Nat) (pr : Bool) (s : Nat) {k : Nat} (hk : k < 24) : sAs v st pr (24 * s + k) = sAk v st pr s k := by
  rw [sAs, (p_div hk).1, (p_div hk).2]
theorem sAs_b {v : Sg} (h : sInv v) (st : Nat) (pr : Bool) {p : Nat} (hp : p < 192) : 0 ≤ sAs v st pr p ∧ sAs v st pr p ≤ 45 := sAk_b h st pr (by omega) (by omega)
theorem sLf_b {v : Sg} (h : sInv v) (st : Nat) (pr : Bool) : ∀ p, p ≤ 192 → 0 ≤ sLf v st pr p ∧ sLf v st pr p ≤ v 0
  | 0, _ => ⟨(iv_bel h).1.1, Int.le_refl _⟩
  | p + 1, hp => by
    have h1 := sLf_b h st pr p (by omega)
    have h2 := sAs_b h st pr (p := p) (by omega)
    rw [sLf]
    omega
theorem sLf_step (v : Sg) (st : Nat) (pr : Bool) (s : Nat) {k : Nat} (hk : k < 24) : sLf v st pr (24 * s + (k + 1)) = sLf v st pr (24 * s + k) - min (sAk v st pr s k) (sLf v st pr (24 * s + k)) := by
  rw [← Nat.add_assoc, sLf, sAs_at _ _ _ _ hk]
theorem sDr_b {v : Sg} (h : sInv v) : ∀ s, s ≤ 8 → sDr v s < 2 ^ s
  | 0, _ => (by decide : (0 : Nat) < 1)
  | s + 1, hs => by
    have h1 := sDr_b h s (by omega)
    have h2 := (iv_st h (show s < 8 by omega)).2.2.2.1
    rw [sDr, Nat.pow_succ]
    rcases (show (v (24 + 5 * s + 3)).toNat = 0 ∨ (v (24 + 5 * s + 3)).toNat = 1 by omega) with e | e <;> rw [e] <;> omega
theorem sDrw_lt {v : Sg} (h : sInv v) : sDrw v < 256 := sDr_b h 8 (Nat.le_refl _)
theorem sDr_bit {v : Sg} (h : sInv v) : ∀ s, s ≤ 8 → ∀ j, j < s → ((sDr v s).testBit j = true ↔ v (24 + 5 * j + 3) = 1)
  | 0, _, j, hj => absurd hj (by omega)
  | s + 1, hs, j, hj => by
    have h2 := (iv_st h (show s < 8 by omega)).2.2.2.1
    have h3 := sDr_b h s (by omega)
    rw [sDr, Nat.add_comm, Nat.mul_comm, Nat.testBit_two_pow_mul_add _ h3]
    by_cases hjs : j < s
    · rw [if_pos hjs]
      exact sDr_bit h s (by omega) j hjs
    · rw [if_neg hjs]
      have : j = s := by omega
      subst this
      rw [Nat.sub_self]
      rcases (show v (24 + 5 * j + 3) = 0 ∨ v (24 + 5 * j + 3) = 1 by omega) with e | e <;> rw [e] <;> decide
/-- what changed: cells outside L are as they were, and no reference moved -/
def fr (L : List Nat) (M0 M : Mem) : Prop := M.2 = M0.2 ∧ ∀ i, i ∉ L → M.1 i = M0.1 i
theorem fr_rf {L : List Nat} {M : Mem} : fr L M M := ⟨rfl, fun _ _ => rfl⟩
theorem fr_up {L : List Nat} {M0 M : Mem} (h : fr L M0 M) {i : Nat} (hi : i ∈ L) (k : Nat) (z : Int) : fr L M0 (vup M.1 i k z, M.2) := by
  refine ⟨h.1, fun j hj => ?_⟩
  rw [← h.2 j hj]
  funext b
  exact vup_nid _ _ _ (fun e => hj (e ▸ hi))
theorem fr_tr {L L2 : List Nat} {M0 M M2 : Mem} (h : fr L M0 M) (h2 : fr L2 M M2) (hs : ∀ i, i ∈ L2 → i ∈ L) : fr L M0 M2 :=
  ⟨h2.1.trans h.1, fun i hi => (h2.2 i (fun e => hi (hs i e))).trans (h.2 i hi)⟩
theorem fr_lay {L : List Nat} {M0 M : Mem} (h : fr L M0 M) (hl : LayM M0.2) : LayM M.2 := by rw [h.1]; exact hl
theorem fr_layX {L : List Nat} {M0 M : Mem} (h : fr L M0 M) (hl : LayX M0.2) : LayX M.2 := by rw [h.1]; exact hl
theorem nu_bitN {n k : Nat} (h : n ≤ 2147483647) (hk : k < 32) : vand (vshr (n : Int) (k : Int)) 1 = bP (n.testBit k = true) := by
  rw [nu_bit (by omega) (by omega) hk]
  exact bP_congr (by rw [bt, Int.toNat_natCast])
theorem vup_in {f : Nat → Nat → Int} {i k b : Nat} {z : Int} : vup f i k z i b = if b = k then z else f i b := by
  unfold vup
  by_cases h : b = k <;> simp [h]
end
section
/-! ===== leaf methods ===== -/
theorem fd_b {a b : Int} (hb : 0 < b) : a.tdiv b * b = a - a.tmod b := by
  have := Int.mul_tdiv_add_tmod a b
  rw [Int.mul_comm] at this
  omega
theorem fd_m {a b : Int} (hb : 0 < b) : (0 ≤ a → 0 ≤ a.tmod b ∧ a.tmod b ≤ a) ∧ (a < 0 → a ≤ a.tmod b ∧ a.tmod b ≤ 0) := by
  have key : ∀ c : Int, 0 ≤ c → 0 ≤ c % b ∧ c % b ≤ c := fun c hc => ⟨Int.emod_nonneg _ (by omega), by
    have h1 := Int.mul_ediv_add_emod c b
    have h2 := Int.mul_nonneg (show 0 ≤ b by omega) (Int.ediv_nonneg hc (show 0 ≤ b by omega))
    omega⟩
  refine ⟨fun h => ?_, fun h => ?_⟩
  · rw [Int.tmod_eq_emod_of_nonneg h]
    exact key a h
  · have e : a.tmod b = -((-a) % b) := by
      rw [← Int.tmod_eq_emod_of_nonneg (show 0 ≤ -a by omega), Int.neg_tmod, Int.neg_neg]
    have := key (-a) (by omega)
    omega
theorem fd_R {a b : Int} (ha : R32 a) (hb : 0 < b ∧ b ≤ 2147483647) : R32 (a.tdiv b * b) := by
  rw [fd_b hb.1]
  have h := fd_m (a := a) hb.1
  by_cases h0 : 0 ≤ a
  · have := h.1 h0; omega
  · have := h.2 (by omega); omega
theorem fd_1 {a b : Int} (hb : 0 < b) (h : ¬ a.tdiv b * b = a) (h0 : a < 0) : a.tdiv b - 1 = a / b := by
  rw [fd_b hb] at h
  have h2 := (fd_m (a := a) hb).2 h0
  rw [nu_fdiv hb, if_pos (by omega)]
theorem fd_2 {a b : Int} (hb : 0 < b) (h : a.tdiv b * b = a) : a.tdiv b = a / b := by
  rw [fd_b hb] at h
  rw [nu_fdiv hb, if_neg (by omega)]
theorem fd_3 {a b : Int} (hb : 0 < b) (h : 0 ≤ a) : a.tdiv b = a / b := nu_tdiv h
set_option maxRecDepth 100000 in
set_option maxHeartbeats 400000 in
theorem c_J9_floorDiv {l : Launch} {G : vGG} {M : Mem} {a b : Int} (ha : R32 a) (hb : 0 < b ∧ b ≤ 2147483647) : Cv l yJ9_floorDiv_7cf53 cJ9_floorDiv_7cf53 3 (some .int) (rmo 0 0) G [aI a, aI b] M (some (aI (a / b))) M := by
  refine Co.ofV (by decide +kernel) rfl rfl ?_
  intro x hxl hxR hlk hrt Q hQ
  show vO x Q G cJ9_floorDiv_7cf53 RJ9 0 [some (aI a), some (aI b), none] [] M
  refine v_iload_n 0 dJ9_floorDiv_7cf53_0 rfl rfl ?_
  refine v_iload_n 1 dJ9_floorDiv_7cf53_1 rfl rfl ?_
  refine v_idiv dJ9_floorDiv_7cf53_2 ha (by omega) (by omega) ?_
  refine v_ist2 dJ9_floorDiv_7cf53_3 rfl ?_
  refine v_iload_n 0 dJ9_floorDiv_7cf53_4 rfl rfl ?_
  refine v_iload_n 1 dJ9_floorDiv_7cf53_5 rfl rfl ?_
  refine v_ixor dJ9_floorDiv_7cf53_6 ?_
  have e7 := nu_xs ha (show 0 ≤ b ∧ b ≤ 2147483647 by omega)
  have r7 : R32 (vxor a b) := i32_T _
  refine v_if_ge 21 dJ9_floorDiv_7cf53_7 (by decide) r7 (fun h7 => ?_) (fun h7 => ?_)
  · skip
    refine v_iload_n 2 dJ9_floorDiv_7cf53_21 rfl rfl ?_
    refine o_iret hQ hlk hrt dJ9_floorDiv_7cf53_22 ?_
    exact ⟨by first | rw [fd_2 hb.1 h14] | rw [fd_3 hb.1 (by omega)], rfl⟩
  · skip
    refine v_iload_n 2 dJ9_floorDiv_7cf53_10 rfl rfl ?_
    refine v_iload_n 1 dJ9_floorDiv_7cf53_11 rfl rfl ?_
    refine v_imul dJ9_floorDiv_7cf53_12 ?_
    refine v_iload_n 0 dJ9_floorDiv_7cf53_13 rfl rfl ?_
    refine v_icmp_eq 21 dJ9_floorDiv_7cf53_14 (by decide) (fd_R ha hb) ha (fun h14 => ?_) (fun h14 => ?_)
    · skip
      refine v_iload_n 2 dJ9_floorDiv_7cf53_21 rfl rfl ?_
      refine o_iret hQ hlk hrt dJ9_floorDiv_7cf53_22 ?_
      exact ⟨by first | rw [fd_2 hb.1 h14] | rw [fd_3 hb.1 (by omega)], rfl⟩
    · skip
      refine v_iload_n 2 dJ9_floorDiv_7cf53_17 rfl rfl ?_
      refine v_iconst dJ9_floorDiv_7cf53_18 ?_
      refine v_isub dJ9_floorDiv_7cf53_19 ?_
      refine o_iret hQ hlk hrt dJ9_floorDiv_7cf53_20 ?_
      exact ⟨by rw [fd_1 hb.1 h14 (e7.mp (by omega))], rfl⟩
set_option maxRecDepth 100000 in
set_option maxHeartbeats 400000 in
theorem c_J9_max {l : Launch} {G : vGG} {M : Mem} {a b : Int} (ha : R32 a) (hb : R32 b) : Cv l yJ9_max_7cf53 cJ9_max_7cf53 2 (some .int) (rmo 0 0) G [aI a, aI b] M (some (aI (max a b))) M := by
  refine Co.ofV (by decide +kernel) rfl rfl ?_
  intro x hxl hxR hlk hrt Q hQ
  show vO x Q G cJ9_max_7cf53 RJ9 0 [some (aI a), some (aI b)] [] M
  refine v_iload_n 0 dJ9_max_7cf53_0 rfl rfl ?_
  refine v_iload_n 1 dJ9_max_7cf53_1 rfl rfl ?_
  refine v_icmp_lt 9 dJ9_max_7cf53_2 (by decide) ha hb (fun h2 => ?_) (fun h2 => ?_)
  · skip
    refine v_iload_n 1 dJ9_max_7cf53_9 rfl rfl ?_
    refine o_iret hQ hlk hrt dJ9_max_7cf53_10 ?_
    exact ⟨by congr 2; omega, rfl⟩
  · skip
    refine v_iload_n 0 dJ9_max_7cf53_5 rfl rfl ?_
    refine v_goto 10 dJ9_max_7cf53_6 (by decide) ?_
    refine o_iret hQ hlk hrt dJ9_max_7cf53_10 ?_
    exact ⟨by congr 2; omega, rfl⟩
set_option maxRecDepth 100000 in
set_option maxHeartbeats 400000 in
theorem c_J9_min {l : Launch} {G : vGG} {M : Mem} {a b : Int} (ha : R32 a) (hb : R32 b) : Cv l yJ9_min_7cf53 cJ9_min_7cf53 2 (some .int) (rmo 0 0) G [aI a, aI b] M (some (aI (min a b))) M := by
  refine Co.ofV (by decide +kernel) rfl rfl ?_
  intro x hxl hxR hlk hrt Q hQ
  show vO x Q G cJ9_min_7cf53 RJ9 0 [some (aI a), some (aI b)] [] M
  refine v_iload_n 0 dJ9_min_7cf53_0 rfl rfl ?_
  refine v_iload_n 1 dJ9_min_7cf53_1 rfl rfl ?_
  refine v_icmp_gt 9 dJ9_min_7cf53_2 (by decide) ha hb (fun h2 => ?_) (fun h2 => ?_)
  · skip
    refine v_iload_n 1 dJ9_min_7cf53_9 rfl rfl ?_
    refine o_iret hQ hlk hrt dJ9_min_7cf53_10 ?_
    exact ⟨by congr 2; omega, rfl⟩
  · skip
    refine v_iload_n 0 dJ9_min_7cf53_5 rfl rfl ?_
    refine v_goto 10 dJ9_min_7cf53_6 (by decide) ?_
    refine o_iret hQ hlk hrt dJ9_min_7cf53_10 ?_
    exact ⟨by congr 2; omega, rfl⟩
set_option maxRecDepth 100000 in
set_option maxHeartbeats 400000 in
theorem c_X3_isWithin {l : Launch} {G : vGG} {M : Mem} {v a b : Int} (hv : R32 v) (ha : R32 a) (hb : R32 b) : Cv l yX3_isWithin cX3_isWithin 3 (some .boolean) (rmo 0 0) G [aI v, aI a, aI b] M (some (aI (bP (a ≤ v ∧ v ≤ b)))) M := by
  refine Co.ofV (plainFor_of_name (by decide)) rfl rfl ?_
  intro x hxl hxR hlk hrt Q hQ
  show vO x Q G cX3_isWithin RX3 0 [some (aI v), some (aI a), some (aI b)] [] M
  refine v_iload_n 0 dX3_isWithin_0 rfl rfl ?_
  refine v_iload_n 1 dX3_isWithin_1 rfl rfl ?_
  refine v_icmp_lt 14 dX3_isWithin_2 (by decide) (by omega) (by omega) (fun h2 => ?_) (fun h2 => ?_)
  · skip
    refine v_iconst dX3_isWithin_14 ?_
    refine o_zret hQ hlk hrt (by decide) dX3_isWithin_15 ?_
    exact ⟨by congr 2; first | rw [bP_t (by omega)] | rw [bP_f (by omega)], rfl⟩
  · skip
    refine v_iload_n 0 dX3_isWithin_5 rfl rfl ?_
    refine v_iload_n 2 dX3_isWithin_6 rfl rfl ?_
    refine v_icmp_gt 14 dX3_isWithin_7 (by decide) (by omega) (by omega) (fun h7 => ?_) (fun h7 => ?_)
    · skip
      refine v_iconst dX3_isWithin_14 ?_
      refine o_zret hQ hlk hrt (by decide) dX3_isWithin_15 ?_
      exact ⟨by congr 2; first | rw [bP_t (by omega)] | rw [bP_f (by omega)], rfl⟩
    · skip
      refine v_iconst dX3_isWithin_10 ?_
      refine v_goto 15 dX3_isWithin_11 (by decide) ?_
      refine o_zret hQ hlk hrt (by decide) dX3_isWithin_15 ?_
      exact ⟨by congr 2; first | rw [bP_t (by omega)] | rw [bP_f (by omega)], rfl⟩
set_option maxRecDepth 100000 in
set_option maxHeartbeats 400000 in
theorem c_X4_in {l : Launch} {G : vGG} {M : Mem} {v a b : Int} (hv : R32 v) (ha : R32 a) (hb : R32 b) : Cv l yX4_in cX4_in 3 (some .boolean) (rmo 0 0) G [aI v, aI a, aI b] M (some (aI (bP (a ≤ v ∧ v ≤ b)))) M := by
  refine Co.ofV (plainFor_of_name (by decide)) rfl rfl ?_
  intro x hxl hxR hlk hrt Q hQ
  show vO x Q G cX4_in RX4 0 [some (aI v), some (aI a), some (aI b)] [] M
  refine v_iload_n 0 dX4_in_0 rfl rfl ?_
  refine v_iload_n 1 dX4_in_1 rfl rfl ?_
  refine v_icmp_lt 14 dX4_in_2 (by decide) (by omega) (by omega) (fun h2 => ?_) (fun h2 => ?_)
  · skip
    refine v_iconst dX4_in_14 ?_
    refine o_zret hQ hlk hrt (by decide) dX4_in_15 ?_
    exact ⟨by congr 2; first | rw [bP_t (by omega)] | rw [bP_f (by omega)], rfl⟩
  · skip
    refine v_iload_n 0 dX4_in_5 rfl rfl ?_
    refine v_iload_n 2 dX4_in_6 rfl rfl ?_
    refine v_icmp_gt 14 dX4_in_7 (by decide) (by omega) (by omega) (fun h7 => ?_) (fun h7 => ?_)
    · skip
      refine v_iconst dX4_in_14 ?_
      refine o_zret hQ hlk hrt (by decide) dX4_in_15 ?_
      exact ⟨by congr 2; first | rw [bP_t (by omega)] | rw [bP_f (by omega)], rfl⟩
    · skip
      refine v_iconst dX4_in_10 ?_
      refine v_goto 15 dX4_in_11 (by decide) ?_
      refine o_zret hQ hlk hrt (by decide) dX4_in_15 ?_
      exact ⟨by congr 2; first | rw [bP_t (by omega)] | rw [bP_f (by omega)], rfl⟩
set_option maxRecDepth 100000 in
set_option maxHeartbeats 400000 in
theorem c_X3_isStop {l : Launch} {G : vGG} {M : Mem} {v : Int} (hv : R32 v) : Cv l yX3_isStop cX3_isStop 1 (some .boolean) (rmo 1 22) G [aI v] M (some (aI (bP (0 ≤ v ∧ v ≤ 7)))) M := by
  refine Co.ofV (plainFor_of_name (by decide)) rfl rfl ?_
  intro x hxl hxR hlk hrt Q hQ
  show vO x Q G cX3_isStop RX3 0 [some (aI v)] [] M
  refine v_iload_n 0 dX3_isStop_0 rfl rfl ?_
  refine v_iconst dX3_isStop_1 ?_
  refine v_bipush dX3_isStop_2 (by decide) ?_
  refine oSv3 (c_X3_isWithin hv (by decide) (by decide)) k0_X3_isWithin ki_X3_isWithin ml_X3_55 (vRo_of hxR (by decide) (by decide)) dX3_isStop_4 (Nat.le_of_ble_eq_true rfl) ?_
  refine o_zret hQ hlk hrt (bP_01 _) dX3_isStop_7 ?_
  exact ⟨rfl, rfl⟩
set_option maxRecDepth 100000 in
set_option maxHeartbeats 400000 in
theorem c_X3_isManual {l : Launch} {G : vGG} {M : Mem} {v : Int} (hv : R32 v) : Cv l yX3_isManual cX3_isManual 1 (some .boolean) (rmo 1 22) G [aI v] M (some (aI (bP (0 ≤ v ∧ v ≤ 1)))) M := by
  refine Co.ofV (plainFor_of_name (by decide)) rfl rfl ?_
  intro x hxl hxR hlk hrt Q hQ
  show vO x Q G cX3_isManual RX3 0 [some (aI v)] [] M
  refine v_iload_n 0 dX3_isManual_0 rfl rfl ?_
  refine v_iconst dX3_isManual_1 ?_
  refine v_iconst dX3_isManual_2 ?_
  refine oSv3 (c_X3_isWithin hv (by decide) (by decide)) k0_X3_isWithin ki_X3_isWithin ml_X3_55 (vRo_of hxR (by decide) (by decide)) dX3_isManual_3 (Nat.le_of_ble_eq_true rfl) ?_
  refine o_zret hQ hlk hrt (bP_01 _) dX3_isManual_6 ?_
  exact ⟨rfl, rfl⟩
set_option maxRecDepth 100000 in
set_option maxHeartbeats 400000 in
theorem c_X3_isKey {l : Launch} {G : vGG} {M : Mem} {v : Int} (hv : R32 v) : Cv l yX3_isKey cX3_isKey 1 (some .boolean) (rmo 1 22) G [aI v] M (some (aI (bP (0 ≤ v ∧ v ≤ 23)))) M := by
  refine Co.ofV (plainFor_of_name (by decide)) rfl rfl ?_
  intro x hxl hxR hlk hrt Q hQ
  show vO x Q G cX3_isKey RX3 0 [some (aI v)] [] M
  refine v_iload_n 0 dX3_isKey_0 rfl rfl ?_
  refine v_iconst dX3_isKey_1 ?_
  refine v_bipush dX3_isKey_2 (by decide) ?_
  refine oSv3 (c_X3_isWithin hv (by decide) (by decide)) k0_X3_isWithin ki_X3_isWithin ml_X3_55 (vRo_of hxR (by decide) (by decide)) dX3_isKey_4 (Nat.le_of_ble_eq_true rfl) ?_
  refine o_zret hQ hlk hrt (bP_01 _) dX3_isKey_7 ?_
  exact ⟨rfl, rfl⟩
set_option maxRecDepth 100000 in
set_option maxHeartbeats 400000 in
theorem c_X3_isSlot {l : Launch} {G : vGG} {M : Mem} {v : Int} (hv : R32 v) : Cv l yX3_isSlot cX3_isSlot 1 (some .boolean) (rmo 1 22) G [aI v] M (some (aI (bP (0 ≤ v ∧ v ≤ 1)))) M := by
  refine Co.ofV (plainFor_of_name (by decide)) rfl rfl ?_
  intro x hxl hxR hlk hrt Q hQ
  show vO x Q G cX3_isSlot RX3 0 [some (aI v)] [] M
  refine v_iload_n 0 dX3_isSlot_0 rfl rfl ?_
  refine v_iconst dX3_isSlot_1 ?_
  refine v_iconst dX3_isSlot_2 ?_
  refine oSv3 (c_X3_isWithin hv (by decide) (by decide)) k0_X3_isWithin ki_X3_isWithin ml_X3_55 (vRo_of hxR (by decide) (by decide)) dX3_isSlot_3 (Nat.le_of_ble_eq_true rfl) ?_
  refine o_zret hQ hlk hrt (bP_01 _) dX3_isSlot_6 ?_
  exact ⟨rfl, rfl⟩
set_option maxRecDepth 100000 in
set_option maxHeartbeats 400000 in
theorem c_X4_isStop {l : Launch} {G : vGG} {M : Mem} {v : Int} (hv : R32 v) : Cv l yX4_isStop cX4_isStop 1 (some .boolean) (rmo 1 22) G [aI v] M (some (aI (bP (0 ≤ v ∧ v ≤ 7)))) M := by
  refine Co.ofV (plainFor_of_name (by decide)) rfl rfl ?_
  intro x hxl hxR hlk hrt Q hQ
  show vO x Q G cX4_isStop RX4 0 [some (aI v)] [] M
  refine v_iload_n 0 dX4_isStop_0 rfl rfl ?_
  refine v_iconst dX4_isStop_1 ?_
  refine v_bipush dX4_isStop_2 (by decide) ?_
  refine oSv3 (c_X4_in hv (by decide) (by decide)) k0_X4_in ki_X4_in ml_X4_59 (vRo_of hxR (by decide) (by decide)) dX4_isStop_4 (Nat.le_of_ble_eq_true rfl) ?_
  refine o_zret hQ hlk hrt (bP_01 _) dX4_isStop_7 ?_
  exact ⟨rfl, rfl⟩
set_option maxRecDepth 100000 in
set_option maxHeartbeats 400000 in
theorem c_X4_isKey {l : Launch} {G : vGG} {M : Mem} {v : Int} (hv : R32 v) : Cv l yX4_isKey cX4_isKey 1 (some .boolean) (rmo 1 22) G [aI v] M (some (aI (bP (0 ≤ v ∧ v ≤ 23)))) M := by
  refine Co.ofV (plainFor_of_name (by decide)) rfl rfl ?_
  intro x hxl hxR hlk hrt Q hQ
  show vO x Q G cX4_isKey RX4 0 [some (aI v)] [] M
  refine v_iload_n 0 dX4_isKey_0 rfl rfl ?_
  refine v_iconst dX4_isKey_1 ?_
  refine v_bipush dX4_isKey_2 (by decide) ?_
  refine oSv3 (c_X4_in hv (by decide) (by decide)) k0_X4_in ki_X4_in ml_X4_59 (vRo_of hxR (by decide) (by decide)) dX4_isKey_4 (Nat.le_of_ble_eq_true rfl) ?_
  refine o_zret hQ hlk hrt (bP_01 _) dX4_isKey_7 ?_
  exact ⟨rfl, rfl⟩
set_option maxRecDepth 100000 in
set_option maxHeartbeats 400000 in
theorem c_X3_pipeIndex {l : Launch} {G : vGG} {M : Mem} {s k : Int} : Cv l yX3_pipeIndex cX3_pipeIndex 2 (some .int) (rmo 0 0) G [aI s, aI k] M (some (aI (s * 24 + k))) M := by
  refine Co.ofV (plainFor_of_name (by decide)) rfl rfl ?_
  intro x hxl hxR hlk hrt Q hQ
  show vO x Q G cX3_pipeIndex RX3 0 [some (aI s), some (aI k)] [] M
  refine v_iload_n 0 dX3_pipeIndex_0 rfl rfl ?_
  refine v_bipush dX3_pipeIndex_1 (by decide) ?_
  refine v_imul dX3_pipeIndex_3 ?_
  refine v_iload_n 1 dX3_pipeIndex_4 rfl rfl ?_
  refine v_iadd dX3_pipeIndex_5 ?_
  refine o_iret hQ hlk hrt dX3_pipeIndex_6 ?_
  exact ⟨rfl, rfl⟩
set_option maxRecDepth 100000 in
set_option maxHeartbeats 400000 in
theorem c_X3_divide {l : Launch} {G : vGG} {M : Mem} {a b : Int} (ha : R32 a) (hb : 0 < b ∧ b ≤ 2147483647) : Cv l yX3_divide cX3_divide 2 (some .int) (rmo 1 22) G [aI a, aI b] M (some (aI (a / b))) M := by
  refine Co.ofV (plainFor_of_name (by decide)) rfl rfl ?_
  intro x hxl hxR hlk hrt Q hQ
  show vO x Q G cX3_divide RX3 0 [some (aI a), some (aI b)] [] M
  refine v_iload_n 1 dX3_divide_0 rfl rfl ?_
  refine v_if_ne 8 dX3_divide_1 (by decide) (by omega) (fun h1 => ?_) (fun h1 => ?_)
  · skip
    refine v_iload_n 0 dX3_divide_8 rfl rfl ?_
    refine v_iload_n 1 dX3_divide_9 rfl rfl ?_
    refine oSv2 (c_J9_floorDiv ha hb) k0_J9_floorDiv ki_J9_floorDiv ml_X3_325 (vRo_of hxR (by decide) (by decide)) dX3_divide_10 (Nat.le_of_ble_eq_true rfl) ?_
    refine o_iret hQ hlk hrt dX3_divide_13 ?_
    exact ⟨rfl, rfl⟩
  · skip
    exact absurd h1 (by omega)
theorem dn_R {a b : Int} (ha : R32 a) (hb : 0 < b ∧ b ≤ 2147483647) : R32 (a.tmod b) := by
  have h := fd_m (a := a) hb.1
  by_cases h0 : 0 ≤ a
  · have := h.1 h0; omega
  · have := h.2 (by omega); omega
theorem rs_p0 : ∀ b, b < 9 → ∀ a, a < 9 → a + b ≤ 8 → (2 ^ b - 1) * 2 ^ a < 256 := by decide
theorem rs_p (b : Nat) (hb : b ≤ 8) (a : Nat) (h : a + b ≤ 8) : (2 ^ b - 1) * 2 ^ a < 256 := rs_p0 b (by omega) a (by omega) h
theorem rs_e {a b : Nat} (h : a + b ≤ 8) : vshl (vshl 1 (b : Int) - 1) (a : Int) = (((2 ^ b - 1) * 2 ^ a : Nat) : Int) := by
  have hp := rs_p b (by omega) a h
  have h1 : 1 ≤ 2 ^ b := Nat.one_le_two_pow
  have h2 : 2 ^ b ≤ 256 := Nat.pow_le_pow_right (by decide) (show b ≤ 8 by omega)
  have e : vshl 1 (b : Int) - 1 = ((2 ^ b - 1 : Nat) : Int) := by
    rw [nu_shl (by decide) (by omega) (by show 1 * 2 ^ b < _; omega)]
    show ((1 * 2 ^ b : Nat) : Int) - 1 = _
    omega
  rw [e, nu_shl (Int.natCast_nonneg _) (by omega) (by rw [Int.toNat_natCast]; omega), Int.toNat_natCast]
set_option maxRecDepth 100000 in
set_option maxHeartbeats 400000 in
theorem c_X4_down {l : Launch} {G : vGG} {M : Mem} {a b : Int} (ha : R32 a) (hb : 0 < b ∧ b ≤ 2147483647) : Cv l yX4_down cX4_down 3 (some .int) (rmo 0 0) G [aI a, aI b] M (some (aI (a / b))) M := by
  refine Co.ofV (plainFor_of_name (by decide)) rfl rfl ?_
  intro x hxl hxR hlk hrt Q hQ
  show vO x Q G cX4_down RX4 0 [some (aI a), some (aI b), none] [] M
  refine v_iload_n 0 dX4_down_0 rfl rfl ?_
  refine v_iload_n 1 dX4_down_1 rfl rfl ?_
  refine v_idiv dX4_down_2 ha (by omega) (by omega) ?_
  refine v_ist2 dX4_down_3 rfl ?_
  refine v_iload_n 0 dX4_down_4 rfl rfl ?_
  refine v_iload_n 1 dX4_down_5 rfl rfl ?_
  refine v_irem dX4_down_6 ha (by omega) (by omega) ?_
  refine v_if_ge 16 dX4_down_7 (by decide) (dn_R ha hb) (fun h7 => ?_) (fun h7 => ?_)
  · skip
    refine v_iload_n 2 dX4_down_16 rfl rfl ?_
    refine o_iret hQ hlk hrt dX4_down_17 ?_
    exact ⟨by first | rw [nu_fdiv hb.1, if_pos (by omega)] | rw [nu_fdiv hb.1, if_neg (by omega)], rfl⟩
  · skip
    refine v_iload_n 2 dX4_down_10 rfl rfl ?_
    refine v_iconst dX4_down_11 ?_
    refine v_isub dX4_down_12 ?_
    refine v_goto 17 dX4_down_13 (by decide) ?_
    refine o_iret hQ hlk hrt dX4_down_17 ?_
    exact ⟨by first | rw [nu_fdiv hb.1, if_pos (by omega)] | rw [nu_fdiv hb.1, if_neg (by omega)], rfl⟩
set_option maxRecDepth 100000 in
set_option maxHeartbeats 400000 in
theorem c_X3_isIn {l : Launch} {G : vGG} {M : Mem} {v : Int} {k : Nat} (h0 : 0 ≤ v) (h1 : v ≤ 2147483647) (hk : k < 32) : Cv l yX3_isIn cX3_isIn 2 (some .boolean) (rmo 0 0) G [aI v, aI (k : Int)] M (some (aI (bP (bt v k = true)))) M := by
  refine Co.ofV (plainFor_of_name (by decide)) rfl rfl ?_
  intro x hxl hxR hlk hrt Q hQ
  show vO x Q G cX3_isIn RX3 0 [some (aI v), some (aI (k : Int))] [] M
  refine v_iload_n 0 dX3_isIn_0 rfl rfl ?_
  refine v_iload_n 1 dX3_isIn_1 rfl rfl ?_
  refine v_ishr dX3_isIn_2 ?_
  refine v_iconst dX3_isIn_3 ?_
  refine v_iand dX3_isIn_4 ?_
  refine o_eqI (nu_bit h0 h1 hk) ?_
  refine v_if_eq 12 dX3_isIn_5 (by decide) (bP_R _) (fun h5 => ?_) (fun h5 => ?_)
  · skip
    refine v_iconst dX3_isIn_12 ?_
    refine o_zret hQ hlk hrt (by decide) dX3_isIn_13 ?_
    exact ⟨by first | rw [bP_f (bP_0.mp h5)] | rw [bP_t (bP_n0.mp h5)], rfl⟩
  · skip
    refine v_iconst dX3_isIn_8 ?_
    refine v_goto 13 dX3_isIn_9 (by decide) ?_
    refine o_zret hQ hlk hrt (by decide) dX3_isIn_13 ?_
    exact ⟨by first | rw [bP_f (bP_0.mp h5)] | rw [bP_t (bP_n0.mp h5)], rfl⟩
set_option maxRecDepth 100000 in
set_option maxHeartbeats 400000 in
theorem c_X3_with {l : Launch} {G : vGG} {M : Mem} {v z : Int} {k : Nat} (h0 : 0 ≤ v) (h1 : v ≤ 2147483647) (hk : k < 31) (hz : R32 z) : Cv l yX3_with cX3_with 3 (some .int) (rmo 0 0) G [aI v, aI (k : Int), aI z] M (some (aI ((wth v.toNat k (decide (z ≠ 0)) : Nat) : Int))) M := by
  refine Co.ofV (plainFor_of_name (by decide)) rfl rfl ?_
  intro x hxl hxR hlk hrt Q hQ
  show vO x Q G cX3_with RX3 0 [some (aI v), some (aI (k : Int)), some (aI z)] [] M
  refine v_iload_n 2 dX3_with_0 rfl rfl ?_
  refine v_if_eq 12 dX3_with_1 (by decide) hz (fun h1_ => ?_) (fun h1_ => ?_)
  · skip
    refine v_iload_n 0 dX3_with_12 rfl rfl ?_
    refine v_iconst dX3_with_13 ?_
    refine v_iload_n 1 dX3_with_14 rfl rfl ?_
    refine v_ishl dX3_with_15 ?_
    refine v_iconst dX3_with_16 ?_
    refine v_ixor dX3_with_17 ?_
    refine v_iand dX3_with_18 ?_
    refine o_iret hQ hlk hrt dX3_with_19 ?_
    first | exact ⟨by rw [nu_on h0 h1 hk, decide_eq_true h1_], rfl⟩ | exact ⟨by rw [nu_off h0 h1 hk, decide_eq_false (fun q => q h1_)], rfl⟩
  · skip
    refine v_iload_n 0 dX3_with_4 rfl rfl ?_
    refine v_iconst dX3_with_5 ?_
    refine v_iload_n 1 dX3_with_6 rfl rfl ?_
    refine v_ishl dX3_with_7 ?_
    refine v_ior dX3_with_8 ?_
    refine v_goto 19 dX3_with_9 (by decide) ?_
    refine o_iret hQ hlk hrt dX3_with_19 ?_
    first | exact ⟨by rw [nu_on h0 h1 hk, decide_eq_true h1_], rfl⟩ | exact ⟨by rw [nu_off h0 h1 hk, decide_eq_false (fun q => q h1_)], rfl⟩
set_option maxRecDepth 100000 in
set_option maxHeartbeats 400000 in
theorem c_X4_with {l : Launch} {G : vGG} {M : Mem} {v z : Int} {k : Nat} (h0 : 0 ≤ v) (h1 : v ≤ 2147483647) (hk : k < 31) (hz : R32 z) : Cv l yX4_with cX4_with 3 (some .int) (rmo 0 0) G [aI v, aI (k : Int), aI z] M (some (aI ((wth v.toNat k (decide (z ≠ 0)) : Nat) : Int))) M := by
  refine Co.ofV (plainFor_of_name (by decide)) rfl rfl ?_
  intro x hxl hxR hlk hrt Q hQ
  show vO x Q G cX4_with RX4 0 [some (aI v), some (aI (k : Int)), some (aI z)] [] M
  refine v_iload_n 2 dX4_with_0 rfl rfl ?_
  refine v_if_eq 12 dX4_with_1 (by decide) hz (fun h1_ => ?_) (fun h1_ => ?_)
  · skip
    refine v_iload_n 0 dX4_with_12 rfl rfl ?_
    refine v_iconst dX4_with_13 ?_
    refine v_iload_n 1 dX4_with_14 rfl rfl ?_
    refine v_ishl dX4_with_15 ?_
    refine v_iconst dX4_with_16 ?_
    refine v_ixor dX4_with_17 ?_
    refine v_iand dX4_with_18 ?_
    refine o_iret hQ hlk hrt dX4_with_19 ?_
    first | exact ⟨by rw [nu_on h0 h1 hk, decide_eq_true h1_], rfl⟩ | exact ⟨by rw [nu_off h0 h1 hk, decide_eq_false (fun q => q h1_)], rfl⟩
  · skip
    refine v_iload_n 0 dX4_with_4 rfl rfl ?_
    refine v_iconst dX4_with_5 ?_
    refine v_iload_n 1 dX4_with_6 rfl rfl ?_
    refine v_ishl dX4_with_7 ?_
    refine v_ior dX4_with_8 ?_
    refine v_goto 19 dX4_with_9 (by decide) ?_
    refine o_iret hQ hlk hrt dX4_with_19 ?_
    first | exact ⟨by rw [nu_on h0 h1 hk, decide_eq_true h1_], rfl⟩ | exact ⟨by rw [nu_off h0 h1 hk, decide_eq_false (fun q => q h1_)], rfl⟩
set_option maxRecDepth 100000 in
set_option maxHeartbeats 400000 in
theorem c_X3_rowOfStops {l : Launch} {G : vGG} {M : Mem} {a b : Nat} (h : a + b ≤ 8) : Cv l yX3_rowOfStops cX3_rowOfStops 2 (some .int) (rmo 0 0) G [aI (a : Int), aI (b : Int)] M (some (aI (((2 ^ b - 1) * 2 ^ a : Nat) : Int))) M := by
  refine Co.ofV (plainFor_of_name (by decide)) rfl rfl ?_
  intro x hxl hxR hlk hrt Q hQ
  show vO x Q G cX3_rowOfStops RX3 0 [some (aI (a : Int)), some (aI (b : Int))] [] M
  refine v_iconst dX3_rowOfStops_0 ?_
  refine v_iload_n 1 dX3_rowOfStops_1 rfl rfl ?_
  refine v_ishl dX3_rowOfStops_2 ?_
  refine v_iconst dX3_rowOfStops_3 ?_
  refine v_isub dX3_rowOfStops_4 ?_
  refine v_iload_n 0 dX3_rowOfStops_5 rfl rfl ?_
  refine v_ishl dX3_rowOfStops_6 ?_
  refine o_iret hQ hlk hrt dX3_rowOfStops_7 ?_
  exact ⟨by rw [rs_e h], rfl⟩
set_option maxRecDepth 100000 in
set_option maxHeartbeats 400000 in
theorem c_X3_mix {l : Launch} {G : vGG} {M : Mem} {h v : Int} : Cv l yX3_mix cX3_mix 3 (some .long) (rmo 0 0) G [aL h, aI v] M (some (aL (31 * h + vw v))) M := by
  refine Co.ofV (plainFor_of_name (by decide)) rfl rfl ?_
  intro x hxl hxR hlk hrt Q hQ
  show vO x Q G cX3_mix RX3 0 [some (aL h), none, some (aI v)] [] M
  refine v_ldc2 (31) kc_X3_298 (by decide) dX3_mix_0 ?_
  refine v_lload_n 0 dX3_mix_3 rfl rfl ?_
  refine v_lmul dX3_mix_4 ?_
  refine v_iload_n 2 dX3_mix_5 rfl rfl ?_
  refine v_i2l dX3_mix_6 ?_
  refine v_ladd dX3_mix_7 ?_
  refine o_lret hQ hlk hrt dX3_mix_8 ?_
  exact ⟨rfl, rfl⟩
set_option maxRecDepth 100000 in
set_option maxHeartbeats 400000 in
theorem c_X4_more {l : Launch} {G : vGG} {M : Mem} {h v : Int} : Cv l yX4_more cX4_more 3 (some .long) (rmo 0 0) G [aL h, aI v] M (some (aL (31 * h + vw v))) M := by
  refine Co.ofV (plainFor_of_name (by decide)) rfl rfl ?_
  intro x hxl hxR hlk hrt Q hQ
  show vO x Q G cX4_more RX4 0 [some (aL h), none, some (aI v)] [] M
  refine v_ldc2 (31) kc_X4_216 (by decide) dX4_more_0 ?_
  refine v_lload_n 0 dX4_more_3 rfl rfl ?_
  refine v_lmul dX4_more_4 ?_
  refine v_iload_n 2 dX4_more_5 rfl rfl ?_
  refine v_i2l dX4_more_6 ?_
  refine v_ladd dX4_more_7 ?_
  refine o_lret hQ hlk hrt dX4_more_8 ?_
  exact ⟨rfl, rfl⟩
end
section
/-! ===== bit counts ===== -/
theorem bu_1 {n : Nat} (h : n < 2147483648) : (n : Int) - vand (vushr (n : Int) 1) 1431655765 = ((bc1 1431655765 n : Nat) : Int) := by
  have e := nu_ushr (z := (n : Int)) (k := 1) (by omega) (by omega) (by decide)
  rw [Int.toNat_natCast] at e
  have hd : n / 2 ^ 1 ≤ n := Nat.div_le_self _ _
  rw [show (1 : Int) = ((1 : Nat) : Int) from rfl, e, nu_and (by omega) (by omega) (by decide) (by decide), Int.toNat_natCast]
  have hle : (n / 2 &&& 1431655765) ≤ n := Nat.le_trans Nat.and_le_left (Nat.div_le_self _ _)
  show (n : Int) - ((n / 2 &&& 1431655765 : Nat) : Int) = _
  unfold bc1
  omega
theorem bu_2 {n : Nat} (h : n < 1073741824) : vand (n : Int) 858993459 + vand (vushr (n : Int) 2) 858993459 = ((bc2 858993459 n : Nat) : Int) := by
  have e := nu_ushr (z := (n : Int)) (k := 2) (by omega) (by omega) (by decide)
  rw [Int.toNat_natCast] at e
  have hd : n / 2 ^ 2 ≤ n := Nat.div_le_self _ _
  rw [show (2 : Int) = ((2 : Nat) : Int) from rfl, e, nu_and (by omega) (by omega) (by decide) (by decide), nu_and (by omega) (by omega) (by decide) (by decide), Int.toNat_natCast, Int.toNat_natCast]
  rfl
theorem bu_3 {n : Nat} (h : n < 1073741824) : vand ((n : Int) + vushr (n : Int) 4) 252645135 = ((bc3 252645135 n : Nat) : Int) := by
  have e := nu_ushr (z := (n : Int)) (k := 4) (by omega) (by omega) (by decide)
  rw [Int.toNat_natCast] at e
  have hd : n / 2 ^ 4 ≤ n := Nat.div_le_self _ _
  rw [show (4 : Int) = ((4 : Nat) : Int) from rfl, e, nu_and (by omega) (by omega) (by decide) (by decide)]
  have e3 : ((n : Int) + ((n / 2 ^ 4 : Nat) : Int)).toNat = n + n / 16 := by
    show ((n : Int) + ((n / 16 : Nat) : Int)).toNat = _
    omega
  rw [e3]
  rfl
theorem bu_4 {n : Nat} (h : n < 1073741824) : (n : Int) + vushr (n : Int) 8 = ((n + n / 256 : Nat) : Int) := by
  have e := nu_ushr (z := (n : Int)) (k := 8) (by omega) (by omega) (by decide)
  rw [Int.toNat_natCast] at e
  rw [show (8 : Int) = ((8 : Nat) : Int) from rfl, e]
  rfl
theorem bu_5 {n : Nat} (h : n < 1073741824) : (n : Int) + vushr (n : Int) 16 = ((n + n / 65536 : Nat) : Int) := by
  have e := nu_ushr (z := (n : Int)) (k := 16) (by omega) (by omega) (by decide)
  rw [Int.toNat_natCast] at e
  rw [show (16 : Int) = ((16 : Nat) : Int) from rfl, e]
  rfl
theorem bu_6 {n : Nat} (h : n < 1073741824) : vand (n : Int) 63 = ((n &&& 63 : Nat) : Int) := by
  rw [nu_and (by omega) (by omega) (by decide) (by decide), Int.toNat_natCast]
  rfl
theorem bc1_le (m z : Nat) : bc1 m z ≤ z := Nat.sub_le _ _
theorem bc2_le (m z : Nat) : bc2 m z ≤ z + z / 4 := Nat.add_le_add Nat.and_le_left Nat.and_le_left
theorem bc3_le (m z : Nat) : bc3 m z ≤ z + z / 16 := Nat.and_le_left
theorem pc_n0 {z : Nat} (h : z < 16777216) (h0 : 0 < z) : 0 < pc z := by
  have := pcf_step 24 z h0 h
  unfold pc
  omega
set_option maxRecDepth 100000 in
set_option maxHeartbeats 400000 in
theorem c_J6_bitCount {l : Launch} {G : vGG} {M : Mem} {z : Nat} (hz : z < 16777216) : Cv l yJ6_bitCount_0f7a4 cJ6_bitCount_0f7a4 1 (some .int) (rmo 0 0) G [aI (z : Int)] M (some (aI ((pc z : Nat) : Int))) M := by
  refine Co.ofV (by decide +kernel) rfl rfl ?_
  intro x hxl hxR hlk hrt Q hQ
  have l1 : bc1 1431655765 z ≤ z := bc1_le _ _
  have l2 := bc2_le 858993459 (bc1 1431655765 z)
  have l3 := bc3_le 252645135 (bc2 858993459 (bc1 1431655765 z))
  show vO x Q G cJ6_bitCount_0f7a4 RJ6 0 [some (aI (z : Int))] [] M
  refine v_iload_n 0 dJ6_bitCount_0f7a4_0 rfl rfl ?_
  refine v_iload_n 0 dJ6_bitCount_0f7a4_1 rfl rfl ?_
  refine v_iconst dJ6_bitCount_0f7a4_2 ?_
  refine v_iushr dJ6_bitCount_0f7a4_3 ?_
  refine v_ldcw (1431655765) kc_J6_265 (by decide) dJ6_bitCount_0f7a4_4 ?_
  refine v_iand dJ6_bitCount_0f7a4_7 ?_
  refine v_isub dJ6_bitCount_0f7a4_8 ?_
  refine o_eqI (bu_1 (by omega)) ?_
  refine v_ist0 dJ6_bitCount_0f7a4_9 ?_
  refine v_iload_n 0 dJ6_bitCount_0f7a4_10 rfl rfl ?_
  refine v_ldcw (858993459) kc_J6_266 (by decide) dJ6_bitCount_0f7a4_11 ?_
  refine v_iand dJ6_bitCount_0f7a4_14 ?_
  refine v_iload_n 0 dJ6_bitCount_0f7a4_15 rfl rfl ?_
  refine v_iconst dJ6_bitCount_0f7a4_16 ?_
  refine v_iushr dJ6_bitCount_0f7a4_17 ?_
  refine v_ldcw (858993459) kc_J6_266 (by decide) dJ6_bitCount_0f7a4_18 ?_
  refine v_iand dJ6_bitCount_0f7a4_21 ?_
  refine v_iadd dJ6_bitCount_0f7a4_22 ?_
  refine o_eqI (bu_2 (by omega)) ?_
  refine v_ist0 dJ6_bitCount_0f7a4_23 ?_
  refine v_iload_n 0 dJ6_bitCount_0f7a4_24 rfl rfl ?_
  refine v_iload_n 0 dJ6_bitCount_0f7a4_25 rfl rfl ?_
  refine v_iconst dJ6_bitCount_0f7a4_26 ?_
  refine v_iushr dJ6_bitCount_0f7a4_27 ?_
  refine v_iadd dJ6_bitCount_0f7a4_28 ?_
  refine v_ldcw (252645135) kc_J6_267 (by decide) dJ6_bitCount_0f7a4_29 ?_
  refine v_iand dJ6_bitCount_0f7a4_32 ?_
  refine o_eqI (bu_3 (by omega)) ?_
  refine v_ist0 dJ6_bitCount_0f7a4_33 ?_
  refine v_iload_n 0 dJ6_bitCount_0f7a4_34 rfl rfl ?_
  refine v_iload_n 0 dJ6_bitCount_0f7a4_35 rfl rfl ?_
  refine v_bipush dJ6_bitCount_0f7a4_36 (by decide) ?_
  refine v_iushr dJ6_bitCount_0f7a4_38 ?_
  refine v_iadd dJ6_bitCount_0f7a4_39 ?_
  refine o_eqI (bu_4 (by omega)) ?_
  refine v_ist0 dJ6_bitCount_0f7a4_40 ?_
  refine v_iload_n 0 dJ6_bitCount_0f7a4_41 rfl rfl ?_
  refine v_iload_n 0 dJ6_bitCount_0f7a4_42 rfl rfl ?_
  refine v_bipush dJ6_bitCount_0f7a4_43 (by decide) ?_
  refine v_iushr dJ6_bitCount_0f7a4_45 ?_
  refine v_iadd dJ6_bitCount_0f7a4_46 ?_
  refine o_eqI (bu_5 (by omega)) ?_
  refine v_ist0 dJ6_bitCount_0f7a4_47 ?_
  refine v_iload_n 0 dJ6_bitCount_0f7a4_48 rfl rfl ?_
  refine v_bipush dJ6_bitCount_0f7a4_49 (by decide) ?_
  refine v_iand dJ6_bitCount_0f7a4_51 ?_
  refine o_eqI (bu_6 (by omega)) ?_
  refine o_iret hQ hlk hrt dJ6_bitCount_0f7a4_52 ?_
  exact ⟨by rw [← bc_end hz _ rfl], rfl⟩
set_option maxRecDepth 100000 in
set_option maxHeartbeats 400000 in
theorem c_X4_size {l : Launch} {G : vGG} {M : Mem} {z : Nat} (hz : z < 16777216) : Cv l yX4_size cX4_size 3 (some .int) (rmo 0 0) G [aI (z : Int)] M (some (aI ((pc z : Nat) : Int))) M := by
  refine Co.ofV (plainFor_of_name (by decide)) rfl rfl ?_
  intro x hxl hxR hlk hrt Q hQ
  show vO x Q G cX4_size RX4 0 [some (aI (z : Int)), none, none] [] M
  refine v_iconst dX4_size_0 ?_
  refine v_ist1 dX4_size_1 rfl ?_
  refine v_iload_n 0 dX4_size_2 rfl rfl ?_
  refine v_ist2 dX4_size_3 rfl ?_
  have lp4 : ∀ (dd w c : Nat), w < 16777216 → pc w = dd → c + pc w = pc z → vO x Q G cX4_size RX4 4 [some (aI (z : Int)), some (aI (c : Int)), some (aI (w : Int))] [] M := by
    intro dd
    induction dd with
    | zero =>
      intro w c hw hd hc
      refine v_iload_n 2 dX4_size_4 rfl rfl ?_
      refine v_if_eq 20 dX4_size_5 (by decide) (by omega) (fun h5 => ?_) (fun h5 => ?_)
      · skip
        refine v_iload_n 1 dX4_size_20 rfl rfl ?_
        refine o_iret hQ hlk hrt dX4_size_21 ?_
        exact ⟨by rw [show c = pc z by rw [show w = 0 by omega, pc_0] at hc; omega], rfl⟩
      · skip
        exact absurd (pc_n0 hw (by omega)) (by omega)
    | succ dd ih =>
      intro w c hw hd hc
      refine v_iload_n 2 dX4_size_4 rfl rfl ?_
      refine v_if_eq 20 dX4_size_5 (by decide) (by omega) (fun h5 => ?_) (fun h5 => ?_)
      · skip
        exact absurd (show pc w = 0 by rw [show w = 0 by omega]; exact pc_0) (by omega)
      · skip
        refine v_iinc1 dX4_size_8 rfl ?_
        refine v_iload_n 2 dX4_size_11 rfl rfl ?_
        refine v_iload_n 2 dX4_size_12 rfl rfl ?_
        refine v_iconst dX4_size_13 ?_
        refine v_isub dX4_size_14 ?_
        refine v_iand dX4_size_15 ?_
        refine o_eqI (nu_low (by omega) (by omega)) ?_
        rw [Int.toNat_natCast]
        refine v_ist2 dX4_size_16 rfl ?_
        refine v_goto 4 dX4_size_17 (by decide) ?_
        exact ih _ (c + 1) (Nat.lt_of_le_of_lt Nat.and_le_left hw) (by have := pcf_step 24 w (by omega) hw; unfold pc at hd ⊢; omega) (by have := pcf_step 24 w (by omega) hw; unfold pc at hc ⊢; omega)
  exact lp4 _ z 0 hz rfl (by omega)
end
section
/-! ===== the twin: what is open, asked for, got ===== -/
theorem dr_step {v : Sg} (hI : sInv v) {s : Nat} (hs : s < 8) : vor ((sDr v s : Nat) : Int) (vshl (v (24 + 5 * s + 3)) (s : Int)) = ((sDr v (s + 1) : Nat) : Int) := by
  have hq := (iv_st hI hs).2.2.2.1
  have hb := sDr_b hI s (by omega)
  have hp : 2 ^ s ≤ 128 := Nat.pow_le_pow_right (by decide) (show s ≤ 7 by omega)
  have hm : (v (24 + 5 * s + 3)).toNat * 2 ^ s ≤ 2 ^ s := by
    rcases (show (v (24 + 5 * s + 3)).toNat = 0 ∨ (v (24 + 5 * s + 3)).toNat = 1 by omega) with e | e <;> rw [e] <;> omega
  rw [nu_shl hq.1 (by omega) (by omega), nu_or (by omega) (by omega) (by omega) (by omega), Int.toNat_natCast, Int.toNat_natCast, sDr, Nat.or_comm, Nat.mul_comm, ← Nat.two_pow_add_eq_or_of_lt hb, Nat.add_comm]
set_option maxRecDepth 100000 in
set_option maxHeartbeats 400000 in
theorem c_X4_drawn {l : Launch} {G : vGG} {M : Mem} {v : Sg} (hLM : LayM M.2) (hv : M.1 111 = v) (hI : sInv v) : Cv l yX4_drawn cX4_drawn 3 (some .int) (rmo 0 0) G [aR (some 110)] M (some (aI ((sDrw v : Nat) : Int))) M := by
  refine Co.ofV (plainFor_of_name (by decide)) rfl rfl ?_
  intro x hxl hxR hlk hrt Q hQ
  show vO x Q G cX4_drawn RX4 0 [some (aR (some 110)), none, none] [] M
  refine v_iconst dX4_drawn_0 ?_
  refine v_ist1 dX4_drawn_1 rfl ?_
  refine v_iconst dX4_drawn_2 ?_
  refine v_ist2 dX4_drawn_3 rfl ?_
  have lp4 : ∀ (dd s : Nat), s + dd = 8 → vO x Q G cX4_drawn RX4 4 [some (aR (some 110)), some (aI ((sDr v s : Nat) : Int)), some (aI (s : Int))] [] M := by
    intro dd
    induction dd with
    | zero =>
      intro s hd
      refine v_iload_n 2 dX4_drawn_4 rfl rfl ?_
      refine v_bipush dX4_drawn_5 (by decide) ?_
      refine v_icmp_ge 34 dX4_drawn_7 (by decide) (by omega) (by decide) (fun h7 => ?_) (fun h7 => ?_)
      · skip
        refine v_iload_n 1 dX4_drawn_34 rfl rfl ?_
        refine o_iret hQ hlk hrt dX4_drawn_35 ?_
        exact ⟨by rw [show s = 8 by omega]; rfl, rfl⟩
      · skip
        exact absurd h7 (by omega)
    | succ dd ih =>
      intro s hd
      refine v_iload_n 2 dX4_drawn_4 rfl rfl ?_
      refine v_bipush dX4_drawn_5 (by decide) ?_
      refine v_icmp_ge 34 dX4_drawn_7 (by decide) (by omega) (by decide) (fun h7 => ?_) (fun h7 => ?_)
      · skip
        exact absurd h7 (by omega)
      · skip
        refine v_iload_n 1 dX4_drawn_10 rfl rfl ?_
        refine v_aload_n 0 dX4_drawn_11 rfl rfl ?_
        refine v_getR lk_X4_7 rfl (rfl : SH 110 = _) (mo_0 hLM) dX4_drawn_12 ?_
        refine v_bipush dX4_drawn_15 (by decide) ?_
        refine v_iconst dX4_drawn_17 ?_
        refine v_iload_n 2 dX4_drawn_18 rfl rfl ?_
        refine v_imul dX4_drawn_19 ?_
        refine v_iadd dX4_drawn_20 ?_
        refine v_iconst dX4_drawn_21 ?_
        refine v_iadd dX4_drawn_22 ?_
        refine o_iald (j := (24 + (5 * s)) + 3) (u := v ((24 + (5 * s)) + 3)) (rfl : SH 111 = _) (by omega) (by omega) (by rw [hv]) dX4_drawn_23 ?_
        refine v_iload_n 2 dX4_drawn_24 rfl rfl ?_
        refine v_ishl dX4_drawn_25 ?_
        have hq := (iv_st hI (show s < 8 by omega)).2.2.2.1
        have hb := sDr_b hI s (by omega)
        have hp : 2 ^ s ≤ 128 := Nat.pow_le_pow_right (by decide) (show s ≤ 7 by omega)
        refine v_ior dX4_drawn_26 ?_
        refine o_eqI (dr_step hI (show s < 8 by omega)) ?_
        refine v_ist1 dX4_drawn_27 rfl ?_
        refine v_iinc2 dX4_drawn_28 rfl ?_
        refine v_goto 4 dX4_drawn_31 (by decide) ?_
        exact ih (s + 1) (by omega)
  exact lp4 8 0 rfl
set_option maxRecDepth 100000 in
set_option maxHeartbeats 400000 in
theorem c_X4_puts {l : Launch} {G : vGG} {M : Mem} {j : Nat} {z : Int} (hLM : LayM M.2) (hj : j < 264) : Cv l yX4_puts cX4_puts 4 (some .int) (rmo 0 0) G [aR (some 110), aI (j : Int), aI z] M (some (aI (M.1 111 j))) (vup M.1 111 j z, M.2) := by
  refine Co.ofV (plainFor_of_name (by decide)) rfl rfl ?_
  intro x hxl hxR hlk hrt Q hQ
  show vO x Q G cX4_puts RX4 0 [some (aR (some 110)), some (aI (j : Int)), some (aI z), none] [] M
  refine v_aload_n 0 dX4_puts_0 rfl rfl ?_
  refine v_getR lk_X4_7 rfl (rfl : SH 110 = _) (mo_0 hLM) dX4_puts_1 ?_
  refine v_iload_n 1 dX4_puts_4 rfl rfl ?_
  refine o_iald (j := j) (u := _) (rfl : SH 111 = _) (by omega) (by omega) rfl dX4_puts_5 ?_
  refine v_ist3 dX4_puts_6 rfl ?_
  refine v_aload_n 0 dX4_puts_7 rfl rfl ?_
  refine v_getR lk_X4_7 rfl (rfl : SH 110 = _) (mo_0 hLM) dX4_puts_8 ?_
  refine v_iload_n 1 dX4_puts_11 rfl rfl ?_
  refine v_iload_n 2 dX4_puts_12 rfl rfl ?_
  refine o_iast (j := j) (by omega) (rfl : SH 111 = _) (by omega) (by omega) dX4_puts_13 ?_
  refine v_iload_n 3 dX4_puts_14 rfl rfl ?_
  refine o_iret hQ hlk hrt dX4_puts_15 ?_
  exact ⟨rfl, rfl⟩
set_option maxRecDepth 100000 in
set_option maxHeartbeats 400000 in
theorem c_X4_need {l : Launch} {G : vGG} {M : Mem} {v : Sg} (hLM : LayM M.2) (hv : M.1 111 = v) (hI : sInv v) {s k : Nat} (hs : s < 8) (hk : k < 24) : Cv l yX4_need cX4_need 3 (some .int) (rmo 0 0) G [aR (some 110), aI (s : Int), aI (k : Int)] M (some (aI (sNeed v s k))) M := by
  refine Co.ofV (plainFor_of_name (by decide)) rfl rfl ?_
  intro x hxl hxR hlk hrt Q hQ
  show vO x Q G cX4_need RX4 0 [some (aR (some 110)), some (aI (s : Int)), some (aI (k : Int))] [] M
  refine v_aload_n 0 dX4_need_0 rfl rfl ?_
  refine v_getR lk_X4_7 rfl (rfl : SH 110 = _) (mo_0 hLM) dX4_need_1 ?_
  refine v_bipush dX4_need_4 (by decide) ?_
  refine v_iconst dX4_need_6 ?_
  refine v_iload_n 1 dX4_need_7 rfl rfl ?_
  refine v_imul dX4_need_8 ?_
  refine v_iadd dX4_need_9 ?_
  refine v_iconst dX4_need_10 ?_
  refine v_iadd dX4_need_11 ?_
  refine o_iald (j := (24 + (5 * s)) + 1) (u := v ((24 + (5 * s)) + 1)) (rfl : SH 111 = _) (by omega) (by omega) (by rw [hv]) dX4_need_12 ?_
  refine v_bipush dX4_need_13 (by decide) ?_
  refine v_iload_n 2 dX4_need_15 rfl rfl ?_
  refine v_isub dX4_need_16 ?_
  refine v_iconst dX4_need_17 ?_
  refine v_idiv dX4_need_18 (by omega) (by decide) (by omega) ?_
  refine v_iadd dX4_need_19 ?_
  refine o_iret hQ hlk hrt dX4_need_20 ?_
  exact ⟨by rw [nu_tdiv (by omega)]; rfl, rfl⟩
theorem rs_b {v : Sg} (h : sInv v) : 0 ≤ v 1 * v 0 ∧ v 1 * v 0 ≤ 4000000 := by
  have h1 := iv_set h
  have h2 := iv_bel h
  refine ⟨Int.mul_nonneg (by omega) (by omega), ?_⟩
  have h3 : v 1 * v 0 ≤ v 1 * 20000 := Int.mul_le_mul_of_nonneg_left (by omega) (by omega)
  omega
set_option maxRecDepth 100000 in
set_option maxHeartbeats 400000 in
theorem c_X4_reservoir {l : Launch} {G : vGG} {M : Mem} {v : Sg} (hLM : LayM M.2) (hv : M.1 111 = v) (hI : sInv v) : Cv l yX4_reservoir cX4_reservoir 1 (some .int) (rmo 0 0) G [aR (some 110)] M (some (aI (sRes v))) M := by
  refine Co.ofV (plainFor_of_name (by decide)) rfl rfl ?_
  intro x hxl hxR hlk hrt Q hQ
  have hs := iv_set hI
  have hb := iv_bel hI
  show vO x Q G cX4_reservoir RX4 0 [some (aR (some 110))] [] M
  refine v_aload_n 0 dX4_reservoir_0 rfl rfl ?_
  refine v_getR lk_X4_7 rfl (rfl : SH 110 = _) (mo_0 hLM) dX4_reservoir_1 ?_
  refine v_iconst dX4_reservoir_4 ?_
  refine o_iald (j := 0) (u := v (0)) (rfl : SH 111 = _) (by omega) (by omega) (by rw [hv]) dX4_reservoir_5 ?_
  refine v_aload_n 0 dX4_reservoir_6 rfl rfl ?_
  refine v_getR lk_X4_7 rfl (rfl : SH 110 = _) (mo_0 hLM) dX4_reservoir_7 ?_
  refine v_iconst dX4_reservoir_10 ?_
  refine o_iald (j := 4) (u := v (4)) (rfl : SH 111 = _) (by omega) (by omega) (by rw [hv]) dX4_reservoir_11 ?_
  refine v_icmp_lt 24 dX4_reservoir_12 (by decide) (by omega) (by omega) (fun h12 => ?_) (fun h12 => ?_)
  · skip
    refine v_aload_n 0 dX4_reservoir_24 rfl rfl ?_
    refine v_getR lk_X4_7 rfl (rfl : SH 110 = _) (mo_0 hLM) dX4_reservoir_25 ?_
    refine v_iconst dX4_reservoir_28 ?_
    refine o_iald (j := 1) (u := v (1)) (rfl : SH 111 = _) (by omega) (by omega) (by rw [hv]) dX4_reservoir_29 ?_
    refine v_aload_n 0 dX4_reservoir_30 rfl rfl ?_
    refine v_getR lk_X4_7 rfl (rfl : SH 110 = _) (mo_0 hLM) dX4_reservoir_31 ?_
    refine v_iconst dX4_reservoir_34 ?_
    refine o_iald (j := 0) (u := v (0)) (rfl : SH 111 = _) (by omega) (by omega) (by rw [hv]) dX4_reservoir_35 ?_
    refine v_imul dX4_reservoir_36 ?_
    refine v_aload_n 0 dX4_reservoir_37 rfl rfl ?_
    refine v_getR lk_X4_7 rfl (rfl : SH 110 = _) (mo_0 hLM) dX4_reservoir_38 ?_
    refine v_iconst dX4_reservoir_41 ?_
    refine o_iald (j := 4) (u := v (4)) (rfl : SH 111 = _) (by omega) (by omega) (by rw [hv]) dX4_reservoir_42 ?_
    have hm := rs_b hI
    refine v_idiv dX4_reservoir_43 (by omega) (by omega) (by omega) ?_
    refine o_iret hQ hlk hrt dX4_reservoir_44 ?_
    first | exact ⟨by unfold sRes; rw [if_pos (by omega)], rfl⟩ | exact ⟨by unfold sRes; rw [if_neg (by omega), nu_tdiv hm.1], rfl⟩
  · skip
    refine v_aload_n 0 dX4_reservoir_15 rfl rfl ?_
    refine v_getR lk_X4_7 rfl (rfl : SH 110 = _) (mo_0 hLM) dX4_reservoir_16 ?_
    refine v_iconst dX4_reservoir_19 ?_
    refine o_iald (j := 1) (u := v (1)) (rfl : SH 111 = _) (by omega) (by omega) (by rw [hv]) dX4_reservoir_20 ?_
    refine v_goto 44 dX4_reservoir_21 (by decide) ?_
    refine o_iret hQ hlk hrt dX4_reservoir_44 ?_
    first | exact ⟨by unfold sRes; rw [if_pos (by omega)], rfl⟩ | exact ⟨by unfold sRes; rw [if_neg (by omega), nu_tdiv hm.1], rfl⟩
theorem ac0_t1 {v : Sg} (h : sInv v) (hc : 2 ≤ v 10) : vand (vor (v 11) (vshl (v 11) 12)) 16777215 = ((sAct0 v true : Nat) : Int) := by
  have hk := iv_key h
  rw [nu_octM hk.2.1.1 hk.2.1.2, sAct0, if_pos hc]
  rfl
theorem ac0_t0 {v : Sg} (h : sInv v) (hc : ¬ 2 ≤ v 10) : vand (vor (v 11) 0) 16777215 = ((sAct0 v true : Nat) : Int) := by
  have hk := iv_key h
  rw [nu_noct hk.2.1.1 hk.2.1.2, sAct0, if_neg hc]
  show v 11 = (((v 11).toNat : Nat) : Int)
  omega
theorem ac0_f1 {v : Sg} (_ : sInv v) (hc : 2 ≤ v 10) : vand (vor 0 (vshl 0 12)) 16777215 = ((sAct0 v false : Nat) : Int) := by
  rw [nu_octM (by decide) (by decide), sAct0, if_pos hc]
  rfl
theorem ac0_f0 {v : Sg} (_ : sInv v) (hc : ¬ 2 ≤ v 10) : vand (vor 0 0) 16777215 = ((sAct0 v false : Nat) : Int) := by
  rw [nu_noct (by decide) (by decide), sAct0, if_neg hc]
  rfl
theorem ac1_t1 {v : Sg} (h : sInv v) (hd : v 10 % 2 = 1) : vor (v 12) ((sAct0 v true : Nat) : Int) = ((sAct1 v true : Nat) : Int) := by
  have hk := iv_key h
  have h0 := sAct0_lt h true
  rw [nu_or hk.2.2.1 (by omega) (by omega) (by omega), Int.toNat_natCast, sAct1, if_pos hd]
  rfl
theorem ac1_t0 {v : Sg} (h : sInv v) (hd : ¬ v 10 % 2 = 1) : vor (v 12) 0 = ((sAct1 v true : Nat) : Int) := by
  have hk := iv_key h
  rw [nu_or hk.2.2.1 (by omega) (by omega) (by omega), sAct1, if_neg hd]
  show (((v 12).toNat ||| 0 : Nat) : Int) = _
  rw [Nat.or_zero]
  rfl
theorem ac1_f1 {v : Sg} (h : sInv v) (hd : v 10 % 2 = 1) : vor 0 ((sAct0 v false : Nat) : Int) = ((sAct1 v false : Nat) : Int) := by
  have h0 := sAct0_lt h false
  rw [nu_or (by decide) (by decide) (by omega) (by omega), Int.toNat_natCast, sAct1, if_pos hd]
  rfl
theorem ac1_f0 {v : Sg} (_ : sInv v) (hd : ¬ v 10 % 2 = 1) : vor 0 0 = ((sAct1 v false : Nat) : Int) := by
  rw [sAct1, if_neg hd]
  show vor 0 0 = ((0 : Nat) : Int)
  decide
set_option maxRecDepth 100000 in
set_option maxHeartbeats 400000 in
theorem c_X4_acts_t {l : Launch} {G : vGG} {M : Mem} {v : Sg} (hLM : LayM M.2) (hv : M.1 111 = v) (hI : sInv v) : Co l yX4_acts cX4_acts 4 none (rmo 0 0) G [aR (some 110), aI 1] M (fun r M' => r = none ∧ fr [120] M M' ∧ ∀ m, m < 2 → M'.1 120 m = ((sAct v true m : Nat) : Int)) := by
  refine Co.ofV (plainFor_of_name (by decide)) rfl rfl ?_
  intro x hxl hxR hlk hrt Q hQ
  have hk := iv_key hI
  show vO x Q G cX4_acts RX4 0 [some (aR (some 110)), some (aI 1), none, none] [] M
  refine v_iload_n 1 dX4_acts_0 rfl rfl ?_
  refine v_if_eq 14 dX4_acts_1 (by decide) (by decide) (fun h1 => ?_) (fun h1 => ?_)
  · skip
    exact absurd h1 (by decide)
  · skip
    refine v_aload_n 0 dX4_acts_4 rfl rfl ?_
    refine v_getR lk_X4_7 rfl (rfl : SH 110 = _) (mo_0 hLM) dX4_acts_5 ?_
    refine v_bipush dX4_acts_8 (by decide) ?_
    refine o_iald (j := 11) (u := v (11)) (rfl : SH 111 = _) (by omega) (by omega) (by simp [vup, hv]) dX4_acts_10 ?_
    refine v_goto 15 dX4_acts_11 (by decide) ?_
    refine v_ist2 dX4_acts_15 rfl ?_
    refine v_iload_n 1 dX4_acts_16 rfl rfl ?_
    refine v_if_eq 30 dX4_acts_17 (by decide) (by decide) (fun h17 => ?_) (fun h17 => ?_)
    · skip
      exact absurd h17 (by decide)
    · skip
      refine v_aload_n 0 dX4_acts_20 rfl rfl ?_
      refine v_getR lk_X4_7 rfl (rfl : SH 110 = _) (mo_0 hLM) dX4_acts_21 ?_
      refine v_bipush dX4_acts_24 (by decide) ?_
      refine o_iald (j := 12) (u := v (12)) (rfl : SH 111 = _) (by omega) (by omega) (by simp [vup, hv]) dX4_acts_26 ?_
      refine v_goto 31 dX4_acts_27 (by decide) ?_
      refine v_ist3 dX4_acts_31 rfl ?_
      refine v_aload_n 0 dX4_acts_32 rfl rfl ?_
      refine v_getR lk_X4_38 rfl (rfl : SH 110 = _) (mo_11 hLM) dX4_acts_33 ?_
      refine v_iconst dX4_acts_36 ?_
      refine v_iload_n 2 dX4_acts_37 rfl rfl ?_
      refine v_aload_n 0 dX4_acts_38 rfl rfl ?_
      refine v_getR lk_X4_7 rfl (rfl : SH 110 = _) (mo_0 hLM) dX4_acts_39 ?_
      refine v_bipush dX4_acts_42 (by decide) ?_
      refine o_iald (j := 10) (u := v (10)) (rfl : SH 111 = _) (by omega) (by omega) (by simp [vup, hv]) dX4_acts_44 ?_
      refine v_iconst dX4_acts_45 ?_
      refine v_iand dX4_acts_46 ?_
      refine v_iconst dX4_acts_47 ?_
      have e2 := nu_cp2 hk.1.1 hk.1.2
      refine v_icmp_ne 58 dX4_acts_48 (by decide) (vand_R _ _) (by decide) (fun h48 => ?_) (fun h48 => ?_)
      · skip
        have hc : ¬ 2 ≤ v 10 := fun q => h48 (e2.mpr q)
        refine v_iconst dX4_acts_58 ?_
        refine v_ior dX4_acts_59 ?_
        refine v_ldc (16777215) kc_X4_106 (by decide) dX4_acts_60 ?_
        refine v_iand dX4_acts_62 ?_
        refine o_eqI (u := ((sAct0 v true : Nat) : Int)) (by first | with_reducible exact ac0_t1 hI hc | with_reducible exact ac0_t0 hI hc) ?_
        refine o_iast (j := 0) (by omega) (rfl : SH 120 = _) (by omega) (by omega) dX4_acts_63 ?_
        refine v_aload_n 0 dX4_acts_64 rfl rfl ?_
        refine v_getR lk_X4_38 rfl (rfl : SH 110 = _) (mo_11 hLM) dX4_acts_65 ?_
        refine v_iconst dX4_acts_68 ?_
        refine v_iload_n 3 dX4_acts_69 rfl rfl ?_
        refine v_aload_n 0 dX4_acts_70 rfl rfl ?_
        refine v_getR lk_X4_7 rfl (rfl : SH 110 = _) (mo_0 hLM) dX4_acts_71 ?_
        refine v_bipush dX4_acts_74 (by decide) ?_
        refine o_iald (j := 10) (u := v (10)) (rfl : SH 111 = _) (by omega) (by omega) (by simp [vup, hv]) dX4_acts_76 ?_
        refine v_iconst dX4_acts_77 ?_
        refine v_iand dX4_acts_78 ?_
        refine v_iconst dX4_acts_79 ?_
        have e1 := nu_cp1 hk.1.1 hk.1.2
        refine v_icmp_ne 92 dX4_acts_80 (by decide) (vand_R _ _) (by decide) (fun h80 => ?_) (fun h80 => ?_)
        · skip
          have hd : ¬ v 10 % 2 = 1 := fun q => h80 (e1.mpr q)
          refine v_iconst dX4_acts_92 ?_
          refine v_ior dX4_acts_93 ?_
          refine o_eqI (u := ((sAct1 v true : Nat) : Int)) (by first | with_reducible exact ac1_t1 hI hd | with_reducible exact ac1_t0 hI hd) ?_
          refine o_iast (j := 1) (by omega) (rfl : SH 120 = _) (by omega) (by omega) dX4_acts_94 ?_
          refine o_ret hQ hlk hrt dX4_acts_95 ?_
          exact ⟨rfl, fr_up (fr_up fr_rf (by decide) _ _) (by decide) _ _, fun m hm => by rcases (show m = 0 ∨ m = 1 by omega) with rfl | rfl <;> simp [vup, sAct]⟩
        · skip
          have hd := e1.mp h80
          refine v_aload_n 0 dX4_acts_83 rfl rfl ?_
          refine v_getR lk_X4_38 rfl (rfl : SH 110 = _) (mo_11 hLM) dX4_acts_84 ?_
          refine v_iconst dX4_acts_87 ?_
          refine o_iald (j := 0) (u := ((sAct0 v true : Nat) : Int)) (rfl : SH 120 = _) (by omega) (by omega) (by simp [vup]) dX4_acts_88 ?_
          refine v_goto 93 dX4_acts_89 (by decide) ?_
          refine v_ior dX4_acts_93 ?_
          refine o_eqI (u := ((sAct1 v true : Nat) : Int)) (by first | with_reducible exact ac1_t1 hI hd | with_reducible exact ac1_t0 hI hd) ?_
          refine o_iast (j := 1) (by omega) (rfl : SH 120 = _) (by omega) (by omega) dX4_acts_94 ?_
          refine o_ret hQ hlk hrt dX4_acts_95 ?_
          exact ⟨rfl, fr_up (fr_up fr_rf (by decide) _ _) (by decide) _ _, fun m hm => by rcases (show m = 0 ∨ m = 1 by omega) with rfl | rfl <;> simp [vup, sAct]⟩
      · skip
        have hc := e2.mp h48
        refine v_iload_n 2 dX4_acts_51 rfl rfl ?_
        refine v_bipush dX4_acts_52 (by decide) ?_
        refine v_ishl dX4_acts_54 ?_
        refine v_goto 59 dX4_acts_55 (by decide) ?_
        refine v_ior dX4_acts_59 ?_
        refine v_ldc (16777215) kc_X4_106 (by decide) dX4_acts_60 ?_
        refine v_iand dX4_acts_62 ?_
        refine o_eqI (u := ((sAct0 v true : Nat) : Int)) (by first | with_reducible exact ac0_t1 hI hc | with_reducible exact ac0_t0 hI hc) ?_
        refine o_iast (j := 0) (by omega) (rfl : SH 120 = _) (by omega) (by omega) dX4_acts_63 ?_
        refine v_aload_n 0 dX4_acts_64 rfl rfl ?_
        refine v_getR lk_X4_38 rfl (rfl : SH 110 = _) (mo_11 hLM) dX4_acts_65 ?_
        refine v_iconst dX4_acts_68 ?_
        refine v_iload_n 3 dX4_acts_69 rfl rfl ?_
        refine v_aload_n 0 dX4_acts_70 rfl rfl ?_
        refine v_getR lk_X4_7 rfl (rfl : SH 110 = _) (mo_0 hLM) dX4_acts_71 ?_
        refine v_bipush dX4_acts_74 (by decide) ?_
        refine o_iald (j := 10) (u := v (10)) (rfl : SH 111 = _) (by omega) (by omega) (by simp [vup, hv]) dX4_acts_76 ?_
        refine v_iconst dX4_acts_77 ?_
        refine v_iand dX4_acts_78 ?_
        refine v_iconst dX4_acts_79 ?_
        have e1 := nu_cp1 hk.1.1 hk.1.2
        refine v_icmp_ne 92 dX4_acts_80 (by decide) (vand_R _ _) (by decide) (fun h80 => ?_) (fun h80 => ?_)
        · skip
          have hd : ¬ v 10 % 2 = 1 := fun q => h80 (e1.mpr q)
          refine v_iconst dX4_acts_92 ?_
          refine v_ior dX4_acts_93 ?_
          refine o_eqI (u := ((sAct1 v true : Nat) : Int)) (by first | with_reducible exact ac1_t1 hI hd | with_reducible exact ac1_t0 hI hd) ?_
          refine o_iast (j := 1) (by omega) (rfl : SH 120 = _) (by omega) (by omega) dX4_acts_94 ?_
          refine o_ret hQ hlk hrt dX4_acts_95 ?_
          exact ⟨rfl, fr_up (fr_up fr_rf (by decide) _ _) (by decide) _ _, fun m hm => by rcases (show m = 0 ∨ m = 1 by omega) with rfl | rfl <;> simp [vup, sAct]⟩
        · skip
          have hd := e1.mp h80
          refine v_aload_n 0 dX4_acts_83 rfl rfl ?_
          refine v_getR lk_X4_38 rfl (rfl : SH 110 = _) (mo_11 hLM) dX4_acts_84 ?_
          refine v_iconst dX4_acts_87 ?_
          refine o_iald (j := 0) (u := ((sAct0 v true : Nat) : Int)) (rfl : SH 120 = _) (by omega) (by omega) (by simp [vup]) dX4_acts_88 ?_
          refine v_goto 93 dX4_acts_89 (by decide) ?_
          refine v_ior dX4_acts_93 ?_
          refine o_eqI (u := ((sAct1 v true : Nat) : Int)) (by first | with_reducible exact ac1_t1 hI hd | with_reducible exact ac1_t0 hI hd) ?_
          refine o_iast (j := 1) (by omega) (rfl : SH 120 = _) (by omega) (by omega) dX4_acts_94 ?_
          refine o_ret hQ hlk hrt dX4_acts_95 ?_
          exact ⟨rfl, fr_up (fr_up fr_rf (by decide) _ _) (by decide) _ _, fun m hm => by rcases (show m = 0 ∨ m = 1 by omega) with rfl | rfl <;> simp [vup, sAct]⟩
set_option maxRecDepth 100000 in
set_option maxHeartbeats 400000 in
theorem c_X4_acts_f {l : Launch} {G : vGG} {M : Mem} {v : Sg} (hLM : LayM M.2) (hv : M.1 111 = v) (hI : sInv v) : Co l yX4_acts cX4_acts 4 none (rmo 0 0) G [aR (some 110), aI 0] M (fun r M' => r = none ∧ fr [120] M M' ∧ ∀ m, m < 2 → M'.1 120 m = ((sAct v false m : Nat) : Int)) := by
  refine Co.ofV (plainFor_of_name (by decide)) rfl rfl ?_
  intro x hxl hxR hlk hrt Q hQ
  have hk := iv_key hI
  show vO x Q G cX4_acts RX4 0 [some (aR (some 110)), some (aI 0), none, none] [] M
  refine v_iload_n 1 dX4_acts_0 rfl rfl ?_
  refine v_if_eq 14 dX4_acts_1 (by decide) (by decide) (fun h1 => ?_) (fun h1 => ?_)
  · skip
    refine v_iconst dX4_acts_14 ?_
    refine v_ist2 dX4_acts_15 rfl ?_
    refine v_iload_n 1 dX4_acts_16 rfl rfl ?_
    refine v_if_eq 30 dX4_acts_17 (by decide) (by decide) (fun h17 => ?_) (fun h17 => ?_)
    · skip
      refine v_iconst dX4_acts_30 ?_
      refine v_ist3 dX4_acts_31 rfl ?_
      refine v_aload_n 0 dX4_acts_32 rfl rfl ?_
      refine v_getR lk_X4_38 rfl (rfl : SH 110 = _) (mo_11 hLM) dX4_acts_33 ?_
      refine v_iconst dX4_acts_36 ?_
      refine v_iload_n 2 dX4_acts_37 rfl rfl ?_
      refine v_aload_n 0 dX4_acts_38 rfl rfl ?_
      refine v_getR lk_X4_7 rfl (rfl : SH 110 = _) (mo_0 hLM) dX4_acts_39 ?_
      refine v_bipush dX4_acts_42 (by decide) ?_
      refine o_iald (j := 10) (u := v (10)) (rfl : SH 111 = _) (by omega) (by omega) (by simp [vup, hv]) dX4_acts_44 ?_
      refine v_iconst dX4_acts_45 ?_
      refine v_iand dX4_acts_46 ?_
      refine v_iconst dX4_acts_47 ?_
      have e2 := nu_cp2 hk.1.1 hk.1.2
      refine v_icmp_ne 58 dX4_acts_48 (by decide) (vand_R _ _) (by decide) (fun h48 => ?_) (fun h48 => ?_)
      · skip
        have hc : ¬ 2 ≤ v 10 := fun q => h48 (e2.mpr q)
        refine v_iconst dX4_acts_58 ?_
        refine v_ior dX4_acts_59 ?_
        refine v_ldc (16777215) kc_X4_106 (by decide) dX4_acts_60 ?_
        refine v_iand dX4_acts_62 ?_
        refine o_eqI (u := ((sAct0 v false : Nat) : Int)) (by first | with_reducible exact ac0_f1 hI hc | with_reducible exact ac0_f0 hI hc) ?_
        refine o_iast (j := 0) (by omega) (rfl : SH 120 = _) (by omega) (by omega) dX4_acts_63 ?_
        refine v_aload_n 0 dX4_acts_64 rfl rfl ?_
        refine v_getR lk_X4_38 rfl (rfl : SH 110 = _) (mo_11 hLM) dX4_acts_65 ?_
        refine v_iconst dX4_acts_68 ?_
        refine v_iload_n 3 dX4_acts_69 rfl rfl ?_
        refine v_aload_n 0 dX4_acts_70 rfl rfl ?_
        refine v_getR lk_X4_7 rfl (rfl : SH 110 = _) (mo_0 hLM) dX4_acts_71 ?_
        refine v_bipush dX4_acts_74 (by decide) ?_
        refine o_iald (j := 10) (u := v (10)) (rfl : SH 111 = _) (by omega) (by omega) (by simp [vup, hv]) dX4_acts_76 ?_
        refine v_iconst dX4_acts_77 ?_
        refine v_iand dX4_acts_78 ?_
        refine v_iconst dX4_acts_79 ?_
        have e1 := nu_cp1 hk.1.1 hk.1.2
        refine v_icmp_ne 92 dX4_acts_80 (by decide) (vand_R _ _) (by decide) (fun h80 => ?_) (fun h80 => ?_)
        · skip
          have hd : ¬ v 10 % 2 = 1 := fun q => h80 (e1.mpr q)
          refine v_iconst dX4_acts_92 ?_
          refine v_ior dX4_acts_93 ?_
          refine o_eqI (u := ((sAct1 v false : Nat) : Int)) (by first | with_reducible exact ac1_f1 hI hd | with_reducible exact ac1_f0 hI hd) ?_
          refine o_iast (j := 1) (by omega) (rfl : SH 120 = _) (by omega) (by omega) dX4_acts_94 ?_
          refine o_ret hQ hlk hrt dX4_acts_95 ?_
          exact ⟨rfl, fr_up (fr_up fr_rf (by decide) _ _) (by decide) _ _, fun m hm => by rcases (show m = 0 ∨ m = 1 by omega) with rfl | rfl <;> simp [vup, sAct]⟩
        · skip
          have hd := e1.mp h80
          refine v_aload_n 0 dX4_acts_83 rfl rfl ?_
          refine v_getR lk_X4_38 rfl (rfl : SH 110 = _) (mo_11 hLM) dX4_acts_84 ?_
          refine v_iconst dX4_acts_87 ?_
          refine o_iald (j := 0) (u := ((sAct0 v false : Nat) : Int)) (rfl : SH 120 = _) (by omega) (by omega) (by simp [vup]) dX4_acts_88 ?_
          refine v_goto 93 dX4_acts_89 (by decide) ?_
          refine v_ior dX4_acts_93 ?_
          refine o_eqI (u := ((sAct1 v false : Nat) : Int)) (by first | with_reducible exact ac1_f1 hI hd | with_reducible exact ac1_f0 hI hd) ?_
          refine o_iast (j := 1) (by omega) (rfl : SH 120 = _) (by omega) (by omega) dX4_acts_94 ?_
          refine o_ret hQ hlk hrt dX4_acts_95 ?_
          exact ⟨rfl, fr_up (fr_up fr_rf (by decide) _ _) (by decide) _ _, fun m hm => by rcases (show m = 0 ∨ m = 1 by omega) with rfl | rfl <;> simp [vup, sAct]⟩
      · skip
        have hc := e2.mp h48
        refine v_iload_n 2 dX4_acts_51 rfl rfl ?_
        refine v_bipush dX4_acts_52 (by decide) ?_
        refine v_ishl dX4_acts_54 ?_
        refine v_goto 59 dX4_acts_55 (by decide) ?_
        refine v_ior dX4_acts_59 ?_
        refine v_ldc (16777215) kc_X4_106 (by decide) dX4_acts_60 ?_
        refine v_iand dX4_acts_62 ?_
        refine o_eqI (u := ((sAct0 v false : Nat) : Int)) (by first | with_reducible exact ac0_f1 hI hc | with_reducible exact ac0_f0 hI hc) ?_
        refine o_iast (j := 0) (by omega) (rfl : SH 120 = _) (by omega) (by omega) dX4_acts_63 ?_
        refine v_aload_n 0 dX4_acts_64 rfl rfl ?_
        refine v_getR lk_X4_38 rfl (rfl : SH 110 = _) (mo_11 hLM) dX4_acts_65 ?_
        refine v_iconst dX4_acts_68 ?_
        refine v_iload_n 3 dX4_acts_69 rfl rfl ?_
        refine v_aload_n 0 dX4_acts_70 rfl rfl ?_
        refine v_getR lk_X4_7 rfl (rfl : SH 110 = _) (mo_0 hLM) dX4_acts_71 ?_
        refine v_bipush dX4_acts_74 (by decide) ?_
        refine o_iald (j := 10) (u := v (10)) (rfl : SH 111 = _) (by omega) (by omega) (by simp [vup, hv]) dX4_acts_76 ?_
        refine v_iconst dX4_acts_77 ?_
        refine v_iand dX4_acts_78 ?_
        refine v_iconst dX4_acts_79 ?_
        have e1 := nu_cp1 hk.1.1 hk.1.2
        refine v_icmp_ne 92 dX4_acts_80 (by decide) (vand_R _ _) (by decide) (fun h80 => ?_) (fun h80 => ?_)
        · skip
          have hd : ¬ v 10 % 2 = 1 := fun q => h80 (e1.mpr q)
          refine v_iconst dX4_acts_92 ?_
          refine v_ior dX4_acts_93 ?_
          refine o_eqI (u := ((sAct1 v false : Nat) : Int)) (by first | with_reducible exact ac1_f1 hI hd | with_reducible exact ac1_f0 hI hd) ?_
          refine o_iast (j := 1) (by omega) (rfl : SH 120 = _) (by omega) (by omega) dX4_acts_94 ?_
          refine o_ret hQ hlk hrt dX4_acts_95 ?_
          exact ⟨rfl, fr_up (fr_up fr_rf (by decide) _ _) (by decide) _ _, fun m hm => by rcases (show m = 0 ∨ m = 1 by omega) with rfl | rfl <;> simp [vup, sAct]⟩
        · skip
          have hd := e1.mp h80
          refine v_aload_n 0 dX4_acts_83 rfl rfl ?_
          refine v_getR lk_X4_38 rfl (rfl : SH 110 = _) (mo_11 hLM) dX4_acts_84 ?_
          refine v_iconst dX4_acts_87 ?_
          refine o_iald (j := 0) (u := ((sAct0 v false : Nat) : Int)) (rfl : SH 120 = _) (by omega) (by omega) (by simp [vup]) dX4_acts_88 ?_
          refine v_goto 93 dX4_acts_89 (by decide) ?_
          refine v_ior dX4_acts_93 ?_
          refine o_eqI (u := ((sAct1 v false : Nat) : Int)) (by first | with_reducible exact ac1_f1 hI hd | with_reducible exact ac1_f0 hI hd) ?_
          refine o_iast (j := 1) (by omega) (rfl : SH 120 = _) (by omega) (by omega) dX4_acts_94 ?_
          refine o_ret hQ hlk hrt dX4_acts_95 ?_
          exact ⟨rfl, fr_up (fr_up fr_rf (by decide) _ _) (by decide) _ _, fun m hm => by rcases (show m = 0 ∨ m = 1 by omega) with rfl | rfl <;> simp [vup, sAct]⟩
    · skip
      exact absurd h17 (by decide)
  · skip
    exact absurd h1 (by decide)
end
section
/-! ===== the twin: lays ===== -/
def SC4 (v : Sg) (st : Nat) (pr : Bool) (N : Mem) : Prop := (∀ m, m < 2 → N.1 120 m = ((sAct v pr m : Nat) : Int)) ∧ (∀ s, s < 8 → N.1 121 s = ((sOpn v st pr s : Nat) : Int)) ∧ (∀ m, m < 2 → N.1 122 m = sNs v st pr m 192) ∧ (∀ m, m < 2 → N.1 123 m = sPr v st pr m)
/-- what lays has laid -/
def SC (v : Sg) (st : Nat) (pr : Bool) (N : Mem) : Prop := SC4 v st pr N ∧ (∀ p, p < 192 → N.1 124 p = sAs v st pr p) ∧ ∀ p, p < 192 → N.1 125 p = sGt v st pr p
theorem SC4.keep {v : Sg} {st : Nat} {pr : Bool} {N N' : Mem} (h : SC4 v st pr N) (h2 : fr [124, 125] N N') : SC4 v st pr N' := by
  obtain ⟨a, b, c, d⟩ := h
  refine ⟨?_, ?_, ?_, ?_⟩
  · rw [h2.2 120 (by decide)]; exact a
  · rw [h2.2 121 (by decide)]; exact b
  · rw [h2.2 122 (by decide)]; exact c
  · rw [h2.2 123 (by decide)]; exact d
theorem op_1 {v : Sg} (h : sInv v) {st s : Nat} {pr : Bool} (hs : s < 8) (hb : st.testBit s = true) : vor ((sAct v pr (sMan v s) : Nat) : Int) (v (256 + s)) = ((sOpn v st pr s : Nat) : Int) := by
  have h1 := sAct_lt h pr (sMan v s)
  have h2 := (iv_st h hs).2.2.2.2
  rw [nu_or (by omega) (by omega) (by omega) (by omega), Int.toNat_natCast, sOpn, if_pos hb]
theorem op_0 {v : Sg} {st s : Nat} {pr : Bool} (hb : ¬ st.testBit s = true) : (0 : Int) = ((sOpn v st pr s : Nat) : Int) := by
  rw [sOpn, if_neg hb]
  rfl
theorem na_1 {v : Sg} {st s k : Nat} {pr : Bool} (hb : (sOpn v st pr s).testBit k = true) : sNeed v s k = sNa v st pr s k := by rw [sNa, if_pos hb]
theorem na_0 {v : Sg} {st s k : Nat} {pr : Bool} (hb : ¬ (sOpn v st pr s).testBit k = true) : (0 : Int) = sNa v st pr s k := by rw [sNa, if_neg hb]
theorem ak_1 {v : Sg} (h : sInv v) {st s k : Nat} {pr : Bool} (hs : s < 8) (hk : k < 24) (hb : (sOpn v st pr s).testBit k = true) : (sNeed v s k * sPr v st pr (sMan v s)).tdiv (v 1) = sAk v st pr s k := by
  have h1 := sNeed_b h hs hk
  have h2 := sPr_b h st pr (sMan_lt h hs).1
  rw [sAk, if_pos hb, nu_tdiv (Int.mul_nonneg (by omega) (by omega))]
theorem ak_0 {v : Sg} {st s k : Nat} {pr : Bool} (hb : ¬ (sOpn v st pr s).testBit k = true) : (0 : Int) = sAk v st pr s k := by rw [sAk, if_neg hb]
theorem ak_R {v : Sg} (h : sInv v) {st s k : Nat} {pr : Bool} (hs : s < 8) (hk : k < 24) : R32 (sNeed v s k * sPr v st pr (sMan v s)) := by
  have h1 := sNeed_b h hs hk
  have h2 := sPr_b h st pr (sMan_lt h hs).1
  have h3 := iv_set h
  have h4 : 0 ≤ sNeed v s k * sPr v st pr (sMan v s) := Int.mul_nonneg (by omega) (by omega)
  have h5 : sNeed v s k * sPr v st pr (sMan v s) ≤ sNeed v s k * 200 := Int.mul_le_mul_of_nonneg_left (by omega) (by omega)
  omega
theorem nl_b {v : Sg} (h : sInv v) {st m : Nat} {pr : Bool} (hm : m < 2) : 0 ≤ sNs v st pr m 192 * v (2 + m) ∧ sNs v st pr m 192 * v (2 + m) ≤ 900000 := by
  have h2 := sNs_b h st pr m 192 (Nat.le_refl _)
  have h3 := iv_los h hm
  refine ⟨Int.mul_nonneg h2.1 h3.1, ?_⟩
  have h4 : sNs v st pr m 192 * v (2 + m) ≤ sNs v st pr m 192 * 100 := Int.mul_le_mul_of_nonneg_left (by omega) (by omega)
  omega
theorem nd_up {v : Sg} {st s k : Nat} {pr : Bool} {N : Mem} (hk : k < 24) (hn : ∀ m, m < 2 → N.1 122 m = sNs v st pr m (24 * s + k)) (m : Nat) (hm : m < 2) : vup N.1 122 (sMan v s) (sNs v st pr (sMan v s) (24 * s + k) + sNa v st pr s k) 122 m = sNs v st pr m (24 * s + (k + 1)) := by
  rw [vup_in, sNs_step _ _ _ _ _ hk]
  by_cases h : m = sMan v s
  · subst h
    rw [if_pos rfl, if_pos rfl]
  · rw [if_neg h, if_neg (fun q => h q.symm), hn m hm]
    omega
theorem as_up {v : Sg} {st s k : Nat} {pr : Bool} {f : Nat → Int} (hk : k < 24) (h : ∀ p, p < 24 * s + k → f p = sAs v st pr p) (p : Nat) (hp : p < 24 * s + (k + 1)) : (if p = 24 * s + k then sAk v st pr s k else f p) = sAs v st pr p := by
  by_cases e : p = 24 * s + k
  · rw [if_pos e, e, sAs_at _ _ _ _ hk]
  · rw [if_neg e]; exact h p (by omega)
theorem gt_up {v : Sg} {st s k : Nat} {pr : Bool} {f : Nat → Int} (hk : k < 24) (h : ∀ p, p < 24 * s + k → f p = sGt v st pr p) (p : Nat) (hp : p < 24 * s + (k + 1)) : (if p = 24 * s + k then min (sAk v st pr s k) (sLf v st pr (24 * s + k)) else f p) = sGt v st pr p := by
  by_cases e : p = 24 * s + k
  · rw [if_pos e, e, sGt, sAs_at _ _ _ _ hk]
  · rw [if_neg e]; exact h p (by omega)
set_option maxRecDepth 100000 in
set_option maxHeartbeats 400000 in
theorem c_X4_lays_t {l : Launch} {G : vGG} {M : Mem} {v : Sg} (hLM : LayM M.2) (hv : M.1 111 = v) (hI : sInv v) {st : Nat} (hst : st < 256) : Co l yX4_lays cX4_lays 8 none (rmo 1 23) G [aR (some 110), aI (st : Int), aI 1] M (fun r M' => r = none ∧ fr [120, 121, 122, 123, 124, 125] M M' ∧ SC v st true M') := by
  refine Co.ofV (plainFor_of_name (by decide)) rfl rfl ?_
  intro x hxl hxR hlk hrt Q hQ
  show vO x Q G cX4_lays RX4 0 [some (aR (some 110)), some (aI (st : Int)), some (aI 1), none, none, none, none, none] [] M
  refine v_aload_n 0 dX4_lays_0 rfl rfl ?_
  refine v_iload_n 2 dX4_lays_1 rfl rfl ?_
  refine oVp1 4 (c_X4_acts_t hLM hv hI) k0_X4_acts ki_X4_acts ml_X4_107 (rfl : SH 110 = _) (by decide) (vRo_of hxR (by decide) (by decide)) dX4_lays_2 (Nat.le_of_ble_eq_true rfl) (fun r N hN => ?_)
  obtain ⟨rfl, hF1, hac⟩ := hN
  have hFN : fr [120, 121, 122, 123, 124, 125] M N := fr_tr fr_rf hF1 (by decide)
  have hLN := fr_lay hFN hLM
  have hvN : N.1 111 = v := (hFN.2 111 (by decide)).trans hv
  show vO x Q G cX4_lays RX4 5 [some (aR (some 110)), some (aI (st : Int)), some (aI 1), none, none, none, none, none] [] N
  refine v_aload_n 0 dX4_lays_5 rfl rfl ?_
  refine v_getR lk_X4_44 rfl (rfl : SH 110 = _) (mo_13 hLN) dX4_lays_6 ?_
  refine v_iconst dX4_lays_9 ?_
  refine v_iconst dX4_lays_10 ?_
  refine o_iast (j := 0) (by omega) (rfl : SH 122 = _) (by omega) (by omega) dX4_lays_11 ?_
  refine v_aload_n 0 dX4_lays_12 rfl rfl ?_
  refine v_getR lk_X4_44 rfl (rfl : SH 110 = _) (mo_13 hLN) dX4_lays_13 ?_
  refine v_iconst dX4_lays_16 ?_
  refine v_iconst dX4_lays_17 ?_
  refine o_iast (j := 1) (by omega) (rfl : SH 122 = _) (by omega) (by omega) dX4_lays_18 ?_
  refine v_iconst dX4_lays_19 ?_
  refine v_ist3 dX4_lays_20 rfl ?_
  have lp21 : ∀ (dd s : Nat) (K : Mem) (c4 c5 : Option AV), s + dd = 8 → fr [120, 121, 122, 123, 124, 125] M K → (∀ m, m < 2 → K.1 120 m = ((sAct v true m : Nat) : Int)) → (∀ j, j < s → K.1 121 j = ((sOpn v st true j : Nat) : Int)) → (∀ m, m < 2 → K.1 122 m = sNs v st true m (24 * s)) → vO x Q G cX4_lays RX4 21 [some (aR (some 110)), some (aI (st : Int)), some (aI 1), some (aI (s : Int)), c4, c5, none, none] [] K := by
    intro dd
    induction dd with
    | zero =>
      intro s K c4 c5 hd hFK hacK hopK hndK
      have hLK := fr_lay hFK hLM
      have hvK : K.1 111 = v := (hFK.2 111 (by decide)).trans hv
      refine v_iload_n 3 dX4_lays_21 rfl rfl ?_
      refine v_bipush dX4_lays_22 (by decide) ?_
      refine v_icmp_ge 135 dX4_lays_24 (by decide) (by omega) (by decide) (fun h24 => ?_) (fun h24 => ?_)
      · skip
        refine v_iconst dX4_lays_135 ?_
        refine v_ist3 dX4_lays_136 rfl ?_
        have lp137 : ∀ (dd m : Nat) (N : Mem) (c4 c5 : Option AV), m + dd = 2 → fr [120, 121, 122, 123, 124, 125] M N → (∀ m, m < 2 → N.1 120 m = ((sAct v true m : Nat) : Int)) → (∀ j, j < 8 → N.1 121 j = ((sOpn v st true j : Nat) : Int)) → (∀ m, m < 2 → N.1 122 m = sNs v st true m 192) → (∀ j, j < m → N.1 123 j = sPr v st true j) → vO x Q G cX4_lays RX4 137 [some (aR (some 110)), some (aI (st : Int)), some (aI 1), some (aI (m : Int)), c4, c5, none, none] [] N := by
          intro dd
          induction dd with
          | zero =>
            intro m N c4 c5 hd hFN hacN hopN hndN hprN
            have hLN := fr_lay hFN hLM
            have hvN : N.1 111 = v := (hFN.2 111 (by decide)).trans hv
            refine v_iload_n 3 dX4_lays_137 rfl rfl ?_
            refine v_iconst dX4_lays_138 ?_
            refine v_icmp_ge 190 dX4_lays_139 (by decide) (by omega) (by decide) (fun h139 => ?_) (fun h139 => ?_)
            · skip
              refine v_aload_n 0 dX4_lays_190 rfl rfl ?_
              refine v_getR lk_X4_7 rfl (rfl : SH 110 = _) (mo_0 hLN) dX4_lays_191 ?_
              refine v_iconst dX4_lays_194 ?_
              refine o_iald (j := 0) (u := v (0)) (rfl : SH 111 = _) (by omega) (by omega) (by rw [hvN]) dX4_lays_195 ?_
              refine v_ist3 dX4_lays_196 rfl ?_
              refine v_iconst dX4_lays_197 ?_
              refine v_ist4 dX4_lays_198 rfl ?_
              have lp200 : ∀ (dd s : Nat) (K : Mem) (c5 c6 c7 : Option AV), s + dd = 8 → fr [120, 121, 122, 123, 124, 125] M K → SC4 v st true K → (∀ p, p < 24 * s → K.1 124 p = sAs v st true p) → (∀ p, p < 24 * s → K.1 125 p = sGt v st true p) → vO x Q G cX4_lays RX4 200 [some (aR (some 110)), some (aI (st : Int)), some (aI 1), some (aI (sLf v st true (24 * s))), some (aI (s : Int)), c5, c6, c7] [] K := by
                intro dd
                induction dd with
                | zero =>
                  intro s K c5 c6 c7 hd hFK h4K haK hgK
                  have hLK := fr_lay hFK hLM
                  have hvK : K.1 111 = v := (hFK.2 111 (by decide)).trans hv
                  refine v_iload dX4_lays_200 rfl ?_
                  refine v_bipush dX4_lays_202 (by decide) ?_
                  refine v_icmp_ge 333 dX4_lays_204 (by decide) (by omega) (by decide) (fun h204 => ?_) (fun h204 => ?_)
                  · skip
                    refine o_ret hQ hlk hrt dX4_lays_333 ?_
                    exact ⟨rfl, hFK, h4K, fun p hp => haK p (by omega), fun p hp => hgK p (by omega)⟩
                  · skip
                    exact absurd h204 (by omega)
                | succ dd ih =>
                  intro s K c5 c6 c7 hd hFK h4K haK hgK
                  have hLK := fr_lay hFK hLM
                  have hvK : K.1 111 = v := (hFK.2 111 (by decide)).trans hv
                  refine v_iload dX4_lays_200 rfl ?_
                  refine v_bipush dX4_lays_202 (by decide) ?_
                  refine v_icmp_ge 333 dX4_lays_204 (by decide) (by omega) (by decide) (fun h204 => ?_) (fun h204 => ?_)
                  · skip
                    exact absurd h204 (by omega)
                  · skip
                    have hs : s < 8 := by omega
                    have hmn := sMan_lt hI hs
                    refine v_iconst dX4_lays_207 ?_
                    refine v_ist5 dX4_lays_208 rfl ?_
                    have lp210 : ∀ (dd k : Nat) (N : Mem) (c6 c7 : Option AV), k + dd = 24 → fr [120, 121, 122, 123, 124, 125] M N → SC4 v st true N → (∀ p, p < 24 * s + k → N.1 124 p = sAs v st true p) → (∀ p, p < 24 * s + k → N.1 125 p = sGt v st true p) → vO x Q G cX4_lays RX4 210 [some (aR (some 110)), some (aI (st : Int)), some (aI 1), some (aI (sLf v st true (24 * s + k))), some (aI (s : Int)), some (aI (k : Int)), c6, c7] [] N := by
                      intro dd
                      induction dd with
                      | zero =>
                        intro k N c6 c7 hd2 hFN h4N haN hgN
                        have hLN := fr_lay hFN hLM
                        have hvN : N.1 111 = v := (hFN.2 111 (by decide)).trans hv
                        refine v_iload dX4_lays_210 rfl ?_
                        refine v_bipush dX4_lays_212 (by decide) ?_
                        refine v_icmp_ge 327 dX4_lays_214 (by decide) (by omega) (by decide) (fun h214 => ?_) (fun h214 => ?_)
                        · skip
                          refine v_iinc4 dX4_lays_327 rfl ?_
                          refine v_goto 200 dX4_lays_330 (by decide) ?_
                          rw [show 24 * s + k = 24 * (s + 1) by omega] at haN hgN ⊢
                          exact ih (s + 1) N _ _ _ (by omega) hFN h4N haN hgN
                        · skip
                          exact absurd h214 (by omega)
                      | succ dd ih =>
                        intro k N c6 c7 hd2 hFN h4N haN hgN
                        have hLN := fr_lay hFN hLM
                        have hvN : N.1 111 = v := (hFN.2 111 (by decide)).trans hv
                        refine v_iload dX4_lays_210 rfl ?_
                        refine v_bipush dX4_lays_212 (by decide) ?_
                        refine v_icmp_ge 327 dX4_lays_214 (by decide) (by omega) (by decide) (fun h214 => ?_) (fun h214 => ?_)
                        · skip
                          exact absurd h214 (by omega)
                        · skip
                          have hk : k < 24 := by omega
                          have hol := sOpn_lt hI st true hs
                          have hlf := sLf_b hI st true (24 * s + k) (by omega)
                          have hak := sAk_b hI st true hs hk
                          have hs1 := iv_set hI
                          have hb1 := iv_bel hI
                          refine v_aload_n 0 dX4_lays_217 rfl rfl ?_
                          refine v_getR lk_X4_41 rfl (rfl : SH 110 = _) (mo_12 hLN) dX4_lays_218 ?_
                          refine v_iload dX4_lays_221 rfl ?_
                          refine o_iald (j := s) (u := ((sOpn v st true (s) : Nat) : Int)) (rfl : SH 121 = _) (by omega) (by omega) (h4N.2.1 _ (by omega)) dX4_lays_223 ?_
                          refine v_iload dX4_lays_224 rfl ?_
                          refine v_ishr dX4_lays_226 ?_
                          refine v_iconst dX4_lays_227 ?_
                          refine v_iand dX4_lays_228 ?_
                          refine o_eqI (nu_bitN (n := sOpn v st true s) (by omega) (by omega)) ?_
                          refine v_iconst dX4_lays_229 ?_
                          have jn270 : ∀ z : Int, z = sAk v st true s k → vO x Q G cX4_lays RX4 270 [some (aR (some 110)), some (aI (st : Int)), some (aI 1), some (aI (sLf v st true (24 * s + k))), some (aI (s : Int)), some (aI (k : Int)), c6, c7] [aI z] N := by
                            intro z hz
                            subst hz
                            refine v_ist6 dX4_lays_270 rfl ?_
                            refine v_iload dX4_lays_272 rfl ?_
                            refine v_iload_n 3 dX4_lays_274 rfl rfl ?_
                            have jn284 : ∀ z : Int, z = min (sAk v st true s k) (sLf v st true (24 * s + k)) → vO x Q G cX4_lays RX4 284 [some (aR (some 110)), some (aI (st : Int)), some (aI 1), some (aI (sLf v st true (24 * s + k))), some (aI (s : Int)), some (aI (k : Int)), some (aI (sAk v st true s k)), c7] [aI z] N := by
                              intro z hz
                              subst hz
                              refine v_ist7 dX4_lays_284 rfl ?_
                              refine v_aload_n 0 dX4_lays_286 rfl rfl ?_
                              refine v_getR lk_X4_50 rfl (rfl : SH 110 = _) (mo_15 hLN) dX4_lays_287 ?_
                              refine v_bipush dX4_lays_290 (by decide) ?_
                              refine v_iload dX4_lays_292 rfl ?_
                              refine v_imul dX4_lays_294 ?_
                              refine v_iload dX4_lays_295 rfl ?_
                              refine v_iadd dX4_lays_297 ?_
                              refine v_iload dX4_lays_298 rfl ?_
                              refine o_iast (j := (24 * s) + k) (by omega) (rfl : SH 124 = _) (by omega) (by omega) dX4_lays_300 ?_
                              refine v_aload_n 0 dX4_lays_301 rfl rfl ?_
                              refine v_getR lk_X4_53 rfl (rfl : SH 110 = _) (mo_16 hLN) dX4_lays_302 ?_
                              refine v_bipush dX4_lays_305 (by decide) ?_
                              refine v_iload dX4_lays_307 rfl ?_
                              refine v_imul dX4_lays_309 ?_
                              refine v_iload dX4_lays_310 rfl ?_
                              refine v_iadd dX4_lays_312 ?_
                              refine v_iload dX4_lays_313 rfl ?_
                              refine o_iast (j := (24 * s) + k) (by omega) (rfl : SH 125 = _) (by omega) (by omega) dX4_lays_315 ?_
                              refine v_iload_n 3 dX4_lays_316 rfl rfl ?_
                              refine v_iload dX4_lays_317 rfl ?_
                              refine v_isub dX4_lays_319 ?_
                              refine v_ist3 dX4_lays_320 rfl ?_
                              refine v_iinc5 dX4_lays_321 rfl ?_
                              refine v_goto 210 dX4_lays_324 (by decide) ?_
                              rw [← sLf_step v st true s hk]
                              exact ih (k + 1) _ _ _ (by omega) (fr_up (fr_up hFN (by decide) _ _) (by decide) _ _) (h4N.keep (fr_up (fr_up fr_rf (by decide) _ _) (by decide) _ _)) (fun p hp => by simpa [vup] using as_up hk haN p hp) (fun p hp => by simpa [vup] using gt_up hk hgN p hp)
                            refine v_icmp_ge 283 dX4_lays_275 (by decide) (by omega) (by omega) (fun h275 => ?_) (fun h275 => ?_)
                            · skip
                              refine v_iload_n 3 dX4_lays_283 rfl rfl ?_
                              exact jn284 _ (by omega)
                            · skip
                              refine v_iload dX4_lays_278 rfl ?_
                              refine v_goto 284 dX4_lays_280 (by decide) ?_
                              exact jn284 _ (by omega)
                          refine v_icmp_ne 269 dX4_lays_230 (by decide) (bP_R _) (by decide) (fun h230 => ?_) (fun h230 => ?_)
                          · skip
                            refine v_iconst dX4_lays_269 ?_
                            first | with_reducible exact jn270 _ (ak_1 hI hs hk (bP_1.mp h230)) | with_reducible exact jn270 _ (ak_0 (mt bP_1.mpr h230))
                          · skip
                            refine v_aload_n 0 dX4_lays_233 rfl rfl ?_
                            refine v_iload dX4_lays_234 rfl ?_
                            refine v_iload dX4_lays_236 rfl ?_
                            refine oVv2 4 (c_X4_need hLN hvN hI hs hk) k0_X4_need ki_X4_need ml_X4_111 (rfl : SH 110 = _) (by decide) (vRo_of hxR (by decide) (by decide)) dX4_lays_238 (Nat.le_of_ble_eq_true rfl) ?_
                            refine v_aload_n 0 dX4_lays_241 rfl rfl ?_
                            refine v_getR lk_X4_47 rfl (rfl : SH 110 = _) (mo_14 hLN) dX4_lays_242 ?_
                            refine v_aload_n 0 dX4_lays_245 rfl rfl ?_
                            refine v_getR lk_X4_7 rfl (rfl : SH 110 = _) (mo_0 hLN) dX4_lays_246 ?_
                            refine v_bipush dX4_lays_249 (by decide) ?_
                            refine v_iconst dX4_lays_251 ?_
                            refine v_iload dX4_lays_252 rfl ?_
                            refine v_imul dX4_lays_254 ?_
                            refine v_iadd dX4_lays_255 ?_
                            refine o_iald (j := 24 + (5 * s)) (u := ((sMan v s : Nat) : Int)) (rfl : SH 111 = _) (by omega) (by omega) (by rw [hvN]; exact hmn.2) dX4_lays_256 ?_
                            refine o_iald (j := sMan v s) (u := sPr v st true (sMan v s)) (rfl : SH 123 = _) (by omega) (by omega) (h4N.2.2.2 _ hmn.1) dX4_lays_257 ?_
                            refine v_imul dX4_lays_258 ?_
                            refine v_aload_n 0 dX4_lays_259 rfl rfl ?_
                            refine v_getR lk_X4_7 rfl (rfl : SH 110 = _) (mo_0 hLN) dX4_lays_260 ?_
                            refine v_iconst dX4_lays_263 ?_
                            refine o_iald (j := 1) (u := v (1)) (rfl : SH 111 = _) (by omega) (by omega) (by rw [hvN]) dX4_lays_264 ?_
                            refine v_idiv dX4_lays_265 (ak_R hI hs hk) (by omega) (by omega) ?_
                            refine v_goto 270 dX4_lays_266 (by decide) ?_
                            first | with_reducible exact jn270 _ (ak_1 hI hs hk (bP_1.mp h230)) | with_reducible exact jn270 _ (ak_0 (mt bP_1.mpr h230))
                    exact lp210 24 0 _ _ _ rfl hFK h4K haK hgK
              exact lp200 8 0 _ _ _ _ rfl hFN ⟨hacN, hopN, hndN, fun j hj => hprN j (by omega)⟩ (fun p hp => absurd hp (by omega)) (fun p hp => absurd hp (by omega))
            · skip
              exact absurd h139 (by omega)
          | succ dd ih =>
            intro m N c4 c5 hd hFN hacN hopN hndN hprN
            have hLN := fr_lay hFN hLM
            have hvN : N.1 111 = v := (hFN.2 111 (by decide)).trans hv
            refine v_iload_n 3 dX4_lays_137 rfl rfl ?_
            refine v_iconst dX4_lays_138 ?_
            refine v_icmp_ge 190 dX4_lays_139 (by decide) (by omega) (by decide) (fun h139 => ?_) (fun h139 => ?_)
            · skip
              exact absurd h139 (by omega)
            · skip
              have hm2 : m < 2 := by omega
              have hnl := nl_b hI (st := st) (pr := true) hm2
              have hr1 := sRes_b hI
              have hs1 := iv_set hI
              refine v_aload_n 0 dX4_lays_142 rfl rfl ?_
              refine oVv0 4 (c_X4_reservoir hLN hvN hI) k0_X4_reservoir ki_X4_reservoir ml_X4_114 (rfl : SH 110 = _) (by decide) (vRo_of hxR (by decide) (by decide)) dX4_lays_143 (Nat.le_of_ble_eq_true rfl) ?_
              refine v_aload_n 0 dX4_lays_146 rfl rfl ?_
              refine v_getR lk_X4_44 rfl (rfl : SH 110 = _) (mo_13 hLN) dX4_lays_147 ?_
              refine v_iload_n 3 dX4_lays_150 rfl rfl ?_
              refine o_iald (j := m) (u := sNs v st true m 192) (rfl : SH 122 = _) (by omega) (by omega) (hndN _ hm2) dX4_lays_151 ?_
              refine v_aload_n 0 dX4_lays_152 rfl rfl ?_
              refine v_getR lk_X4_7 rfl (rfl : SH 110 = _) (mo_0 hLN) dX4_lays_153 ?_
              refine v_iconst dX4_lays_156 ?_
              refine v_iload_n 3 dX4_lays_157 rfl rfl ?_
              refine v_iadd dX4_lays_158 ?_
              refine o_iald (j := 2 + m) (u := v (2 + m)) (rfl : SH 111 = _) (by omega) (by omega) (by rw [hvN]) dX4_lays_159 ?_
              refine v_imul dX4_lays_160 ?_
              refine v_bipush dX4_lays_161 (by decide) ?_
              refine v_idiv dX4_lays_163 (by omega) (by decide) (by omega) ?_
              refine o_eqI (nu_tdiv hnl.1) ?_
              refine v_isub dX4_lays_164 ?_
              refine v_ist4 dX4_lays_165 rfl ?_
              refine v_aload_n 0 dX4_lays_167 rfl rfl ?_
              refine v_getR lk_X4_47 rfl (rfl : SH 110 = _) (mo_14 hLN) dX4_lays_168 ?_
              refine v_iload_n 3 dX4_lays_171 rfl rfl ?_
              refine v_iload dX4_lays_172 rfl ?_
              have jn183 : ∀ z : Int, z = sPr v st true m → vO x Q G cX4_lays RX4 183 [some (aR (some 110)), some (aI (st : Int)), some (aI 1), some (aI (m : Int)), some (aI (sRes v - sNs v st true m 192 * v (2 + m) / 100)), c5, none, none] [aI z, aI (m : Int), aR (some 123)] N := by
                intro z hz
                subst hz
                refine o_iast (j := m) (by omega) (rfl : SH 123 = _) (by omega) (by omega) dX4_lays_183 ?_
                refine v_iinc3 dX4_lays_184 rfl ?_
                refine v_goto 137 dX4_lays_187 (by decide) ?_
                exact ih (m + 1) _ _ _ (by omega) (fr_up hFN (by decide) _ _) (fun m hm => by simpa [vup] using hacN m hm) (fun j hj => by simpa [vup] using hopN j hj) (fun m hm => by simpa [vup] using hndN m hm) (fun j hj => by
                  show vup N.1 123 m _ 123 j = _
                  rw [vup_in]
                  by_cases e : j = m
                  · rw [if_pos e, e]
                  · rw [if_neg e]; exact hprN j (by omega))
              refine v_if_ge 181 dX4_lays_174 (by decide) (by omega) (fun h174 => ?_) (fun h174 => ?_)
              · skip
                refine v_iload dX4_lays_181 rfl ?_
                first | with_reducible exact jn183 _ (by unfold sPr; omega) | exact jn183 _ (by unfold sPr; omega)
              · skip
                refine v_iconst dX4_lays_177 ?_
                refine v_goto 183 dX4_lays_178 (by decide) ?_
                first | with_reducible exact jn183 _ (by unfold sPr; omega) | exact jn183 _ (by unfold sPr; omega)
        exact lp137 2 0 _ _ _ rfl hFK hacK (fun j hj => hopK j (by omega)) (fun m hm => by rw [hndK m hm]; congr 1; omega) (fun j hj => absurd hj (by omega))
      · skip
        exact absurd h24 (by omega)
    | succ dd ih =>
      intro s K c4 c5 hd hFK hacK hopK hndK
      have hLK := fr_lay hFK hLM
      have hvK : K.1 111 = v := (hFK.2 111 (by decide)).trans hv
      refine v_iload_n 3 dX4_lays_21 rfl rfl ?_
      refine v_bipush dX4_lays_22 (by decide) ?_
      refine v_icmp_ge 135 dX4_lays_24 (by decide) (by omega) (by decide) (fun h24 => ?_) (fun h24 => ?_)
      · skip
        exact absurd h24 (by omega)
      · skip
        have hs : s < 8 := by omega
        have hmn := sMan_lt hI hs
        refine v_aload_n 0 dX4_lays_27 rfl rfl ?_
        refine v_getR lk_X4_7 rfl (rfl : SH 110 = _) (mo_0 hLK) dX4_lays_28 ?_
        refine v_bipush dX4_lays_31 (by decide) ?_
        refine v_iconst dX4_lays_33 ?_
        refine v_iload_n 3 dX4_lays_34 rfl rfl ?_
        refine v_imul dX4_lays_35 ?_
        refine v_iadd dX4_lays_36 ?_
        refine o_iald (j := 24 + (5 * s)) (u := ((sMan v s : Nat) : Int)) (rfl : SH 111 = _) (by omega) (by omega) (by rw [hvK]; exact hmn.2) dX4_lays_37 ?_
        refine v_ist4 dX4_lays_38 rfl ?_
        refine v_aload_n 0 dX4_lays_40 rfl rfl ?_
        refine v_getR lk_X4_41 rfl (rfl : SH 110 = _) (mo_12 hLK) dX4_lays_41 ?_
        refine v_iload_n 3 dX4_lays_44 rfl rfl ?_
        refine v_iload_n 1 dX4_lays_45 rfl rfl ?_
        refine v_iload_n 3 dX4_lays_46 rfl rfl ?_
        refine v_ishr dX4_lays_47 ?_
        refine v_iconst dX4_lays_48 ?_
        refine v_iand dX4_lays_49 ?_
        refine o_eqI (nu_bitN (n := st) (by omega) (by omega)) ?_
        refine v_iconst dX4_lays_50 ?_
        have jn76 : ∀ z : Int, z = ((sOpn v st true s : Nat) : Int) → vO x Q G cX4_lays RX4 76 [some (aR (some 110)), some (aI (st : Int)), some (aI 1), some (aI (s : Int)), some (aI ((sMan v s : Nat) : Int)), c5, none, none] [aI z, aI (s : Int), aR (some 121)] K := by
          intro z hz
          subst hz
          refine o_iast (j := s) (by omega) (rfl : SH 121 = _) (by omega) (by omega) dX4_lays_76 ?_
          refine v_iconst dX4_lays_77 ?_
          refine v_ist5 dX4_lays_78 rfl ?_
          have lp80 : ∀ (dd k : Nat) (N : Mem), k + dd = 24 → fr [120, 121, 122, 123, 124, 125] M N → (∀ m, m < 2 → N.1 120 m = ((sAct v true m : Nat) : Int)) → (∀ j, j ≤ s → N.1 121 j = ((sOpn v st true j : Nat) : Int)) → (∀ m, m < 2 → N.1 122 m = sNs v st true m (24 * s + k)) → vO x Q G cX4_lays RX4 80 [some (aR (some 110)), some (aI (st : Int)), some (aI 1), some (aI (s : Int)), some (aI ((sMan v s : Nat) : Int)), some (aI (k : Int)), none, none] [] N := by
            intro dd
            induction dd with
            | zero =>
              intro k N hd2 hFN hacN hopN hndN
              have hLN := fr_lay hFN hLM
              have hvN : N.1 111 = v := (hFN.2 111 (by decide)).trans hv
              refine v_iload dX4_lays_80 rfl ?_
              refine v_bipush dX4_lays_82 (by decide) ?_
              refine v_icmp_ge 129 dX4_lays_84 (by decide) (by omega) (by decide) (fun h84 => ?_) (fun h84 => ?_)
              · skip
                refine v_iinc3 dX4_lays_129 rfl ?_
                refine v_goto 21 dX4_lays_132 (by decide) ?_
                exact ih (s + 1) N _ _ (by omega) hFN hacN (fun j hj => hopN j (by omega)) (fun m hm => by rw [hndN m hm]; congr 1; omega)
              · skip
                exact absurd h84 (by omega)
            | succ dd ih =>
              intro k N hd2 hFN hacN hopN hndN
              have hLN := fr_lay hFN hLM
              have hvN : N.1 111 = v := (hFN.2 111 (by decide)).trans hv
              refine v_iload dX4_lays_80 rfl ?_
              refine v_bipush dX4_lays_82 (by decide) ?_
              refine v_icmp_ge 129 dX4_lays_84 (by decide) (by omega) (by decide) (fun h84 => ?_) (fun h84 => ?_)
              · skip
                exact absurd h84 (by omega)
              · skip
                refine v_aload_n 0 dX4_lays_87 rfl rfl ?_
                refine v_getR lk_X4_44 rfl (rfl : SH 110 = _) (mo_13 hLN) dX4_lays_88 ?_
                refine v_iload dX4_lays_91 rfl ?_
                refine v_dup2 dX4_lays_93 rfl rfl ?_
                refine o_iald (j := sMan v s) (u := sNs v st true (sMan v s) (24 * s + k)) (rfl : SH 122 = _) (by omega) (by omega) (hndN _ hmn.1) dX4_lays_94 ?_
                refine v_aload_n 0 dX4_lays_95 rfl rfl ?_
                refine v_getR lk_X4_41 rfl (rfl : SH 110 = _) (mo_12 hLN) dX4_lays_96 ?_
                refine v_iload_n 3 dX4_lays_99 rfl rfl ?_
                refine o_iald (j := s) (u := ((sOpn v st true s : Nat) : Int)) (rfl : SH 121 = _) (by omega) (by omega) (hopN _ (Nat.le_refl _)) dX4_lays_100 ?_
                refine v_iload dX4_lays_101 rfl ?_
                refine v_ishr dX4_lays_103 ?_
                refine v_iconst dX4_lays_104 ?_
                refine v_iand dX4_lays_105 ?_
                have hol := sOpn_lt hI st true hs
                refine o_eqI (nu_bitN (n := sOpn v st true s) (by omega) (by omega)) ?_
                refine v_iconst dX4_lays_106 ?_
                have jn121 : ∀ z : Int, z = sNa v st true s k → vO x Q G cX4_lays RX4 121 [some (aR (some 110)), some (aI (st : Int)), some (aI 1), some (aI (s : Int)), some (aI ((sMan v s : Nat) : Int)), some (aI (k : Int)), none, none] [aI z, aI (sNs v st true (sMan v s) (24 * s + k)), aI ((sMan v s : Nat) : Int), aR (some 122)] N := by
                  intro z hz
                  subst hz
                  refine v_iadd dX4_lays_121 ?_
                  refine o_iast (j := sMan v s) (by omega) (rfl : SH 122 = _) (by omega) (by omega) dX4_lays_122 ?_
                  refine v_iinc5 dX4_lays_123 rfl ?_
                  refine v_goto 80 dX4_lays_126 (by decide) ?_
                  exact ih (k + 1) _ (by omega) (fr_up hFN (by decide) _ _) (fun m hm => by simpa [vup] using hacN m hm) (fun j hj => by simpa [vup] using hopN j hj) (nd_up (by omega) hndN)
                refine v_icmp_ne 120 dX4_lays_107 (by decide) (bP_R _) (by decide) (fun h107 => ?_) (fun h107 => ?_)
                · skip
                  refine v_iconst dX4_lays_120 ?_
                  first | with_reducible exact jn121 _ (na_1 (bP_1.mp h107)) | with_reducible exact jn121 _ (na_0 (mt bP_1.mpr h107))
                · skip
                  refine v_aload_n 0 dX4_lays_110 rfl rfl ?_
                  refine v_iload_n 3 dX4_lays_111 rfl rfl ?_
                  refine v_iload dX4_lays_112 rfl ?_
                  refine oVv2 4 (c_X4_need hLN hvN hI hs (by omega)) k0_X4_need ki_X4_need ml_X4_111 (rfl : SH 110 = _) (by decide) (vRo_of hxR (by decide) (by decide)) dX4_lays_114 (Nat.le_of_ble_eq_true rfl) ?_
                  refine v_goto 121 dX4_lays_117 (by decide) ?_
                  first | with_reducible exact jn121 _ (na_1 (bP_1.mp h107)) | with_reducible exact jn121 _ (na_0 (mt bP_1.mpr h107))
          exact lp80 24 0 _ rfl (fr_up hFK (by decide) _ _) (fun m hm => by simpa [vup] using hacK m hm) (fun j hj => by
              rw [show (vup K.1 121 s ((sOpn v st true s : Nat) : Int), K.2).1 = vup K.1 121 s ((sOpn v st true s : Nat) : Int) from rfl, vup_in]
              by_cases e : j = s
              · rw [if_pos e, e]
              · rw [if_neg e]; exact hopK j (by omega)) (fun m hm => by simpa [vup] using hndK m hm)
        refine v_icmp_ne 75 dX4_lays_51 (by decide) (bP_R _) (by decide) (fun h51 => ?_) (fun h51 => ?_)
        · skip
          refine v_iconst dX4_lays_75 ?_
          first | with_reducible exact jn76 _ (op_1 hI hs (bP_1.mp h51)) | with_reducible exact jn76 _ (op_0 (mt bP_1.mpr h51))
        · skip
          refine v_aload_n 0 dX4_lays_54 rfl rfl ?_
          refine v_getR lk_X4_38 rfl (rfl : SH 110 = _) (mo_11 hLK) dX4_lays_55 ?_
          refine v_iload dX4_lays_58 rfl ?_
          refine o_iald (j := sMan v s) (u := ((sAct v true (sMan v s) : Nat) : Int)) (rfl : SH 120 = _) (by omega) (by omega) (hacK _ (by omega)) dX4_lays_60 ?_
          refine v_aload_n 0 dX4_lays_61 rfl rfl ?_
          refine v_getR lk_X4_7 rfl (rfl : SH 110 = _) (mo_0 hLK) dX4_lays_62 ?_
          refine v_sipush dX4_lays_65 (by decide) ?_
          refine v_iload_n 3 dX4_lays_68 rfl rfl ?_
          refine v_iadd dX4_lays_69 ?_
          refine o_iald (j := 256 + s) (u := v (256 + s)) (rfl : SH 111 = _) (by omega) (by omega) (by rw [hvK]) dX4_lays_70 ?_
          refine v_ior dX4_lays_71 ?_
          refine v_goto 76 dX4_lays_72 (by decide) ?_
          first | with_reducible exact jn76 _ (op_1 hI hs (bP_1.mp h51)) | with_reducible exact jn76 _ (op_0 (mt bP_1.mpr h51))
  exact lp21 8 0 _ _ _ rfl (fr_up (fr_up hFN (by decide) _ _) (by decide) _ _) (fun m hm => by simpa [vup] using hac m hm) (fun j hj => absurd hj (by omega)) (fun m hm => by rcases (show m = 0 ∨ m = 1 by omega) with rfl | rfl <;> simp [vup, sNs])
set_option maxRecDepth 100000 in
set_option maxHeartbeats 400000 in
theorem c_X4_lays_f {l : Launch} {G : vGG} {M : Mem} {v : Sg} (hLM : LayM M.2) (hv : M.1 111 = v) (hI : sInv v) {st : Nat} (hst : st < 256) : Co l yX4_lays cX4_lays 8 none (rmo 1 23) G [aR (some 110), aI (st : Int), aI 0] M (fun r M' => r = none ∧ fr [120, 121, 122, 123, 124, 125] M M' ∧ SC v st false M') := by
  refine Co.ofV (plainFor_of_name (by decide)) rfl rfl ?_
  intro x hxl hxR hlk hrt Q hQ
  show vO x Q G cX4_lays RX4 0 [some (aR (some 110)), some (aI (st : Int)), some (aI 0), none, none, none, none, none] [] M
  refine v_aload_n 0 dX4_lays_0 rfl rfl ?_
  refine v_iload_n 2 dX4_lays_1 rfl rfl ?_
  refine oVp1 4 (c_X4_acts_f hLM hv hI) k0_X4_acts ki_X4_acts ml_X4_107 (rfl : SH 110 = _) (by decide) (vRo_of hxR (by decide) (by decide)) dX4_lays_2 (Nat.le_of_ble_eq_true rfl) (fun r N hN => ?_)
  obtain ⟨rfl, hF1, hac⟩ := hN
  have hFN : fr [120, 121, 122, 123, 124, 125] M N := fr_tr fr_rf hF1 (by decide)
  have hLN := fr_lay hFN hLM
  have hvN : N.1 111 = v := (hFN.2 111 (by decide)).trans hv
  show vO x Q G cX4_lays RX4 5 [some (aR (some 110)), some (aI (st : Int)), some (aI 0), none, none, none, none, none] [] N
  refine v_aload_n 0 dX4_lays_5 rfl rfl ?_
  refine v_getR lk_X4_44 rfl (rfl : SH 110 = _) (mo_13 hLN) dX4_lays_6 ?_
  refine v_iconst dX4_lays_9 ?_
  refine v_iconst dX4_lays_10 ?_
  refine o_iast (j := 0) (by omega) (rfl : SH 122 = _) (by omega) (by omega) dX4_lays_11 ?_
  refine v_aload_n 0 dX4_lays_12 rfl rfl ?_
  refine v_getR lk_X4_44 rfl (rfl : SH 110 = _) (mo_13 hLN) dX4_lays_13 ?_
  refine v_iconst dX4_lays_16 ?_
  refine v_iconst dX4_lays_17 ?_
  refine o_iast (j := 1) (by omega) (rfl : SH 122 = _) (by omega) (by omega) dX4_lays_18 ?_
  refine v_iconst dX4_lays_19 ?_
  refine v_ist3 dX4_lays_20 rfl ?_
  have lp21 : ∀ (dd s : Nat) (K : Mem) (c4 c5 : Option AV), s + dd = 8 → fr [120, 121, 122, 123, 124, 125] M K → (∀ m, m < 2 → K.1 120 m = ((sAct v false m : Nat) : Int)) → (∀ j, j < s → K.1 121 j = ((sOpn v st false j : Nat) : Int)) → (∀ m, m < 2 → K.1 122 m = sNs v st false m (24 * s)) → vO x Q G cX4_lays RX4 21 [some (aR (some 110)), some (aI (st : Int)), some (aI 0), some (aI (s : Int)), c4, c5, none, none] [] K := by
    intro dd
    induction dd with
    | zero =>
      intro s K c4 c5 hd hFK hacK hopK hndK
      have hLK := fr_lay hFK hLM
      have hvK : K.1 111 = v := (hFK.2 111 (by decide)).trans hv
      refine v_iload_n 3 dX4_lays_21 rfl rfl ?_
      refine v_bipush dX4_lays_22 (by decide) ?_
      refine v_icmp_ge 135 dX4_lays_24 (by decide) (by omega) (by decide) (fun h24 => ?_) (fun h24 => ?_)
      · skip
        refine v_iconst dX4_lays_135 ?_
        refine v_ist3 dX4_lays_136 rfl ?_
        have lp137 : ∀ (dd m : Nat) (N : Mem) (c4 c5 : Option AV), m + dd = 2 → fr [120, 121, 122, 123, 124, 125] M N → (∀ m, m < 2 → N.1 120 m = ((sAct v false m : Nat) : Int)) → (∀ j, j < 8 → N.1 121 j = ((sOpn v st false j : Nat) : Int)) → (∀ m, m < 2 → N.1 122 m = sNs v st false m 192) → (∀ j, j < m → N.1 123 j = sPr v st false j) → vO x Q G cX4_lays RX4 137 [some (aR (some 110)), some (aI (st : Int)), some (aI 0), some (aI (m : Int)), c4, c5, none, none] [] N := by
          intro dd
          induction dd with
          | zero =>
            intro m N c4 c5 hd hFN hacN hopN hndN hprN
            have hLN := fr_lay hFN hLM
            have hvN : N.1 111 = v := (hFN.2 111 (by decide)).trans hv
            refine v_iload_n 3 dX4_lays_137 rfl rfl ?_
            refine v_iconst dX4_lays_138 ?_
            refine v_icmp_ge 190 dX4_lays_139 (by decide) (by omega) (by decide) (fun h139 => ?_) (fun h139 => ?_)
            · skip
              refine v_aload_n 0 dX4_lays_190 rfl rfl ?_
              refine v_getR lk_X4_7 rfl (rfl : SH 110 = _) (mo_0 hLN) dX4_lays_191 ?_
              refine v_iconst dX4_lays_194 ?_
              refine o_iald (j := 0) (u := v (0)) (rfl : SH 111 = _) (by omega) (by omega) (by rw [hvN]) dX4_lays_195 ?_
              refine v_ist3 dX4_lays_196 rfl ?_
              refine v_iconst dX4_lays_197 ?_
              refine v_ist4 dX4_lays_198 rfl ?_
              have lp200 : ∀ (dd s : Nat) (K : Mem) (c5 c6 c7 : Option AV), s + dd = 8 → fr [120, 121, 122, 123, 124, 125] M K → SC4 v st false K → (∀ p, p < 24 * s → K.1 124 p = sAs v st false p) → (∀ p, p < 24 * s → K.1 125 p = sGt v st false p) → vO x Q G cX4_lays RX4 200 [some (aR (some 110)), some (aI (st : Int)), some (aI 0), some (aI (sLf v st false (24 * s))), some (aI (s : Int)), c5, c6, c7] [] K := by
                intro dd
                induction dd with
                | zero =>
                  intro s K c5 c6 c7 hd hFK h4K haK hgK
                  have hLK := fr_lay hFK hLM
                  have hvK : K.1 111 = v := (hFK.2 111 (by decide)).trans hv
                  refine v_iload dX4_lays_200 rfl ?_
                  refine v_bipush dX4_lays_202 (by decide) ?_
                  refine v_icmp_ge 333 dX4_lays_204 (by decide) (by omega) (by decide) (fun h204 => ?_) (fun h204 => ?_)
                  · skip
                    refine o_ret hQ hlk hrt dX4_lays_333 ?_
                    exact ⟨rfl, hFK, h4K, fun p hp => haK p (by omega), fun p hp => hgK p (by omega)⟩
                  · skip
                    exact absurd h204 (by omega)
                | succ dd ih =>
                  intro s K c5 c6 c7 hd hFK h4K haK hgK
                  have hLK := fr_lay hFK hLM
                  have hvK : K.1 111 = v := (hFK.2 111 (by decide)).trans hv
                  refine v_iload dX4_lays_200 rfl ?_
                  refine v_bipush dX4_lays_202 (by decide) ?_
                  refine v_icmp_ge 333 dX4_lays_204 (by decide) (by omega) (by decide) (fun h204 => ?_) (fun h204 => ?_)
                  · skip
                    exact absurd h204 (by omega)
                  · skip
                    have hs : s < 8 := by omega
                    have hmn := sMan_lt hI hs
                    refine v_iconst dX4_lays_207 ?_
                    refine v_ist5 dX4_lays_208 rfl ?_
                    have lp210 : ∀ (dd k : Nat) (N : Mem) (c6 c7 : Option AV), k + dd = 24 → fr [120, 121, 122, 123, 124, 125] M N → SC4 v st false N → (∀ p, p < 24 * s + k → N.1 124 p = sAs v st false p) → (∀ p, p < 24 * s + k → N.1 125 p = sGt v st false p) → vO x Q G cX4_lays RX4 210 [some (aR (some 110)), some (aI (st : Int)), some (aI 0), some (aI (sLf v st false (24 * s + k))), some (aI (s : Int)), some (aI (k : Int)), c6, c7] [] N := by
                      intro dd
                      induction dd with
                      | zero =>
                        intro k N c6 c7 hd2 hFN h4N haN hgN
                        have hLN := fr_lay hFN hLM
                        have hvN : N.1 111 = v := (hFN.2 111 (by decide)).trans hv
                        refine v_iload dX4_lays_210 rfl ?_
                        refine v_bipush dX4_lays_212 (by decide) ?_
                        refine v_icmp_ge 327 dX4_lays_214 (by decide) (by omega) (by decide) (fun h214 => ?_) (fun h214 => ?_)
                        · skip
                          refine v_iinc4 dX4_lays_327 rfl ?_
                          refine v_goto 200 dX4_lays_330 (by decide) ?_
                          rw [show 24 * s + k = 24 * (s + 1) by omega] at haN hgN ⊢
                          exact ih (s + 1) N _ _ _ (by omega) hFN h4N haN hgN
                        · skip
                          exact absurd h214 (by omega)
                      | succ dd ih =>
                        intro k N c6 c7 hd2 hFN h4N haN hgN
                        have hLN := fr_lay hFN hLM
                        have hvN : N.1 111 = v := (hFN.2 111 (by decide)).trans hv
                        refine v_iload dX4_lays_210 rfl ?_
                        refine v_bipush dX4_lays_212 (by decide) ?_
                        refine v_icmp_ge 327 dX4_lays_214 (by decide) (by omega) (by decide) (fun h214 => ?_) (fun h214 => ?_)
                        · skip
                          exact absurd h214 (by omega)
                        · skip
                          have hk : k < 24 := by omega
                          have hol := sOpn_lt hI st false hs
                          have hlf := sLf_b hI st false (24 * s + k) (by omega)
                          have hak := sAk_b hI st false hs hk
                          have hs1 := iv_set hI
                          have hb1 := iv_bel hI
                          refine v_aload_n 0 dX4_lays_217 rfl rfl ?_
                          refine v_getR lk_X4_41 rfl (rfl : SH 110 = _) (mo_12 hLN) dX4_lays_218 ?_
                          refine v_iload dX4_lays_221 rfl ?_
                          refine o_iald (j := s) (u := ((sOpn v st false (s) : Nat) : Int)) (rfl : SH 121 = _) (by omega) (by omega) (h4N.2.1 _ (by omega)) dX4_lays_223 ?_
                          refine v_iload dX4_lays_224 rfl ?_
                          refine v_ishr dX4_lays_226 ?_
                          refine v_iconst dX4_lays_227 ?_
                          refine v_iand dX4_lays_228 ?_
                          refine o_eqI (nu_bitN (n := sOpn v st false s) (by omega) (by omega)) ?_
                          refine v_iconst dX4_lays_229 ?_
                          have jn270 : ∀ z : Int, z = sAk v st false s k → vO x Q G cX4_lays RX4 270 [some (aR (some 110)), some (aI (st : Int)), some (aI 0), some (aI (sLf v st false (24 * s + k))), some (aI (s : Int)), some (aI (k : Int)), c6, c7] [aI z] N := by
                            intro z hz
                            subst hz
                            refine v_ist6 dX4_lays_270 rfl ?_
                            refine v_iload dX4_lays_272 rfl ?_
                            refine v_iload_n 3 dX4_lays_274 rfl rfl ?_
                            have jn284 : ∀ z : Int, z = min (sAk v st false s k) (sLf v st false (24 * s + k)) → vO x Q G cX4_lays RX4 284 [some (aR (some 110)), some (aI (st : Int)), some (aI 0), some (aI (sLf v st false (24 * s + k))), some (aI (s : Int)), some (aI (k : Int)), some (aI (sAk v st false s k)), c7] [aI z] N := by
                              intro z hz
                              subst hz
                              refine v_ist7 dX4_lays_284 rfl ?_
                              refine v_aload_n 0 dX4_lays_286 rfl rfl ?_
                              refine v_getR lk_X4_50 rfl (rfl : SH 110 = _) (mo_15 hLN) dX4_lays_287 ?_
                              refine v_bipush dX4_lays_290 (by decide) ?_
                              refine v_iload dX4_lays_292 rfl ?_
                              refine v_imul dX4_lays_294 ?_
                              refine v_iload dX4_lays_295 rfl ?_
                              refine v_iadd dX4_lays_297 ?_
                              refine v_iload dX4_lays_298 rfl ?_
                              refine o_iast (j := (24 * s) + k) (by omega) (rfl : SH 124 = _) (by omega) (by omega) dX4_lays_300 ?_
                              refine v_aload_n 0 dX4_lays_301 rfl rfl ?_
                              refine v_getR lk_X4_53 rfl (rfl : SH 110 = _) (mo_16 hLN) dX4_lays_302 ?_
                              refine v_bipush dX4_lays_305 (by decide) ?_
                              refine v_iload dX4_lays_307 rfl ?_
                              refine v_imul dX4_lays_309 ?_
                              refine v_iload dX4_lays_310 rfl ?_
                              refine v_iadd dX4_lays_312 ?_
                              refine v_iload dX4_lays_313 rfl ?_
                              refine o_iast (j := (24 * s) + k) (by omega) (rfl : SH 125 = _) (by omega) (by omega) dX4_lays_315 ?_
                              refine v_iload_n 3 dX4_lays_316 rfl rfl ?_
                              refine v_iload dX4_lays_317 rfl ?_
                              refine v_isub dX4_lays_319 ?_
                              refine v_ist3 dX4_lays_320 rfl ?_
                              refine v_iinc5 dX4_lays_321 rfl ?_
                              refine v_goto 210 dX4_lays_324 (by decide) ?_
                              rw [← sLf_step v st false s hk]
                              exact ih (k + 1) _ _ _ (by omega) (fr_up (fr_up hFN (by decide) _ _) (by decide) _ _) (h4N.keep (fr_up (fr_up fr_rf (by decide) _ _) (by decide) _ _)) (fun p hp => by simpa [vup] using as_up hk haN p hp) (fun p hp => by simpa [vup] using gt_up hk hgN p hp)
                            refine v_icmp_ge 283 dX4_lays_275 (by decide) (by omega) (by omega) (fun h275 => ?_) (fun h275 => ?_)
                            · skip
                              refine v_iload_n 3 dX4_lays_283 rfl rfl ?_
                              exact jn284 _ (by omega)
                            · skip
                              refine v_iload dX4_lays_278 rfl ?_
                              refine v_goto 284 dX4_lays_280 (by decide) ?_
                              exact jn284 _ (by omega)
                          refine v_icmp_ne 269 dX4_lays_230 (by decide) (bP_R _) (by decide) (fun h230 => ?_) (fun h230 => ?_)
                          · skip
                            refine v_iconst dX4_lays_269 ?_
                            first | with_reducible exact jn270 _ (ak_1 hI hs hk (bP_1.mp h230)) | with_reducible exact jn270 _ (ak_0 (mt bP_1.mpr h230))
                          · skip
                            refine v_aload_n 0 dX4_lays_233 rfl rfl ?_
                            refine v_iload dX4_lays_234 rfl ?_
                            refine v_iload dX4_lays_236 rfl ?_
                            refine oVv2 4 (c_X4_need hLN hvN hI hs hk) k0_X4_need ki_X4_need ml_X4_111 (rfl : SH 110 = _) (by decide) (vRo_of hxR (by decide) (by decide)) dX4_lays_238 (Nat.le_of_ble_eq_true rfl) ?_
                            refine v_aload_n 0 dX4_lays_241 rfl rfl ?_
                            refine v_getR lk_X4_47 rfl (rfl : SH 110 = _) (mo_14 hLN) dX4_lays_242 ?_
                            refine v_aload_n 0 dX4_lays_245 rfl rfl ?_
                            refine v_getR lk_X4_7 rfl (rfl : SH 110 = _) (mo_0 hLN) dX4_lays_246 ?_
                            refine v_bipush dX4_lays_249 (by decide) ?_
                            refine v_iconst dX4_lays_251 ?_
                            refine v_iload dX4_lays_252 rfl ?_
                            refine v_imul dX4_lays_254 ?_
                            refine v_iadd dX4_lays_255 ?_
                            refine o_iald (j := 24 + (5 * s)) (u := ((sMan v s : Nat) : Int)) (rfl : SH 111 = _) (by omega) (by omega) (by rw [hvN]; exact hmn.2) dX4_lays_256 ?_
                            refine o_iald (j := sMan v s) (u := sPr v st false (sMan v s)) (rfl : SH 123 = _) (by omega) (by omega) (h4N.2.2.2 _ hmn.1) dX4_lays_257 ?_
                            refine v_imul dX4_lays_258 ?_
                            refine v_aload_n 0 dX4_lays_259 rfl rfl ?_
                            refine v_getR lk_X4_7 rfl (rfl : SH 110 = _) (mo_0 hLN) dX4_lays_260 ?_
                            refine v_iconst dX4_lays_263 ?_
                            refine o_iald (j := 1) (u := v (1)) (rfl : SH 111 = _) (by omega) (by omega) (by rw [hvN]) dX4_lays_264 ?_
                            refine v_idiv dX4_lays_265 (ak_R hI hs hk) (by omega) (by omega) ?_
                            refine v_goto 270 dX4_lays_266 (by decide) ?_
                            first | with_reducible exact jn270 _ (ak_1 hI hs hk (bP_1.mp h230)) | with_reducible exact jn270 _ (ak_0 (mt bP_1.mpr h230))
                    exact lp210 24 0 _ _ _ rfl hFK h4K haK hgK
              exact lp200 8 0 _ _ _ _ rfl hFN ⟨hacN, hopN, hndN, fun j hj => hprN j (by omega)⟩ (fun p hp => absurd hp (by omega)) (fun p hp => absurd hp (by omega))
            · skip
              exact absurd h139 (by omega)
          | succ dd ih =>
            intro m N c4 c5 hd hFN hacN hopN hndN hprN
            have hLN := fr_lay hFN hLM
            have hvN : N.1 111 = v := (hFN.2 111 (by decide)).trans hv
            refine v_iload_n 3 dX4_lays_137 rfl rfl ?_
            refine v_iconst dX4_lays_138 ?_
            refine v_icmp_ge 190 dX4_lays_139 (by decide) (by omega) (by decide) (fun h139 => ?_) (fun h139 => ?_)
            · skip
              exact absurd h139 (by omega)
            · skip
              have hm2 : m < 2 := by omega
              have hnl := nl_b hI (st := st) (pr := false) hm2
              have hr1 := sRes_b hI
              have hs1 := iv_set hI
              refine v_aload_n 0 dX4_lays_142 rfl rfl ?_
              refine oVv0 4 (c_X4_reservoir hLN hvN hI) k0_X4_reservoir ki_X4_reservoir ml_X4_114 (rfl : SH 110 = _) (by decide) (vRo_of hxR (by decide) (by decide)) dX4_lays_143 (Nat.le_of_ble_eq_true rfl) ?_
              refine v_aload_n 0 dX4_lays_146 rfl rfl ?_
              refine v_getR lk_X4_44 rfl (rfl : SH 110 = _) (mo_13 hLN) dX4_lays_147 ?_
              refine v_iload_n 3 dX4_lays_150 rfl rfl ?_
              refine o_iald (j := m) (u := sNs v st false m 192) (rfl : SH 122 = _) (by omega) (by omega) (hndN _ hm2) dX4_lays_151 ?_
              refine v_aload_n 0 dX4_lays_152 rfl rfl ?_
              refine v_getR lk_X4_7 rfl (rfl : SH 110 = _) (mo_0 hLN) dX4_lays_153 ?_
              refine v_iconst dX4_lays_156 ?_
              refine v_iload_n 3 dX4_lays_157 rfl rfl ?_
              refine v_iadd dX4_lays_158 ?_
              refine o_iald (j := 2 + m) (u := v (2 + m)) (rfl : SH 111 = _) (by omega) (by omega) (by rw [hvN]) dX4_lays_159 ?_
              refine v_imul dX4_lays_160 ?_
              refine v_bipush dX4_lays_161 (by decide) ?_
              refine v_idiv dX4_lays_163 (by omega) (by decide) (by omega) ?_
              refine o_eqI (nu_tdiv hnl.1) ?_
              refine v_isub dX4_lays_164 ?_
              refine v_ist4 dX4_lays_165 rfl ?_
              refine v_aload_n 0 dX4_lays_167 rfl rfl ?_
              refine v_getR lk_X4_47 rfl (rfl : SH 110 = _) (mo_14 hLN) dX4_lays_168 ?_
              refine v_iload_n 3 dX4_lays_171 rfl rfl ?_
              refine v_iload dX4_lays_172 rfl ?_
              have jn183 : ∀ z : Int, z = sPr v st false m → vO x Q G cX4_lays RX4 183 [some (aR (some 110)), some (aI (st : Int)), some (aI 0), some (aI (m : Int)), some (aI (sRes v - sNs v st false m 192 * v (2 + m) / 100)), c5, none, none] [aI z, aI (m : Int), aR (some 123)] N := by
                intro z hz
                subst hz
                refine o_iast (j := m) (by omega) (rfl : SH 123 = _) (by omega) (by omega) dX4_lays_183 ?_
                refine v_iinc3 dX4_lays_184 rfl ?_
                refine v_goto 137 dX4_lays_187 (by decide) ?_
                exact ih (m + 1) _ _ _ (by omega) (fr_up hFN (by decide) _ _) (fun m hm => by simpa [vup] using hacN m hm) (fun j hj => by simpa [vup] using hopN j hj) (fun m hm => by simpa [vup] using hndN m hm) (fun j hj => by
                  show vup N.1 123 m _ 123 j = _
                  rw [vup_in]
                  by_cases e : j = m
                  · rw [if_pos e, e]
                  · rw [if_neg e]; exact hprN j (by omega))
              refine v_if_ge 181 dX4_lays_174 (by decide) (by omega) (fun h174 => ?_) (fun h174 => ?_)
              · skip
                refine v_iload dX4_lays_181 rfl ?_
                first | with_reducible exact jn183 _ (by unfold sPr; omega) | exact jn183 _ (by unfold sPr; omega)
              · skip
                refine v_iconst dX4_lays_177 ?_
                refine v_goto 183 dX4_lays_178 (by decide) ?_
                first | with_reducible exact jn183 _ (by unfold sPr; omega) | exact jn183 _ (by unfold sPr; omega)
        exact lp137 2 0 _ _ _ rfl hFK hacK (fun j hj => hopK j (by omega)) (fun m hm => by rw [hndK m hm]; congr 1; omega) (fun j hj => absurd hj (by omega))
      · skip
        exact absurd h24 (by omega)
    | succ dd ih =>
      intro s K c4 c5 hd hFK hacK hopK hndK
      have hLK := fr_lay hFK hLM
      have hvK : K.1 111 = v := (hFK.2 111 (by decide)).trans hv
      refine v_iload_n 3 dX4_lays_21 rfl rfl ?_
      refine v_bipush dX4_lays_22 (by decide) ?_
      refine v_icmp_ge 135 dX4_lays_24 (by decide) (by omega) (by decide) (fun h24 => ?_) (fun h24 => ?_)
      · skip
        exact absurd h24 (by omega)
      · skip
        have hs : s < 8 := by omega
        have hmn := sMan_lt hI hs
        refine v_aload_n 0 dX4_lays_27 rfl rfl ?_
        refine v_getR lk_X4_7 rfl (rfl : SH 110 = _) (mo_0 hLK) dX4_lays_28 ?_
        refine v_bipush dX4_lays_31 (by decide) ?_
        refine v_iconst dX4_lays_33 ?_
        refine v_iload_n 3 dX4_lays_34 rfl rfl ?_
        refine v_imul dX4_lays_35 ?_
        refine v_iadd dX4_lays_36 ?_
        refine o_iald (j := 24 + (5 * s)) (u := ((sMan v s : Nat) : Int)) (rfl : SH 111 = _) (by omega) (by omega) (by rw [hvK]; exact hmn.2) dX4_lays_37 ?_
        refine v_ist4 dX4_lays_38 rfl ?_
        refine v_aload_n 0 dX4_lays_40 rfl rfl ?_
        refine v_getR lk_X4_41 rfl (rfl : SH 110 = _) (mo_12 hLK) dX4_lays_41 ?_
        refine v_iload_n 3 dX4_lays_44 rfl rfl ?_
        refine v_iload_n 1 dX4_lays_45 rfl rfl ?_
        refine v_iload_n 3 dX4_lays_46 rfl rfl ?_
        refine v_ishr dX4_lays_47 ?_
        refine v_iconst dX4_lays_48 ?_
        refine v_iand dX4_lays_49 ?_
        refine o_eqI (nu_bitN (n := st) (by omega) (by omega)) ?_
        refine v_iconst dX4_lays_50 ?_
        have jn76 : ∀ z : Int, z = ((sOpn v st false s : Nat) : Int) → vO x Q G cX4_lays RX4 76 [some (aR (some 110)), some (aI (st : Int)), some (aI 0), some (aI (s : Int)), some (aI ((sMan v s : Nat) : Int)), c5, none, none] [aI z, aI (s : Int), aR (some 121)] K := by
          intro z hz
          subst hz
          refine o_iast (j := s) (by omega) (rfl : SH 121 = _) (by omega) (by omega) dX4_lays_76 ?_
          refine v_iconst dX4_lays_77 ?_
          refine v_ist5 dX4_lays_78 rfl ?_
          have lp80 : ∀ (dd k : Nat) (N : Mem), k + dd = 24 → fr [120, 121, 122, 123, 124, 125] M N → (∀ m, m < 2 → N.1 120 m = ((sAct v false m : Nat) : Int)) → (∀ j, j ≤ s → N.1 121 j = ((sOpn v st false j : Nat) : Int)) → (∀ m, m < 2 → N.1 122 m = sNs v st false m (24 * s + k)) → vO x Q G cX4_lays RX4 80 [some (aR (some 110)), some (aI (st : Int)), some (aI 0), some (aI (s : Int)), some (aI ((sMan v s : Nat) : Int)), some (aI (k : Int)), none, none] [] N := by
            intro dd
            induction dd with
            | zero =>
              intro k N hd2 hFN hacN hopN hndN
              have hLN := fr_lay hFN hLM
              have hvN : N.1 111 = v := (hFN.2 111 (by decide)).trans hv
              refine v_iload dX4_lays_80 rfl ?_
              refine v_bipush dX4_lays_82 (by decide) ?_
              refine v_icmp_ge 129 dX4_lays_84 (by decide) (by omega) (by decide) (fun h84 => ?_) (fun h84 => ?_)
              · skip
                refine v_iinc3 dX4_lays_129 rfl ?_
                refine v_goto 21 dX4_lays_132 (by decide) ?_
                exact ih (s + 1) N _ _ (by omega) hFN hacN (fun j hj => hopN j (by omega)) (fun m hm => by rw [hndN m hm]; congr 1; omega)
              · skip
                exact absurd h84 (by omega)
            | succ dd ih =>
              intro k N hd2 hFN hacN hopN hndN
              have hLN := fr_lay hFN hLM
              have hvN : N.1 111 = v := (hFN.2 111 (by decide)).trans hv
              refine v_iload dX4_lays_80 rfl ?_
              refine v_bipush dX4_lays_82 (by decide) ?_
              refine v_icmp_ge 129 dX4_lays_84 (by decide) (by omega) (by decide) (fun h84 => ?_) (fun h84 => ?_)
              · skip
                exact absurd h84 (by omega)
              · skip
                refine v_aload_n 0 dX4_lays_87 rfl rfl ?_
                refine v_getR lk_X4_44 rfl (rfl : SH 110 = _) (mo_13 hLN) dX4_lays_88 ?_
                refine v_iload dX4_lays_91 rfl ?_
                refine v_dup2 dX4_lays_93 rfl rfl ?_
                refine o_iald (j := sMan v s) (u := sNs v st false (sMan v s) (24 * s + k)) (rfl : SH 122 = _) (by omega) (by omega) (hndN _ hmn.1) dX4_lays_94 ?_
                refine v_aload_n 0 dX4_lays_95 rfl rfl ?_
                refine v_getR lk_X4_41 rfl (rfl : SH 110 = _) (mo_12 hLN) dX4_lays_96 ?_
                refine v_iload_n 3 dX4_lays_99 rfl rfl ?_
                refine o_iald (j := s) (u := ((sOpn v st false s : Nat) : Int)) (rfl : SH 121 = _) (by omega) (by omega) (hopN _ (Nat.le_refl _)) dX4_lays_100 ?_
                refine v_iload dX4_lays_101 rfl ?_
                refine v_ishr dX4_lays_103 ?_
                refine v_iconst dX4_lays_104 ?_
                refine v_iand dX4_lays_105 ?_
                have hol := sOpn_lt hI st false hs
                refine o_eqI (nu_bitN (n := sOpn v st false s) (by omega) (by omega)) ?_
                refine v_iconst dX4_lays_106 ?_
                have jn121 : ∀ z : Int, z = sNa v st false s k → vO x Q G cX4_lays RX4 121 [some (aR (some 110)), some (aI (st : Int)), some (aI 0), some (aI (s : Int)), some (aI ((sMan v s : Nat) : Int)), some (aI (k : Int)), none, none] [aI z, aI (sNs v st false (sMan v s) (24 * s + k)), aI ((sMan v s : Nat) : Int), aR (some 122)] N := by
                  intro z hz
                  subst hz
                  refine v_iadd dX4_lays_121 ?_
                  refine o_iast (j := sMan v s) (by omega) (rfl : SH 122 = _) (by omega) (by omega) dX4_lays_122 ?_
                  refine v_iinc5 dX4_lays_123 rfl ?_
                  refine v_goto 80 dX4_lays_126 (by decide) ?_
                  exact ih (k + 1) _ (by omega) (fr_up hFN (by decide) _ _) (fun m hm => by simpa [vup] using hacN m hm) (fun j hj => by simpa [vup] using hopN j hj) (nd_up (by omega) hndN)
                refine v_icmp_ne 120 dX4_lays_107 (by decide) (bP_R _) (by decide) (fun h107 => ?_) (fun h107 => ?_)
                · skip
                  refine v_iconst dX4_lays_120 ?_
                  first | with_reducible exact jn121 _ (na_1 (bP_1.mp h107)) | with_reducible exact jn121 _ (na_0 (mt bP_1.mpr h107))
                · skip
                  refine v_aload_n 0 dX4_lays_110 rfl rfl ?_
                  refine v_iload_n 3 dX4_lays_111 rfl rfl ?_
                  refine v_iload dX4_lays_112 rfl ?_
                  refine oVv2 4 (c_X4_need hLN hvN hI hs (by omega)) k0_X4_need ki_X4_need ml_X4_111 (rfl : SH 110 = _) (by decide) (vRo_of hxR (by decide) (by decide)) dX4_lays_114 (Nat.le_of_ble_eq_true rfl) ?_
                  refine v_goto 121 dX4_lays_117 (by decide) ?_
                  first | with_reducible exact jn121 _ (na_1 (bP_1.mp h107)) | with_reducible exact jn121 _ (na_0 (mt bP_1.mpr h107))
          exact lp80 24 0 _ rfl (fr_up hFK (by decide) _ _) (fun m hm => by simpa [vup] using hacK m hm) (fun j hj => by
              rw [show (vup K.1 121 s ((sOpn v st false s : Nat) : Int), K.2).1 = vup K.1 121 s ((sOpn v st false s : Nat) : Int) from rfl, vup_in]
              by_cases e : j = s
              · rw [if_pos e, e]
              · rw [if_neg e]; exact hopK j (by omega)) (fun m hm => by simpa [vup] using hndK m hm)
        refine v_icmp_ne 75 dX4_lays_51 (by decide) (bP_R _) (by decide) (fun h51 => ?_) (fun h51 => ?_)
        · skip
          refine v_iconst dX4_lays_75 ?_
          first | with_reducible exact jn76 _ (op_1 hI hs (bP_1.mp h51)) | with_reducible exact jn76 _ (op_0 (mt bP_1.mpr h51))
        · skip
          refine v_aload_n 0 dX4_lays_54 rfl rfl ?_
          refine v_getR lk_X4_38 rfl (rfl : SH 110 = _) (mo_11 hLK) dX4_lays_55 ?_
          refine v_iload dX4_lays_58 rfl ?_
          refine o_iald (j := sMan v s) (u := ((sAct v false (sMan v s) : Nat) : Int)) (rfl : SH 120 = _) (by omega) (by omega) (hacK _ (by omega)) dX4_lays_60 ?_
          refine v_aload_n 0 dX4_lays_61 rfl rfl ?_
          refine v_getR lk_X4_7 rfl (rfl : SH 110 = _) (mo_0 hLK) dX4_lays_62 ?_
          refine v_sipush dX4_lays_65 (by decide) ?_
          refine v_iload_n 3 dX4_lays_68 rfl rfl ?_
          refine v_iadd dX4_lays_69 ?_
          refine o_iald (j := 256 + s) (u := v (256 + s)) (rfl : SH 111 = _) (by omega) (by omega) (by rw [hvK]) dX4_lays_70 ?_
          refine v_ior dX4_lays_71 ?_
          refine v_goto 76 dX4_lays_72 (by decide) ?_
          first | with_reducible exact jn76 _ (op_1 hI hs (bP_1.mp h51)) | with_reducible exact jn76 _ (op_0 (mt bP_1.mpr h51))
  exact lp21 8 0 _ _ _ rfl (fr_up (fr_up hFN (by decide) _ _) (by decide) _ _) (fun m hm => by simpa [vup] using hac m hm) (fun j hj => absurd hj (by omega)) (fun m hm => by rcases (show m = 0 ∨ m = 1 by omega) with rfl | rfl <;> simp [vup, sNs])
end
section
theorem i_vc : Claimed_1_1 ∧ Claimed_1_2 := sorry
end
